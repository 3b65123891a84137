/-! TEXTS: the class's grammar does what gP does -/
theorem c_X4_pass {X : pmX} {d : Nat} {v : pmV} {P : Option Value → pmT → pmV → Prop} {T : pmT} {w : Int32} {tok val : Nat → Int32} {N t k : Nat} {cs : List Int32} {e : pmV} (hE : RE T tok val N t e) (hG : GS e t k cs v) (hk : k ≤ N) (k1 : tok k = w → ∀ v', GS e t (k + 1) cs v' → P (some (.int 1)) T v') (k0 : ¬ tok k = w → P (some (.int 0)) T v) : EvP X (d + 1) MX4_pass 0 [.ref 41, .int w] [] T v P := by
  have h5 := hE.2.2.2.2.1
  have h4 := hE.2.2.2.1
  refine ev_aload_n 0 dX4_pass_0 rfl (by decide) ?_
  refine cv_4_62_4 (pc := 1) rfl dX4_pass_1 (kT_41 hE.1) (Nat.le_of_ble_eq_true rfl) ?_
  refine c_X4_token hE hG (by omega) ?_
  refine ev_iload_n 4 dX4_pass_4 rfl ?_
  refine ev_ic_eq 5 10 dX4_pass_5 rfl (fun c_5 => ?_) (fun c_5 => ?_)
  · refine ev_aload_n 10 dX4_pass_10 rfl (by decide) ?_
    refine ev_dup 11 dX4_pass_11 rfl ?_
    refine gf_4_55 (x := nI k) (pc := 12) rfl dX4_pass_12 (kT_41 hE.1) hG.2.1 ?_
    refine ev_iconst 15 dX4_pass_15 kI_1 ?_
    refine ev_iadd 16 dX4_pass_16 ?_
    refine ev_cst (y := nI (k + 1)) (nI_add k 1) ?_
    refine pf_4_55 (pc := 17) rfl dX4_pass_17 (kT_41 hE.1) ?_
    refine ev_abs (Q := GS e t (k + 1) cs) hG.nx (fun v1 hG => ?_)
    refine ev_iconst 20 dX4_pass_20 kI_1 ?_
    refine ev_ireturn 21 dX4_pass_21 rfl rfl ?_
    exact k1 c_5 _ hG
  · refine ev_iconst 8 dX4_pass_8 kI_0 ?_
    refine ev_ireturn 9 dX4_pass_9 rfl rfl ?_
    exact k0 c_5

theorem c_X4_put {X : pmX} {d : Nat} {v : pmV} {P : Option Value → pmT → pmV → Prop} {T : pmT} {c : Int32} {tok val : Nat → Int32} {N t k : Nat} {cs : List Int32} {e : pmV} (hE : RE T tok val N t e) (hG : GS e t k cs v) (hk : k ≤ N) (hc : cs.length < 160) (k1 : ∀ v', GS e t k (cs ++ [c]) v' → P none T v') : EvP X d MX4_put 0 [.ref 41, .int c] [] T v P := by
  have h5 := hE.2.2.2.2.1
  have h4 := hE.2.2.2.1
  refine ev_aload_n 0 dX4_put_0 rfl (by decide) ?_
  refine gf_4_52 (x := nI cs.length) (pc := 1) rfl dX4_put_1 (kT_41 hE.1) hG.2.2.1 ?_
  refine ev_aload_n 4 dX4_put_4 rfl (by decide) ?_
  refine gf_4_27 (pc := 5) rfl dX4_put_5 (kT_41 hE.1) (hE.tx hG) ?_
  refine gf_4_162 (pc := 8) rfl dX4_put_8 (kT_text hE.1 hE.2.2.2.1) (rX_code (hE.x hG) hE.2.2.2.1) ?_
  refine ev_alen (x := 160) 11 dX4_put_11 (by omega) (tT_code hE.1 hE.2.2.2.1) (by decide) (by decide) ?_
  refine ev_ic_geN (a := cs.length) (b := 160) 12 38 dX4_put_12 rfl (by omega) (by omega) (fun c_12 => by omega) (fun c_12 => ?_)
  refine ev_aload_n 15 dX4_put_15 rfl (by decide) ?_
  refine gf_4_27 (pc := 16) rfl dX4_put_16 (kT_41 hE.1) (hE.tx hG) ?_
  refine gf_4_162 (pc := 19) rfl dX4_put_19 (kT_text hE.1 hE.2.2.2.1) (rX_code (hE.x hG) hE.2.2.2.1) ?_
  refine ev_aload_n 22 dX4_put_22 rfl (by decide) ?_
  refine gf_4_52 (x := nI cs.length) (pc := 23) rfl dX4_put_23 (kT_41 hE.1) hG.2.2.1 ?_
  refine ev_iload_n 26 dX4_put_26 rfl ?_
  refine ev_iastJ (j := cs.length) 27 dX4_put_27 (by omega) (tT_code hE.1 hE.2.2.2.1) (pm_inI (by omega) (by omega)) (nI_clamp (by omega)) ?_
  refine ev_aload_n 28 dX4_put_28 rfl (by decide) ?_
  refine ev_dup 29 dX4_put_29 rfl ?_
  refine gf_4_52 (x := nI cs.length) (pc := 30) rfl dX4_put_30 (kT_41 hE.1) ((uI_off (by omega)).trans hG.2.2.1) ?_
  refine ev_iconst 33 dX4_put_33 kI_1 ?_
  refine ev_iadd 34 dX4_put_34 ?_
  refine ev_cst (y := nI (cs.length + 1)) (nI_add cs.length 1) ?_
  refine pf_4_52 (pc := 35) rfl dX4_put_35 (kT_41 hE.1) ?_
  refine ev_return 38 dX4_put_38 rfl ?_
  exact k1 _ (hG.pt c)

def b2i (b : Bool) : Int32 := if b = true then 1 else 0
theorem b2i_01 (b : Bool) : b2i b = 0 ∨ b2i b = 1 := by cases b <;> simp [b2i]
def LgV (X : pmX) (T : pmT) (tok val : Nat → Int32) (N t : Nat) (e : pmV) (M : pmM) (pd : List Value) (l f : Nat) : Prop := ∀ (d op k : Nat) (cs : List Int32) (r : Bool × Nat × List Int32) (v : pmV) (P : Option Value → pmT → pmV → Prop), gP tok val f l op true k cs = some r → op ≤ 5 → k ≤ N → cs.length ≤ k → 8 * (5 - op) + (8 - l) ≤ d → GS e t k cs v → (∀ v', GS e t r.2.1 r.2.2 v' → P (some (.int (b2i r.1))) T v') → EvP X d M 0 (.ref 41 :: .int (nI op) :: pd) [] T v P
def LgP (X : pmX) (T : pmT) (tok val : Nat → Int32) (N t : Nat) (e : pmV) (M : pmM) (pd : List Value) (l f : Nat) : Prop := ∀ (d op k : Nat) (cs : List Int32) (r : Bool × Nat × List Int32) (v : pmV) (P : Option Value → pmT → pmV → Prop) (i : Nat) (g : Bool), gP tok val f (l + 10) op g k cs = some r → op ≤ 5 → k ≤ N → cs.length ≤ k → 8 * (5 - op) + (8 - l) ≤ d → i ≤ k → GS e t k cs v → (∀ v', GS e t r.2.1 r.2.2 v' → P (some (.int (b2i r.1))) T v') → EvP X d M 8 (.ref 41 :: .int (nI op) :: .int (b2i g) :: .int (nI i) :: pd) [] T v P
theorem gP_fuelN {tok val : Nat → Int32} {f l op k : Nat} {g : Bool} {cs : List Int32} {r : Bool × Nat × List Int32} (h : gP tok val f l op g k cs = some r) : ∀ n, gP tok val (f + n) l op g k cs = some r
  | 0 => h
  | n + 1 => gP_fuel _ _ _ _ _ _ _ (gP_fuelN h n)
theorem gP_le {tok val : Nat → Int32} {N : Nat} (hN : tok N = 0) {f l op k : Nat} {g : Bool} {cs : List Int32} {r : Bool × Nat × List Int32} (h : gP tok val f l op g k cs = some r) (hk : k ≤ N) (hl : l ≤ 6 ∨ l = 10 ∨ l = 11 ∨ l = 14 ∨ l = 15) : r.2.1 ≤ N := by
  obtain ⟨r2, h2, h3⟩ := gP_suff (val := val) hN (20 * (N - k) + cW l) l op g k cs hk hl (Nat.le_refl _)
  have a := gP_fuelN h (20 * (N - k) + cW l)
  have b := gP_fuelN h2 f
  rw [Nat.add_comm] at b
  rw [a] at b
  cases b; exact h3
/-- what follows of a level's answer -/
theorem gP_nx {tok val : Nat → Int32} {N : Nat} (hN : tok N = 0) {f l op k : Nat} {g : Bool} {cs : List Int32} {r : Bool × Nat × List Int32} (h : gP tok val f l op g k cs = some r) (hk : k ≤ N) (hc : cs.length ≤ k) (hl : l ≤ 6 ∨ l = 10 ∨ l = 11 ∨ l = 14 ∨ l = 15) : k ≤ r.2.1 ∧ r.2.1 ≤ N ∧ r.2.2.length ≤ r.2.1 ∧ r.2.2.length + k ≤ cs.length + r.2.1 := by
  have a := gP_mono f l op g k cs r h
  exact ⟨a.1, gP_le hN h hk hl, by omega, a.2.1⟩
theorem gP_lv {tok val : Nat → Int32} {f l op k : Nat} {cs : List Int32} {r : Bool × Nat × List Int32} (hl : l = 0 ∨ l = 1 ∨ l = 4 ∨ l = 5) (h : gP tok val (f + 1) l op true k cs = some r) : ∃ q, gP tok val f (l + 1) op true k cs = some q ∧ gP tok val f (l + 10) op q.1 q.2.1 q.2.2 = some r := by
  rw [gP, if_neg (by omega), if_neg (by omega), if_neg (by omega), if_neg (by omega)] at h
  cases hq : gP tok val f (l + 1) op true k cs with
  | none => rw [hq] at h; cases h
  | some q => rw [hq] at h; exact ⟨q, rfl, h⟩
theorem gP_lp {tok val : Nat → Int32} {f l op k : Nat} {g : Bool} {cs : List Int32} {r : Bool × Nat × List Int32} (h : gP tok val (f + 1) (l + 10) op g k cs = some r) : (g = true ∧ bOp l (tok k) ≠ 0 ∧ ∃ q, gP tok val f (l + 1) op true (k + 1) cs = some q ∧ gP tok val f (l + 10) op q.1 q.2.1 (q.2.2 ++ [bOp l (tok k)]) = some r) ∨ (¬ (g = true ∧ bOp l (tok k) ≠ 0) ∧ r = (g, k, cs)) := by
  rw [gP, if_neg (by omega), if_neg (by omega), if_neg (by omega), if_pos (by omega), show l + 10 - 10 = l by omega] at h
  by_cases c : g = true ∧ bOp l (tok k) ≠ 0
  · rw [if_pos c] at h
    cases hq : gP tok val f (l + 1) op true (k + 1) cs with
    | none => rw [hq] at h; cases h
    | some q => rw [hq] at h; exact Or.inl ⟨c.1, c.2, q, rfl, h⟩
  · rw [if_neg c] at h; cases h; exact Or.inr ⟨c, rfl⟩
theorem bOp_0 {c : Int32} : bOp 0 c ≠ 0 ↔ c = 7 := ⟨fun h => by
  by_cases a : c = 7
  · exact a
  · exact absurd (by unfold bOp; simp [a]) h, fun h => by subst h; decide⟩
theorem bOp_1 {c : Int32} : bOp 1 c ≠ 0 ↔ c = 8 := ⟨fun h => by
  by_cases a : c = 8
  · exact a
  · exact absurd (by unfold bOp; simp [a]) h, fun h => by subst h; decide⟩
theorem bOp_5 {c : Int32} : bOp 5 c ≠ 0 ↔ c = 42 := ⟨fun h => by
  by_cases a : c = 42
  · exact a
  · exact absurd (by unfold bOp; simp [a]) h, fun h => by subst h; decide⟩
theorem bOp_4 {c : Int32} : bOp 4 c ≠ 0 ↔ c = 43 ∨ c = 45 := ⟨fun h => by
  by_cases a : c = 43
  · exact Or.inl a
  by_cases b : c = 45
  · exact Or.inr b
  · exact absurd (by unfold bOp; simp [a, b]) h, fun h => by rcases h with rfl | rfl <;> decide⟩
theorem gP_2 {tok val : Nat → Int32} {f op k : Nat} {cs : List Int32} {r : Bool × Nat × List Int32} (h : gP tok val (f + 1) 2 op true k cs = some r) : (tok k = 9 ∧ 5 ≤ op ∧ r = (false, k, cs)) ∨ (tok k = 9 ∧ op < 5 ∧ ∃ q, gP tok val f 2 (op + 1) true (k + 1) cs = some q ∧ r = (q.1, q.2.1, q.2.2 ++ [-7])) ∨ (tok k ≠ 9 ∧ gP tok val f 3 op true k cs = some r) := by
  rw [gP, if_pos rfl] at h
  by_cases c : tok k = 9
  · rw [if_pos c] at h
    by_cases o5 : 5 ≤ op
    · rw [if_pos o5] at h; cases h; exact Or.inl ⟨c, o5, rfl⟩
    · rw [if_neg o5] at h
      cases hq : gP tok val f 2 (op + 1) true (k + 1) cs with
      | none => rw [hq] at h; cases h
      | some q => rw [hq] at h; cases h; exact Or.inr (Or.inl ⟨c, by omega, q, rfl, rfl⟩)
  · rw [if_neg c] at h; exact Or.inr (Or.inr ⟨c, h⟩)
theorem gP_3 {tok val : Nat → Int32} {f op k : Nat} {cs : List Int32} {r : Bool × Nat × List Int32} (h : gP tok val (f + 1) 3 op true k cs = some r) : ∃ q, gP tok val f 4 op true k cs = some q ∧ ((q.1 = false ∧ q = r) ∨ (q.1 = true ∧ tok q.2.1 = 60 ∧ ∃ p, gP tok val f 4 op true (q.2.1 + 1) q.2.2 = some p ∧ r = (p.1, p.2.1, p.2.2 ++ [-11])) ∨ (q.1 = true ∧ tok q.2.1 = 61 ∧ ∃ p, gP tok val f 4 op true (q.2.1 + 1) q.2.2 = some p ∧ r = (p.1, p.2.1, p.2.2 ++ [-12])) ∨ (q.1 = true ∧ tok q.2.1 ≠ 60 ∧ tok q.2.1 ≠ 61 ∧ q = r)) := by
  rw [gP, if_neg (by omega), if_pos rfl] at h
  cases hq : gP tok val f 4 op true k cs with
  | none => rw [hq] at h; cases h
  | some q =>
    rw [hq] at h
    refine ⟨q, rfl, ?_⟩
    dsimp only at h
    by_cases q1 : q.1 = true
    · rw [if_pos q1] at h
      by_cases c6 : tok q.2.1 = 60 ∨ tok q.2.1 = 61
      · rw [if_pos c6] at h
        cases hp : gP tok val f 4 op true (q.2.1 + 1) q.2.2 with
        | none => rw [hp] at h; cases h
        | some p =>
          rw [hp] at h; cases h
          rcases c6 with c | c
          · exact Or.inr (Or.inl ⟨q1, c, p, rfl, by rw [c]; rfl⟩)
          · exact Or.inr (Or.inr (Or.inl ⟨q1, c, p, rfl, by rw [c]; rfl⟩))
      · rw [if_neg c6] at h; cases h; exact Or.inr (Or.inr (Or.inr ⟨q1, fun e => c6 (Or.inl e), fun e => c6 (Or.inr e), rfl⟩))
    · rw [if_neg q1] at h; cases h; exact Or.inl ⟨by simpa using q1, rfl⟩
theorem gP_6 {tok val : Nat → Int32} {f op k : Nat} {cs : List Int32} {r : Bool × Nat × List Int32} (h : gP tok val (f + 1) 6 op true k cs = some r) : ((tok k = 2 ∨ tok k = 3) ∧ r = (true, k + 1, cs ++ [val k])) ∨ ¬ (tok k = 2 ∨ tok k = 3) ∧ ((5 ≤ op ∧ r = (false, k, cs)) ∨ op < 5 ∧ ((tok k = 40 ∧ ∃ q, gP tok val f 0 (op + 1) true (k + 1) cs = some q ∧ ((q.1 = false ∧ r = (false, q.2.1, q.2.2)) ∨ (q.1 = true ∧ tok q.2.1 = 41 ∧ r = (true, q.2.1 + 1, q.2.2)) ∨ (q.1 = true ∧ tok q.2.1 ≠ 41 ∧ r = (false, q.2.1, q.2.2)))) ∨ (tok k = 45 ∧ ∃ q, gP tok val f 6 (op + 1) true (k + 1) cs = some q ∧ r = (q.1, q.2.1, q.2.2 ++ [-8])) ∨ (tok k ≠ 40 ∧ tok k ≠ 45 ∧ r = (false, k, cs)))) := by
  rw [gP, if_neg (by omega), if_neg (by omega), if_pos rfl] at h
  by_cases t2 : tok k = 2 ∨ tok k = 3
  · rw [if_pos t2] at h; cases h; exact Or.inl ⟨t2, rfl⟩
  rw [if_neg t2] at h
  refine Or.inr ⟨t2, ?_⟩
  by_cases o5 : 5 ≤ op
  · rw [if_pos o5] at h; cases h; exact Or.inl ⟨o5, rfl⟩
  rw [if_neg o5] at h
  refine Or.inr ⟨by omega, ?_⟩
  by_cases t40 : tok k = 40
  · rw [if_pos t40] at h
    cases hq : gP tok val f 0 (op + 1) true (k + 1) cs with
    | none => rw [hq] at h; cases h
    | some q =>
      rw [hq] at h
      refine Or.inl ⟨t40, q, rfl, ?_⟩
      dsimp only at h
      by_cases q1 : q.1 = true
      · by_cases c : tok q.2.1 = 41
        · rw [if_pos ⟨q1, c⟩] at h; cases h; exact Or.inr (Or.inl ⟨q1, c, rfl⟩)
        · rw [if_neg (fun e => c e.2)] at h; cases h; exact Or.inr (Or.inr ⟨q1, c, rfl⟩)
      · rw [if_neg (fun e => q1 e.1)] at h; cases h; exact Or.inl ⟨by simpa using q1, rfl⟩
  rw [if_neg t40] at h
  by_cases t45 : tok k = 45
  · rw [if_pos t45] at h
    cases hq : gP tok val f 6 (op + 1) true (k + 1) cs with
    | none => rw [hq] at h; cases h
    | some q => rw [hq] at h; cases h; exact Or.inr (Or.inl ⟨t45, q, rfl, rfl⟩)
  · rw [if_neg t45] at h; cases h; exact Or.inr (Or.inr ⟨t40, t45, rfl⟩)
theorem lv0_s {X : pmX} {T : pmT} {tok val : Nat → Int32} {N t : Nat} {e : pmV} {f : Nat} (hE : RE T tok val N t e) (h1 : LgV X T tok val N t e MX4_readAnd [pmJ, pmJ] 1 f) (h2 : LgP X T tok val N t e MX4_readOr [] 0 f) : LgV X T tok val N t e MX4_readOr [pmJ, pmJ] 0 (f + 1) := by
  intro d op k cs r v P h ho hk hc hd hG K
  have h5 := hE.2.2.2.2.1
  have h4 := hE.2.2.2.1
  obtain ⟨q, hq, h⟩ := gP_lv (by omega) h
  obtain ⟨n1, n2, n3, n4⟩ := gP_nx hE.2.2.2.2.2.1 hq hk hc (by omega)
  obtain ⟨d, rfl⟩ : ∃ d2, d = d2 + 2 := ⟨d - 2, by omega⟩
  refine ev_aload_n 0 dX4_readOr_0 rfl (by decide) ?_
  refine ev_iload_n 1 dX4_readOr_1 rfl ?_
  refine cv_4_141_4 (pc := 2) rfl dX4_readOr_2 (kT_41 hE.1) (Nat.le_of_ble_eq_true rfl) ?_
  refine h1 _ op k cs q _ _ hq (by omega) (by omega) (by omega) (by omega) hG (fun v1 hG => ?_)
  have hb01 := b2i_01 q.1
  refine ev_istore_n (ls' := [.ref 41, .int (nI op), .int (b2i q.1), pmJ]) 5 dX4_readOr_5 (Nat.le_of_ble_eq_true rfl) rfl ?_
  refine ev_iconst 6 dX4_readOr_6 kI_0 ?_
  refine ev_istore_n (ls' := [.ref 41, .int (nI op), .int (b2i q.1), .int 0]) 7 dX4_readOr_7 (Nat.le_of_ble_eq_true rfl) rfl ?_
  exact h2 (d + 2) op q.2.1 q.2.2 r _ P 0 q.1 h ho n2 n3 (by omega) (by omega) hG K
theorem lp0_s {X : pmX} {T : pmT} {tok val : Nat → Int32} {N t : Nat} {e : pmV} {f : Nat} (hE : RE T tok val N t e) (h1 : LgV X T tok val N t e MX4_readAnd [pmJ, pmJ] 1 f) (h2 : LgP X T tok val N t e MX4_readOr [] 0 f) : LgP X T tok val N t e MX4_readOr [] 0 (f + 1) := by
  intro d op k cs r v P i g h ho hk hc hd hi hG K
  have h5 := hE.2.2.2.2.1
  have h4 := hE.2.2.2.1
  obtain ⟨d, rfl⟩ : ∃ d2, d = d2 + 2 := ⟨d - 2, by omega⟩
  rcases gP_lp h with ⟨rfl, hb, q, hq, h⟩ | ⟨hn, rfl⟩
  · have hb := bOp_0.mp hb
    have hkN : k < N := by
      rcases Nat.lt_or_ge k N with a | a
      · exact a
      · rw [show k = N by omega, hE.2.2.2.2.2.1] at hb; exact absurd hb (by decide)
    obtain ⟨n1, n2, n3, n4⟩ := gP_nx hE.2.2.2.2.2.1 hq (by omega) (by omega) (by omega)
    rw [hb, show bOp 0 7 = (-9) by decide] at h
    refine ev_iload_n 8 dX4_readOr_8 rfl ?_
    refine ev_sipush 9 dX4_readOr_9 kS_160 ?_
    refine ev_ic_geN (a := i) (b := 160) 12 46 dX4_readOr_12 rfl (by omega) (by omega) (fun c_12 => by omega) (fun c_12 => ?_)
    refine ev_iload_n 15 dX4_readOr_15 rfl ?_
    refine ev_ifF 16 46 dX4_readOr_16 rfl (by decide) ?_
    refine ev_aload_n 19 dX4_readOr_19 rfl (by decide) ?_
    refine ev_bipush 20 dX4_readOr_20 kB_7 ?_
    refine cv_4_132_4 (pc := 22) rfl dX4_readOr_22 (kT_41 hE.1) (Nat.le_of_ble_eq_true rfl) ?_
    refine c_X4_pass (w := 7) hE hG (by omega) (fun h_22 v1 hG => ?_) (fun h_22 => absurd hb h_22)
    refine ev_ifF 25 46 dX4_readOr_25 rfl (by decide) ?_
    refine ev_aload_n 28 dX4_readOr_28 rfl (by decide) ?_
    refine ev_iload_n 29 dX4_readOr_29 rfl ?_
    refine cv_4_141_4 (pc := 30) rfl dX4_readOr_30 (kT_41 hE.1) (Nat.le_of_ble_eq_true rfl) ?_
    refine h1 _ op (k + 1) cs q _ _ hq (by omega) (by omega) (by omega) (by omega) hG (fun v2 hG => ?_)
    have hb01 := b2i_01 q.1
    refine ev_istore_n (ls' := [.ref 41, .int (nI op), .int (b2i q.1), .int (nI i)]) 33 dX4_readOr_33 (Nat.le_of_ble_eq_true rfl) rfl ?_
    refine ev_aload_n 34 dX4_readOr_34 rfl (by decide) ?_
    refine ev_bipush 35 dX4_readOr_35 kB_m9 ?_
    refine cv_4_144_4 (pc := 37) rfl dX4_readOr_37 (kT_41 hE.1) (Nat.le_of_ble_eq_true rfl) ?_
    refine c_X4_put (c := (-9)) hE hG (by omega) (by omega) (fun v3 hG => ?_)
    refine ev_iinc (y := nI (i + 1)) (ls' := [.ref 41, .int (nI op), .int (b2i q.1), .int (nI (i + 1))]) 40 dX4_readOr_40 rfl (nI_add i 1) rfl ?_
    refine ev_goto 43 8 dX4_readOr_43 rfl ?_
    exact h2 (d + 2) op q.2.1 (q.2.2 ++ [(-9)]) r _ P (i + 1) q.1 h ho n2 (by rw [List.length_append, List.length_singleton]; omega) (by omega) (by omega) hG K
  · cases g with
    | false =>
      refine ev_iload_n 8 dX4_readOr_8 rfl ?_
      refine ev_sipush 9 dX4_readOr_9 kS_160 ?_
      refine ev_ic_geN (a := i) (b := 160) 12 46 dX4_readOr_12 rfl (by omega) (by omega) (fun c_12 => ?_) (fun c_12 => ?_)
      · refine ev_iload_n 46 dX4_readOr_46 rfl ?_
        refine ev_ireturn 47 dX4_readOr_47 rfl rfl ?_
        exact K _ hG
      · refine ev_iload_n 15 dX4_readOr_15 rfl ?_
        refine ev_ifT 16 46 dX4_readOr_16 rfl (by decide) ?_
        refine ev_iload_n 46 dX4_readOr_46 rfl ?_
        refine ev_ireturn 47 dX4_readOr_47 rfl rfl ?_
        exact K _ hG
    | true =>
      have hn : ¬ (tok k = 7) := fun a => hn ⟨rfl, bOp_0.mpr a⟩
      refine ev_iload_n 8 dX4_readOr_8 rfl ?_
      refine ev_sipush 9 dX4_readOr_9 kS_160 ?_
      refine ev_ic_geN (a := i) (b := 160) 12 46 dX4_readOr_12 rfl (by omega) (by omega) (fun c_12 => ?_) (fun c_12 => ?_)
      · refine ev_iload_n 46 dX4_readOr_46 rfl ?_
        refine ev_ireturn 47 dX4_readOr_47 rfl rfl ?_
        exact K _ hG
      · refine ev_iload_n 15 dX4_readOr_15 rfl ?_
        refine ev_ifF 16 46 dX4_readOr_16 rfl (by decide) ?_
        refine ev_aload_n 19 dX4_readOr_19 rfl (by decide) ?_
        refine ev_bipush 20 dX4_readOr_20 kB_7 ?_
        refine cv_4_132_4 (pc := 22) rfl dX4_readOr_22 (kT_41 hE.1) (Nat.le_of_ble_eq_true rfl) ?_
        refine c_X4_pass (w := 7) hE hG (by omega) (fun h_22 => absurd h_22 hn) (fun h_22 => ?_)
        refine ev_ifT 25 46 dX4_readOr_25 rfl (by decide) ?_
        refine ev_iload_n 46 dX4_readOr_46 rfl ?_
        refine ev_ireturn 47 dX4_readOr_47 rfl rfl ?_
        exact K _ hG
theorem lv1_s {X : pmX} {T : pmT} {tok val : Nat → Int32} {N t : Nat} {e : pmV} {f : Nat} (hE : RE T tok val N t e) (h1 : LgV X T tok val N t e MX4_readNot [pmJ] 2 f) (h2 : LgP X T tok val N t e MX4_readAnd [] 1 f) : LgV X T tok val N t e MX4_readAnd [pmJ, pmJ] 1 (f + 1) := by
  intro d op k cs r v P h ho hk hc hd hG K
  have h5 := hE.2.2.2.2.1
  have h4 := hE.2.2.2.1
  obtain ⟨q, hq, h⟩ := gP_lv (by omega) h
  obtain ⟨n1, n2, n3, n4⟩ := gP_nx hE.2.2.2.2.2.1 hq hk hc (by omega)
  obtain ⟨d, rfl⟩ : ∃ d2, d = d2 + 2 := ⟨d - 2, by omega⟩
  refine ev_aload_n 0 dX4_readAnd_0 rfl (by decide) ?_
  refine ev_iload_n 1 dX4_readAnd_1 rfl ?_
  refine cv_4_147_4 (pc := 2) rfl dX4_readAnd_2 (kT_41 hE.1) (Nat.le_of_ble_eq_true rfl) ?_
  refine h1 _ op k cs q _ _ hq (by omega) (by omega) (by omega) (by omega) hG (fun v1 hG => ?_)
  have hb01 := b2i_01 q.1
  refine ev_istore_n (ls' := [.ref 41, .int (nI op), .int (b2i q.1), pmJ]) 5 dX4_readAnd_5 (Nat.le_of_ble_eq_true rfl) rfl ?_
  refine ev_iconst 6 dX4_readAnd_6 kI_0 ?_
  refine ev_istore_n (ls' := [.ref 41, .int (nI op), .int (b2i q.1), .int 0]) 7 dX4_readAnd_7 (Nat.le_of_ble_eq_true rfl) rfl ?_
  exact h2 (d + 2) op q.2.1 q.2.2 r _ P 0 q.1 h ho n2 n3 (by omega) (by omega) hG K
theorem lp1_s {X : pmX} {T : pmT} {tok val : Nat → Int32} {N t : Nat} {e : pmV} {f : Nat} (hE : RE T tok val N t e) (h1 : LgV X T tok val N t e MX4_readNot [pmJ] 2 f) (h2 : LgP X T tok val N t e MX4_readAnd [] 1 f) : LgP X T tok val N t e MX4_readAnd [] 1 (f + 1) := by
  intro d op k cs r v P i g h ho hk hc hd hi hG K
  have h5 := hE.2.2.2.2.1
  have h4 := hE.2.2.2.1
  obtain ⟨d, rfl⟩ : ∃ d2, d = d2 + 2 := ⟨d - 2, by omega⟩
  rcases gP_lp h with ⟨rfl, hb, q, hq, h⟩ | ⟨hn, rfl⟩
  · have hb := bOp_1.mp hb
    have hkN : k < N := by
      rcases Nat.lt_or_ge k N with a | a
      · exact a
      · rw [show k = N by omega, hE.2.2.2.2.2.1] at hb; exact absurd hb (by decide)
    obtain ⟨n1, n2, n3, n4⟩ := gP_nx hE.2.2.2.2.2.1 hq (by omega) (by omega) (by omega)
    rw [hb, show bOp 1 8 = (-10) by decide] at h
    refine ev_iload_n 8 dX4_readAnd_8 rfl ?_
    refine ev_sipush 9 dX4_readAnd_9 kS_160 ?_
    refine ev_ic_geN (a := i) (b := 160) 12 46 dX4_readAnd_12 rfl (by omega) (by omega) (fun c_12 => by omega) (fun c_12 => ?_)
    refine ev_iload_n 15 dX4_readAnd_15 rfl ?_
    refine ev_ifF 16 46 dX4_readAnd_16 rfl (by decide) ?_
    refine ev_aload_n 19 dX4_readAnd_19 rfl (by decide) ?_
    refine ev_bipush 20 dX4_readAnd_20 kB_8 ?_
    refine cv_4_132_4 (pc := 22) rfl dX4_readAnd_22 (kT_41 hE.1) (Nat.le_of_ble_eq_true rfl) ?_
    refine c_X4_pass (w := 8) hE hG (by omega) (fun h_22 v1 hG => ?_) (fun h_22 => absurd hb h_22)
    refine ev_ifF 25 46 dX4_readAnd_25 rfl (by decide) ?_
    refine ev_aload_n 28 dX4_readAnd_28 rfl (by decide) ?_
    refine ev_iload_n 29 dX4_readAnd_29 rfl ?_
    refine cv_4_147_4 (pc := 30) rfl dX4_readAnd_30 (kT_41 hE.1) (Nat.le_of_ble_eq_true rfl) ?_
    refine h1 _ op (k + 1) cs q _ _ hq (by omega) (by omega) (by omega) (by omega) hG (fun v2 hG => ?_)
    have hb01 := b2i_01 q.1
    refine ev_istore_n (ls' := [.ref 41, .int (nI op), .int (b2i q.1), .int (nI i)]) 33 dX4_readAnd_33 (Nat.le_of_ble_eq_true rfl) rfl ?_
    refine ev_aload_n 34 dX4_readAnd_34 rfl (by decide) ?_
    refine ev_bipush 35 dX4_readAnd_35 kB_m10 ?_
    refine cv_4_144_4 (pc := 37) rfl dX4_readAnd_37 (kT_41 hE.1) (Nat.le_of_ble_eq_true rfl) ?_
    refine c_X4_put (c := (-10)) hE hG (by omega) (by omega) (fun v3 hG => ?_)
    refine ev_iinc (y := nI (i + 1)) (ls' := [.ref 41, .int (nI op), .int (b2i q.1), .int (nI (i + 1))]) 40 dX4_readAnd_40 rfl (nI_add i 1) rfl ?_
    refine ev_goto 43 8 dX4_readAnd_43 rfl ?_
    exact h2 (d + 2) op q.2.1 (q.2.2 ++ [(-10)]) r _ P (i + 1) q.1 h ho n2 (by rw [List.length_append, List.length_singleton]; omega) (by omega) (by omega) hG K
  · cases g with
    | false =>
      refine ev_iload_n 8 dX4_readAnd_8 rfl ?_
      refine ev_sipush 9 dX4_readAnd_9 kS_160 ?_
      refine ev_ic_geN (a := i) (b := 160) 12 46 dX4_readAnd_12 rfl (by omega) (by omega) (fun c_12 => ?_) (fun c_12 => ?_)
      · refine ev_iload_n 46 dX4_readAnd_46 rfl ?_
        refine ev_ireturn 47 dX4_readAnd_47 rfl rfl ?_
        exact K _ hG
      · refine ev_iload_n 15 dX4_readAnd_15 rfl ?_
        refine ev_ifT 16 46 dX4_readAnd_16 rfl (by decide) ?_
        refine ev_iload_n 46 dX4_readAnd_46 rfl ?_
        refine ev_ireturn 47 dX4_readAnd_47 rfl rfl ?_
        exact K _ hG
    | true =>
      have hn : ¬ (tok k = 8) := fun a => hn ⟨rfl, bOp_1.mpr a⟩
      refine ev_iload_n 8 dX4_readAnd_8 rfl ?_
      refine ev_sipush 9 dX4_readAnd_9 kS_160 ?_
      refine ev_ic_geN (a := i) (b := 160) 12 46 dX4_readAnd_12 rfl (by omega) (by omega) (fun c_12 => ?_) (fun c_12 => ?_)
      · refine ev_iload_n 46 dX4_readAnd_46 rfl ?_
        refine ev_ireturn 47 dX4_readAnd_47 rfl rfl ?_
        exact K _ hG
      · refine ev_iload_n 15 dX4_readAnd_15 rfl ?_
        refine ev_ifF 16 46 dX4_readAnd_16 rfl (by decide) ?_
        refine ev_aload_n 19 dX4_readAnd_19 rfl (by decide) ?_
        refine ev_bipush 20 dX4_readAnd_20 kB_8 ?_
        refine cv_4_132_4 (pc := 22) rfl dX4_readAnd_22 (kT_41 hE.1) (Nat.le_of_ble_eq_true rfl) ?_
        refine c_X4_pass (w := 8) hE hG (by omega) (fun h_22 => absurd h_22 hn) (fun h_22 => ?_)
        refine ev_ifT 25 46 dX4_readAnd_25 rfl (by decide) ?_
        refine ev_iload_n 46 dX4_readAnd_46 rfl ?_
        refine ev_ireturn 47 dX4_readAnd_47 rfl rfl ?_
        exact K _ hG
theorem lv4_s {X : pmX} {T : pmT} {tok val : Nat → Int32} {N t : Nat} {e : pmV} {f : Nat} (hE : RE T tok val N t e) (h1 : LgV X T tok val N t e MX4_readTerm [pmJ, pmJ] 5 f) (h2 : ∀ w, LgP X T tok val N t e MX4_readSum [w] 4 f) : LgV X T tok val N t e MX4_readSum [pmJ, pmJ, pmJ] 4 (f + 1) := by
  intro d op k cs r v P h ho hk hc hd hG K
  have h5 := hE.2.2.2.2.1
  have h4 := hE.2.2.2.1
  obtain ⟨q, hq, h⟩ := gP_lv (by omega) h
  obtain ⟨n1, n2, n3, n4⟩ := gP_nx hE.2.2.2.2.2.1 hq hk hc (by omega)
  obtain ⟨d, rfl⟩ : ∃ d2, d = d2 + 2 := ⟨d - 2, by omega⟩
  refine ev_aload_n 0 dX4_readSum_0 rfl (by decide) ?_
  refine ev_iload_n 1 dX4_readSum_1 rfl ?_
  refine cv_4_156_4 (pc := 2) rfl dX4_readSum_2 (kT_41 hE.1) (Nat.le_of_ble_eq_true rfl) ?_
  refine h1 _ op k cs q _ _ hq (by omega) (by omega) (by omega) (by omega) hG (fun v1 hG => ?_)
  have hb01 := b2i_01 q.1
  refine ev_istore_n (ls' := [.ref 41, .int (nI op), .int (b2i q.1), pmJ, pmJ]) 5 dX4_readSum_5 (Nat.le_of_ble_eq_true rfl) rfl ?_
  refine ev_iconst 6 dX4_readSum_6 kI_0 ?_
  refine ev_istore_n (ls' := [.ref 41, .int (nI op), .int (b2i q.1), .int 0, pmJ]) 7 dX4_readSum_7 (Nat.le_of_ble_eq_true rfl) rfl ?_
  exact h2 _ (d + 2) op q.2.1 q.2.2 r _ P 0 q.1 h ho n2 n3 (by omega) (by omega) hG K
theorem lp4_s {X : pmX} {T : pmT} {tok val : Nat → Int32} {N t : Nat} {e : pmV} {f : Nat} (hE : RE T tok val N t e) (h1 : LgV X T tok val N t e MX4_readTerm [pmJ, pmJ] 5 f) (h2 : ∀ w, LgP X T tok val N t e MX4_readSum [w] 4 f) : ∀ w, LgP X T tok val N t e MX4_readSum [w] 4 (f + 1) := by
  intro w
  intro d op k cs r v P i g h ho hk hc hd hi hG K
  have h5 := hE.2.2.2.2.1
  have h4 := hE.2.2.2.1
  obtain ⟨d, rfl⟩ : ∃ d2, d = d2 + 2 := ⟨d - 2, by omega⟩
  rcases gP_lp h with ⟨rfl, hb, q, hq, h⟩ | ⟨hn, rfl⟩
  · have hb := bOp_4.mp hb
    have hkN : k < N := by
      rcases Nat.lt_or_ge k N with a | a
      · exact a
      · rw [show k = N by omega, hE.2.2.2.2.2.1] at hb; exact absurd hb (by decide)
    obtain ⟨n1, n2, n3, n4⟩ := gP_nx hE.2.2.2.2.2.1 hq (by omega) (by omega) (by omega)
    rcases hb with hb | hb
    · rw [hb, show bOp 4 43 = (-13) by decide] at h
      refine ev_iload_n 8 dX4_readSum_8 rfl ?_
      refine ev_sipush 9 dX4_readSum_9 kS_160 ?_
      refine ev_ic_geN (a := i) (b := 160) 12 83 dX4_readSum_12 rfl (by omega) (by omega) (fun c_12 => by omega) (fun c_12 => ?_)
      refine ev_iload_n 15 dX4_readSum_15 rfl ?_
      refine ev_ifF 16 83 dX4_readSum_16 rfl (by decide) ?_
      refine ev_aload_n 19 dX4_readSum_19 rfl (by decide) ?_
      refine cv_4_62_4 (pc := 20) rfl dX4_readSum_20 (kT_41 hE.1) (Nat.le_of_ble_eq_true rfl) ?_
      refine c_X4_token hE hG (by omega) ?_
      refine ev_cst (y := 43) hb ?_
      refine ev_bipush 23 dX4_readSum_23 kB_43 ?_
      refine ev_icT 25 37 dX4_readSum_25 rfl (by decide) ?_
      refine ev_aload_n 37 dX4_readSum_37 rfl (by decide) ?_
      refine cv_4_62_4 (pc := 38) rfl dX4_readSum_38 (kT_41 hE.1) (Nat.le_of_ble_eq_true rfl) ?_
      refine c_X4_token hE hG (by omega) ?_
      refine ev_cst (y := 43) hb ?_
      refine ev_bipush 41 dX4_readSum_41 kB_43 ?_
      refine ev_icF 43 51 dX4_readSum_43 rfl (by decide) ?_
      refine ev_bipush 46 dX4_readSum_46 kB_m13 ?_
      refine ev_goto 48 53 dX4_readSum_48 rfl ?_
      refine ev_istore (ls' := [.ref 41, .int (nI op), .int 1, .int (nI i), .int (-13)]) 53 dX4_readSum_53 (Nat.le_of_ble_eq_true rfl) rfl ?_
      refine ev_aload_n 55 dX4_readSum_55 rfl (by decide) ?_
      refine ev_dup 56 dX4_readSum_56 rfl ?_
      refine gf_4_55 (x := nI k) (pc := 57) rfl dX4_readSum_57 (kT_41 hE.1) hG.2.1 ?_
      refine ev_iconst 60 dX4_readSum_60 kI_1 ?_
      refine ev_iadd 61 dX4_readSum_61 ?_
      refine ev_cst (y := nI (k + 1)) (nI_add k 1) ?_
      refine pf_4_55 (pc := 62) rfl dX4_readSum_62 (kT_41 hE.1) ?_
      refine ev_abs (Q := GS e t (k + 1) cs) hG.nx (fun v1 hG => ?_)
      refine ev_aload_n 65 dX4_readSum_65 rfl (by decide) ?_
      refine ev_iload_n 66 dX4_readSum_66 rfl ?_
      refine cv_4_156_4 (pc := 67) rfl dX4_readSum_67 (kT_41 hE.1) (Nat.le_of_ble_eq_true rfl) ?_
      refine h1 _ op (k + 1) cs q _ _ hq (by omega) (by omega) (by omega) (by omega) hG (fun v2 hG => ?_)
      have hb01 := b2i_01 q.1
      refine ev_istore_n (ls' := [.ref 41, .int (nI op), .int (b2i q.1), .int (nI i), .int (-13)]) 70 dX4_readSum_70 (Nat.le_of_ble_eq_true rfl) rfl ?_
      refine ev_aload_n 71 dX4_readSum_71 rfl (by decide) ?_
      refine ev_iload 72 dX4_readSum_72 rfl ?_
      refine cv_4_144_4 (pc := 74) rfl dX4_readSum_74 (kT_41 hE.1) (Nat.le_of_ble_eq_true rfl) ?_
      refine c_X4_put (c := (-13)) hE hG (by omega) (by omega) (fun v3 hG => ?_)
      refine ev_iinc (y := nI (i + 1)) (ls' := [.ref 41, .int (nI op), .int (b2i q.1), .int (nI (i + 1)), .int (-13)]) 77 dX4_readSum_77 rfl (nI_add i 1) rfl ?_
      refine ev_goto 80 8 dX4_readSum_80 rfl ?_
      exact h2 _ (d + 2) op q.2.1 (q.2.2 ++ [(-13)]) r _ P (i + 1) q.1 h ho n2 (by rw [List.length_append, List.length_singleton]; omega) (by omega) (by omega) hG K
    · rw [hb, show bOp 4 45 = (-14) by decide] at h
      refine ev_iload_n 8 dX4_readSum_8 rfl ?_
      refine ev_sipush 9 dX4_readSum_9 kS_160 ?_
      refine ev_ic_geN (a := i) (b := 160) 12 83 dX4_readSum_12 rfl (by omega) (by omega) (fun c_12 => by omega) (fun c_12 => ?_)
      refine ev_iload_n 15 dX4_readSum_15 rfl ?_
      refine ev_ifF 16 83 dX4_readSum_16 rfl (by decide) ?_
      refine ev_aload_n 19 dX4_readSum_19 rfl (by decide) ?_
      refine cv_4_62_4 (pc := 20) rfl dX4_readSum_20 (kT_41 hE.1) (Nat.le_of_ble_eq_true rfl) ?_
      refine c_X4_token hE hG (by omega) ?_
      refine ev_cst (y := 45) hb ?_
      refine ev_bipush 23 dX4_readSum_23 kB_43 ?_
      refine ev_icF 25 37 dX4_readSum_25 rfl (by decide) ?_
      refine ev_aload_n 28 dX4_readSum_28 rfl (by decide) ?_
      refine cv_4_62_4 (pc := 29) rfl dX4_readSum_29 (kT_41 hE.1) (Nat.le_of_ble_eq_true rfl) ?_
      refine c_X4_token hE hG (by omega) ?_
      refine ev_cst (y := 45) hb ?_
      refine ev_bipush 32 dX4_readSum_32 kB_45 ?_
      refine ev_icF 34 83 dX4_readSum_34 rfl (by decide) ?_
      refine ev_aload_n 37 dX4_readSum_37 rfl (by decide) ?_
      refine cv_4_62_4 (pc := 38) rfl dX4_readSum_38 (kT_41 hE.1) (Nat.le_of_ble_eq_true rfl) ?_
      refine c_X4_token hE hG (by omega) ?_
      refine ev_cst (y := 45) hb ?_
      refine ev_bipush 41 dX4_readSum_41 kB_43 ?_
      refine ev_icT 43 51 dX4_readSum_43 rfl (by decide) ?_
      refine ev_bipush 51 dX4_readSum_51 kB_m14 ?_
      refine ev_istore (ls' := [.ref 41, .int (nI op), .int 1, .int (nI i), .int (-14)]) 53 dX4_readSum_53 (Nat.le_of_ble_eq_true rfl) rfl ?_
      refine ev_aload_n 55 dX4_readSum_55 rfl (by decide) ?_
      refine ev_dup 56 dX4_readSum_56 rfl ?_
      refine gf_4_55 (x := nI k) (pc := 57) rfl dX4_readSum_57 (kT_41 hE.1) hG.2.1 ?_
      refine ev_iconst 60 dX4_readSum_60 kI_1 ?_
      refine ev_iadd 61 dX4_readSum_61 ?_
      refine ev_cst (y := nI (k + 1)) (nI_add k 1) ?_
      refine pf_4_55 (pc := 62) rfl dX4_readSum_62 (kT_41 hE.1) ?_
      refine ev_abs (Q := GS e t (k + 1) cs) hG.nx (fun v1 hG => ?_)
      refine ev_aload_n 65 dX4_readSum_65 rfl (by decide) ?_
      refine ev_iload_n 66 dX4_readSum_66 rfl ?_
      refine cv_4_156_4 (pc := 67) rfl dX4_readSum_67 (kT_41 hE.1) (Nat.le_of_ble_eq_true rfl) ?_
      refine h1 _ op (k + 1) cs q _ _ hq (by omega) (by omega) (by omega) (by omega) hG (fun v2 hG => ?_)
      have hb01 := b2i_01 q.1
      refine ev_istore_n (ls' := [.ref 41, .int (nI op), .int (b2i q.1), .int (nI i), .int (-14)]) 70 dX4_readSum_70 (Nat.le_of_ble_eq_true rfl) rfl ?_
      refine ev_aload_n 71 dX4_readSum_71 rfl (by decide) ?_
      refine ev_iload 72 dX4_readSum_72 rfl ?_
      refine cv_4_144_4 (pc := 74) rfl dX4_readSum_74 (kT_41 hE.1) (Nat.le_of_ble_eq_true rfl) ?_
      refine c_X4_put (c := (-14)) hE hG (by omega) (by omega) (fun v3 hG => ?_)
      refine ev_iinc (y := nI (i + 1)) (ls' := [.ref 41, .int (nI op), .int (b2i q.1), .int (nI (i + 1)), .int (-14)]) 77 dX4_readSum_77 rfl (nI_add i 1) rfl ?_
      refine ev_goto 80 8 dX4_readSum_80 rfl ?_
      exact h2 _ (d + 2) op q.2.1 (q.2.2 ++ [(-14)]) r _ P (i + 1) q.1 h ho n2 (by rw [List.length_append, List.length_singleton]; omega) (by omega) (by omega) hG K
  · cases g with
    | false =>
      refine ev_iload_n 8 dX4_readSum_8 rfl ?_
      refine ev_sipush 9 dX4_readSum_9 kS_160 ?_
      refine ev_ic_geN (a := i) (b := 160) 12 83 dX4_readSum_12 rfl (by omega) (by omega) (fun c_12 => ?_) (fun c_12 => ?_)
      · refine ev_iload_n 83 dX4_readSum_83 rfl ?_
        refine ev_ireturn 84 dX4_readSum_84 rfl rfl ?_
        exact K _ hG
      · refine ev_iload_n 15 dX4_readSum_15 rfl ?_
        refine ev_ifT 16 83 dX4_readSum_16 rfl (by decide) ?_
        refine ev_iload_n 83 dX4_readSum_83 rfl ?_
        refine ev_ireturn 84 dX4_readSum_84 rfl rfl ?_
        exact K _ hG
    | true =>
      have hn : ¬ (tok k = 43 ∨ tok k = 45) := fun a => hn ⟨rfl, bOp_4.mpr a⟩
      refine ev_iload_n 8 dX4_readSum_8 rfl ?_
      refine ev_sipush 9 dX4_readSum_9 kS_160 ?_
      refine ev_ic_geN (a := i) (b := 160) 12 83 dX4_readSum_12 rfl (by omega) (by omega) (fun c_12 => ?_) (fun c_12 => ?_)
      · refine ev_iload_n 83 dX4_readSum_83 rfl ?_
        refine ev_ireturn 84 dX4_readSum_84 rfl rfl ?_
        exact K _ hG
      · refine ev_iload_n 15 dX4_readSum_15 rfl ?_
        refine ev_ifF 16 83 dX4_readSum_16 rfl (by decide) ?_
        refine ev_aload_n 19 dX4_readSum_19 rfl (by decide) ?_
        refine cv_4_62_4 (pc := 20) rfl dX4_readSum_20 (kT_41 hE.1) (Nat.le_of_ble_eq_true rfl) ?_
        refine c_X4_token hE hG (by omega) ?_
        refine ev_bipush 23 dX4_readSum_23 kB_43 ?_
        refine ev_ic_eq 25 37 dX4_readSum_25 rfl (fun c_25 => absurd (Or.inl c_25) hn) (fun c_25 => ?_)
        refine ev_aload_n 28 dX4_readSum_28 rfl (by decide) ?_
        refine cv_4_62_4 (pc := 29) rfl dX4_readSum_29 (kT_41 hE.1) (Nat.le_of_ble_eq_true rfl) ?_
        refine c_X4_token hE hG (by omega) ?_
        refine ev_bipush 32 dX4_readSum_32 kB_45 ?_
        refine ev_ic_ne 34 83 dX4_readSum_34 rfl (fun c_34 => ?_) (fun c_34 => absurd (Or.inr (show tok k = 45 from by simpa using c_34)) hn)
        refine ev_iload_n 83 dX4_readSum_83 rfl ?_
        refine ev_ireturn 84 dX4_readSum_84 rfl rfl ?_
        exact K _ hG
theorem lv5_s {X : pmX} {T : pmT} {tok val : Nat → Int32} {N t : Nat} {e : pmV} {f : Nat} (hE : RE T tok val N t e) (h1 : LgV X T tok val N t e MX4_readOne [pmJ] 6 f) (h2 : LgP X T tok val N t e MX4_readTerm [] 5 f) : LgV X T tok val N t e MX4_readTerm [pmJ, pmJ] 5 (f + 1) := by
  intro d op k cs r v P h ho hk hc hd hG K
  have h5 := hE.2.2.2.2.1
  have h4 := hE.2.2.2.1
  obtain ⟨q, hq, h⟩ := gP_lv (by omega) h
  obtain ⟨n1, n2, n3, n4⟩ := gP_nx hE.2.2.2.2.2.1 hq hk hc (by omega)
  obtain ⟨d, rfl⟩ : ∃ d2, d = d2 + 2 := ⟨d - 2, by omega⟩
  refine ev_aload_n 0 dX4_readTerm_0 rfl (by decide) ?_
  refine ev_iload_n 1 dX4_readTerm_1 rfl ?_
  refine cv_4_159_4 (pc := 2) rfl dX4_readTerm_2 (kT_41 hE.1) (Nat.le_of_ble_eq_true rfl) ?_
  refine h1 _ op k cs q _ _ hq (by omega) (by omega) (by omega) (by omega) hG (fun v1 hG => ?_)
  have hb01 := b2i_01 q.1
  refine ev_istore_n (ls' := [.ref 41, .int (nI op), .int (b2i q.1), pmJ]) 5 dX4_readTerm_5 (Nat.le_of_ble_eq_true rfl) rfl ?_
  refine ev_iconst 6 dX4_readTerm_6 kI_0 ?_
  refine ev_istore_n (ls' := [.ref 41, .int (nI op), .int (b2i q.1), .int 0]) 7 dX4_readTerm_7 (Nat.le_of_ble_eq_true rfl) rfl ?_
  exact h2 (d + 2) op q.2.1 q.2.2 r _ P 0 q.1 h ho n2 n3 (by omega) (by omega) hG K
theorem lp5_s {X : pmX} {T : pmT} {tok val : Nat → Int32} {N t : Nat} {e : pmV} {f : Nat} (hE : RE T tok val N t e) (h1 : LgV X T tok val N t e MX4_readOne [pmJ] 6 f) (h2 : LgP X T tok val N t e MX4_readTerm [] 5 f) : LgP X T tok val N t e MX4_readTerm [] 5 (f + 1) := by
  intro d op k cs r v P i g h ho hk hc hd hi hG K
  have h5 := hE.2.2.2.2.1
  have h4 := hE.2.2.2.1
  obtain ⟨d, rfl⟩ : ∃ d2, d = d2 + 2 := ⟨d - 2, by omega⟩
  rcases gP_lp h with ⟨rfl, hb, q, hq, h⟩ | ⟨hn, rfl⟩
  · have hb := bOp_5.mp hb
    have hkN : k < N := by
      rcases Nat.lt_or_ge k N with a | a
      · exact a
      · rw [show k = N by omega, hE.2.2.2.2.2.1] at hb; exact absurd hb (by decide)
    obtain ⟨n1, n2, n3, n4⟩ := gP_nx hE.2.2.2.2.2.1 hq (by omega) (by omega) (by omega)
    rw [hb, show bOp 5 42 = (-15) by decide] at h
    refine ev_iload_n 8 dX4_readTerm_8 rfl ?_
    refine ev_sipush 9 dX4_readTerm_9 kS_160 ?_
    refine ev_ic_geN (a := i) (b := 160) 12 46 dX4_readTerm_12 rfl (by omega) (by omega) (fun c_12 => by omega) (fun c_12 => ?_)
    refine ev_iload_n 15 dX4_readTerm_15 rfl ?_
    refine ev_ifF 16 46 dX4_readTerm_16 rfl (by decide) ?_
    refine ev_aload_n 19 dX4_readTerm_19 rfl (by decide) ?_
    refine ev_bipush 20 dX4_readTerm_20 kB_42 ?_
    refine cv_4_132_4 (pc := 22) rfl dX4_readTerm_22 (kT_41 hE.1) (Nat.le_of_ble_eq_true rfl) ?_
    refine c_X4_pass (w := 42) hE hG (by omega) (fun h_22 v1 hG => ?_) (fun h_22 => absurd hb h_22)
    refine ev_ifF 25 46 dX4_readTerm_25 rfl (by decide) ?_
    refine ev_aload_n 28 dX4_readTerm_28 rfl (by decide) ?_
    refine ev_iload_n 29 dX4_readTerm_29 rfl ?_
    refine cv_4_159_4 (pc := 30) rfl dX4_readTerm_30 (kT_41 hE.1) (Nat.le_of_ble_eq_true rfl) ?_
    refine h1 _ op (k + 1) cs q _ _ hq (by omega) (by omega) (by omega) (by omega) hG (fun v2 hG => ?_)
    have hb01 := b2i_01 q.1
    refine ev_istore_n (ls' := [.ref 41, .int (nI op), .int (b2i q.1), .int (nI i)]) 33 dX4_readTerm_33 (Nat.le_of_ble_eq_true rfl) rfl ?_
    refine ev_aload_n 34 dX4_readTerm_34 rfl (by decide) ?_
    refine ev_bipush 35 dX4_readTerm_35 kB_m15 ?_
    refine cv_4_144_4 (pc := 37) rfl dX4_readTerm_37 (kT_41 hE.1) (Nat.le_of_ble_eq_true rfl) ?_
    refine c_X4_put (c := (-15)) hE hG (by omega) (by omega) (fun v3 hG => ?_)
    refine ev_iinc (y := nI (i + 1)) (ls' := [.ref 41, .int (nI op), .int (b2i q.1), .int (nI (i + 1))]) 40 dX4_readTerm_40 rfl (nI_add i 1) rfl ?_
    refine ev_goto 43 8 dX4_readTerm_43 rfl ?_
    exact h2 (d + 2) op q.2.1 (q.2.2 ++ [(-15)]) r _ P (i + 1) q.1 h ho n2 (by rw [List.length_append, List.length_singleton]; omega) (by omega) (by omega) hG K
  · cases g with
    | false =>
      refine ev_iload_n 8 dX4_readTerm_8 rfl ?_
      refine ev_sipush 9 dX4_readTerm_9 kS_160 ?_
      refine ev_ic_geN (a := i) (b := 160) 12 46 dX4_readTerm_12 rfl (by omega) (by omega) (fun c_12 => ?_) (fun c_12 => ?_)
      · refine ev_iload_n 46 dX4_readTerm_46 rfl ?_
        refine ev_ireturn 47 dX4_readTerm_47 rfl rfl ?_
        exact K _ hG
      · refine ev_iload_n 15 dX4_readTerm_15 rfl ?_
        refine ev_ifT 16 46 dX4_readTerm_16 rfl (by decide) ?_
        refine ev_iload_n 46 dX4_readTerm_46 rfl ?_
        refine ev_ireturn 47 dX4_readTerm_47 rfl rfl ?_
        exact K _ hG
    | true =>
      have hn : ¬ (tok k = 42) := fun a => hn ⟨rfl, bOp_5.mpr a⟩
      refine ev_iload_n 8 dX4_readTerm_8 rfl ?_
      refine ev_sipush 9 dX4_readTerm_9 kS_160 ?_
      refine ev_ic_geN (a := i) (b := 160) 12 46 dX4_readTerm_12 rfl (by omega) (by omega) (fun c_12 => ?_) (fun c_12 => ?_)
      · refine ev_iload_n 46 dX4_readTerm_46 rfl ?_
        refine ev_ireturn 47 dX4_readTerm_47 rfl rfl ?_
        exact K _ hG
      · refine ev_iload_n 15 dX4_readTerm_15 rfl ?_
        refine ev_ifF 16 46 dX4_readTerm_16 rfl (by decide) ?_
        refine ev_aload_n 19 dX4_readTerm_19 rfl (by decide) ?_
        refine ev_bipush 20 dX4_readTerm_20 kB_42 ?_
        refine cv_4_132_4 (pc := 22) rfl dX4_readTerm_22 (kT_41 hE.1) (Nat.le_of_ble_eq_true rfl) ?_
        refine c_X4_pass (w := 42) hE hG (by omega) (fun h_22 => absurd h_22 hn) (fun h_22 => ?_)
        refine ev_ifT 25 46 dX4_readTerm_25 rfl (by decide) ?_
        refine ev_iload_n 46 dX4_readTerm_46 rfl ?_
        refine ev_ireturn 47 dX4_readTerm_47 rfl rfl ?_
        exact K _ hG
theorem lv2_s {X : pmX} {T : pmT} {tok val : Nat → Int32} {N t : Nat} {e : pmV} {f : Nat} (hE : RE T tok val N t e) (h2 : LgV X T tok val N t e MX4_readNot [pmJ] 2 f) (h3 : LgV X T tok val N t e MX4_readCompared [pmJ, pmJ] 3 f) : LgV X T tok val N t e MX4_readNot [pmJ] 2 (f + 1) := by
  intro d op k cs r v P h ho hk hc hd hG K
  have h5 := hE.2.2.2.2.1
  have h4 := hE.2.2.2.1
  obtain ⟨d, rfl⟩ : ∃ d2, d = d2 + 2 := ⟨d - 2, by omega⟩
  rcases gP_2 h with ⟨h9, o5, rfl⟩ | ⟨h9, o5, q, hq, rfl⟩ | ⟨h9, hr⟩
  · refine ev_aload_n 0 dX4_readNot_0 rfl (by decide) ?_
    refine cv_4_62_4 (pc := 1) rfl dX4_readNot_1 (kT_41 hE.1) (Nat.le_of_ble_eq_true rfl) ?_
    refine c_X4_token hE hG (by omega) ?_
    refine ev_cst (y := 9) h9 ?_
    refine ev_bipush 4 dX4_readNot_4 kB_9 ?_
    refine ev_icT 6 15 dX4_readNot_6 rfl (by decide) ?_
    refine ev_iload_n 15 dX4_readNot_15 rfl ?_
    refine ev_iconst 16 dX4_readNot_16 kI_5 ?_
    refine ev_ic_ltN (a := op) (b := 5) 17 22 dX4_readNot_17 rfl (by omega) (by omega) (fun c_17 => by omega) (fun c_17 => ?_)
    refine ev_iconst 20 dX4_readNot_20 kI_0 ?_
    refine ev_ireturn 21 dX4_readNot_21 rfl rfl ?_
    exact K _ hG
  · have hkN : k < N := by
      rcases Nat.lt_or_ge k N with a | a
      · exact a
      · rw [show k = N by omega, hE.2.2.2.2.2.1] at h9; exact absurd h9 (by decide)
    obtain ⟨n1, n2, n3, n4⟩ := gP_nx hE.2.2.2.2.2.1 hq (by omega) (by omega) (by omega)
    refine ev_aload_n 0 dX4_readNot_0 rfl (by decide) ?_
    refine cv_4_62_4 (pc := 1) rfl dX4_readNot_1 (kT_41 hE.1) (Nat.le_of_ble_eq_true rfl) ?_
    refine c_X4_token hE hG (by omega) ?_
    refine ev_cst (y := 9) h9 ?_
    refine ev_bipush 4 dX4_readNot_4 kB_9 ?_
    refine ev_icT 6 15 dX4_readNot_6 rfl (by decide) ?_
    refine ev_iload_n 15 dX4_readNot_15 rfl ?_
    refine ev_iconst 16 dX4_readNot_16 kI_5 ?_
    refine ev_ic_ltN (a := op) (b := 5) 17 22 dX4_readNot_17 rfl (by omega) (by omega) (fun c_17 => ?_) (fun c_17 => by omega)
    refine ev_aload_n 22 dX4_readNot_22 rfl (by decide) ?_
    refine ev_dup 23 dX4_readNot_23 rfl ?_
    refine gf_4_55 (x := nI k) (pc := 24) rfl dX4_readNot_24 (kT_41 hE.1) hG.2.1 ?_
    refine ev_iconst 27 dX4_readNot_27 kI_1 ?_
    refine ev_iadd 28 dX4_readNot_28 ?_
    refine ev_cst (y := nI (k + 1)) (nI_add k 1) ?_
    refine pf_4_55 (pc := 29) rfl dX4_readNot_29 (kT_41 hE.1) ?_
    refine ev_abs (Q := GS e t (k + 1) cs) hG.nx (fun v1 hG => ?_)
    refine ev_aload_n 32 dX4_readNot_32 rfl (by decide) ?_
    refine ev_iload_n 33 dX4_readNot_33 rfl ?_
    refine ev_iconst 34 dX4_readNot_34 kI_1 ?_
    refine ev_iadd 35 dX4_readNot_35 ?_
    refine ev_cst (y := nI (op + 1)) (nI_add op 1) ?_
    refine cv_4_147_4 (pc := 36) rfl dX4_readNot_36 (kT_41 hE.1) (Nat.le_of_ble_eq_true rfl) ?_
    refine h2 _ (op + 1) (k + 1) cs q _ _ hq (by omega) (by omega) (by omega) (by omega) hG (fun v2 hG => ?_)
    have hb01 := b2i_01 q.1
    refine ev_istore_n (ls' := [.ref 41, .int (nI op), .int (b2i q.1)]) 39 dX4_readNot_39 (Nat.le_of_ble_eq_true rfl) rfl ?_
    refine ev_aload_n 40 dX4_readNot_40 rfl (by decide) ?_
    refine ev_bipush 41 dX4_readNot_41 kB_m7 ?_
    refine cv_4_144_4 (pc := 43) rfl dX4_readNot_43 (kT_41 hE.1) (Nat.le_of_ble_eq_true rfl) ?_
    refine c_X4_put (c := (-7)) hE hG (by omega) (by omega) (fun v3 hG => ?_)
    refine ev_iload_n 46 dX4_readNot_46 rfl ?_
    refine ev_ireturn 47 dX4_readNot_47 rfl (pm_bool (by first | assumption | simp_all)) ?_
    exact K _ hG
  · refine ev_aload_n 0 dX4_readNot_0 rfl (by decide) ?_
    refine cv_4_62_4 (pc := 1) rfl dX4_readNot_1 (kT_41 hE.1) (Nat.le_of_ble_eq_true rfl) ?_
    refine c_X4_token hE hG (by omega) ?_
    refine ev_bipush 4 dX4_readNot_4 kB_9 ?_
    refine ev_ic_eq 6 15 dX4_readNot_6 rfl (fun c_6 => absurd c_6 h9) (fun c_6 => ?_)
    refine ev_aload_n 9 dX4_readNot_9 rfl (by decide) ?_
    refine ev_iload_n 10 dX4_readNot_10 rfl ?_
    refine cv_4_150_4 (pc := 11) rfl dX4_readNot_11 (kT_41 hE.1) (Nat.le_of_ble_eq_true rfl) ?_
    refine h3 _ op k cs r _ _ hr (by omega) (by omega) (by omega) (by omega) hG (fun v1 hG => ?_)
    have hb01 := b2i_01 r.1
    refine ev_ireturn 14 dX4_readNot_14 rfl (pm_bool (by first | assumption | simp_all)) ?_
    exact K _ hG
theorem lv3_s {X : pmX} {T : pmT} {tok val : Nat → Int32} {N t : Nat} {e : pmV} {f : Nat} (hE : RE T tok val N t e) (h4s : LgV X T tok val N t e MX4_readSum [pmJ, pmJ, pmJ] 4 f) : LgV X T tok val N t e MX4_readCompared [pmJ, pmJ] 3 (f + 1) := by
  intro d op k cs r v P h ho hk hc hd hG K
  have h5 := hE.2.2.2.2.1
  have h4 := hE.2.2.2.1
  obtain ⟨d, rfl⟩ : ∃ d2, d = d2 + 2 := ⟨d - 2, by omega⟩
  obtain ⟨q, hq, h⟩ := gP_3 h
  obtain ⟨n1, n2, n3, n4⟩ := gP_nx hE.2.2.2.2.2.1 hq (by omega) (by omega) (by omega)
  rcases h with ⟨q1, rfl⟩ | ⟨q1, h6, p, hp, rfl⟩ | ⟨q1, h6, p, hp, rfl⟩ | ⟨q1, h6, h7, rfl⟩
  · refine ev_aload_n 0 dX4_readCompared_0 rfl (by decide) ?_
    refine ev_iload_n 1 dX4_readCompared_1 rfl ?_
    refine cv_4_153_4 (pc := 2) rfl dX4_readCompared_2 (kT_41 hE.1) (Nat.le_of_ble_eq_true rfl) ?_
    refine h4s _ op k cs q _ _ hq (by omega) (by omega) (by omega) (by omega) hG (fun v1 hG => ?_)
    have hb01 := b2i_01 q.1
    refine ev_cst (y := 0) (by rw [q1]; rfl) ?_
    refine ev_ifF 5 10 dX4_readCompared_5 rfl (by decide) ?_
    refine ev_iconst 8 dX4_readCompared_8 kI_0 ?_
    refine ev_ireturn 9 dX4_readCompared_9 rfl rfl ?_
    rw [q1] at K; exact K _ hG
  · have hqN : q.2.1 < N := by
      rcases Nat.lt_or_ge q.2.1 N with a | a
      · exact a
      · rw [show q.2.1 = N by omega, hE.2.2.2.2.2.1] at h6; exact absurd h6 (by decide)
    obtain ⟨m1, m2, m3, m4⟩ := gP_nx hE.2.2.2.2.2.1 hp (by omega) (by omega) (by omega)
    refine ev_aload_n 0 dX4_readCompared_0 rfl (by decide) ?_
    refine ev_iload_n 1 dX4_readCompared_1 rfl ?_
    refine cv_4_153_4 (pc := 2) rfl dX4_readCompared_2 (kT_41 hE.1) (Nat.le_of_ble_eq_true rfl) ?_
    refine h4s _ op k cs q _ _ hq (by omega) (by omega) (by omega) (by omega) hG (fun v1 hG => ?_)
    have hb01 := b2i_01 q.1
    refine ev_cst (y := 1) (by rw [q1]; rfl) ?_
    refine ev_ifT 5 10 dX4_readCompared_5 rfl (by decide) ?_
    refine ev_aload_n 10 dX4_readCompared_10 rfl (by decide) ?_
    refine cv_4_62_4 (pc := 11) rfl dX4_readCompared_11 (kT_41 hE.1) (Nat.le_of_ble_eq_true rfl) ?_
    refine c_X4_token hE hG (by omega) ?_
    refine ev_cst (y := 60) h6 ?_
    refine ev_bipush 14 dX4_readCompared_14 kB_60 ?_
    refine ev_icF 16 24 dX4_readCompared_16 rfl (by decide) ?_
    refine ev_bipush 19 dX4_readCompared_19 kB_m11 ?_
    refine ev_goto 21 26 dX4_readCompared_21 rfl ?_
    refine ev_istore_n (ls' := [.ref 41, .int (nI op), .int (-11), pmJ]) 26 dX4_readCompared_26 (Nat.le_of_ble_eq_true rfl) rfl ?_
    refine ev_aload_n 27 dX4_readCompared_27 rfl (by decide) ?_
    refine ev_bipush 28 dX4_readCompared_28 kB_60 ?_
    refine cv_4_132_4 (pc := 30) rfl dX4_readCompared_30 (kT_41 hE.1) (Nat.le_of_ble_eq_true rfl) ?_
    refine c_X4_pass (w := 60) hE hG (by omega) (fun h_30 v2 hG => ?_) (fun h_30 => absurd h6 h_30)
    refine ev_ifT 33 47 dX4_readCompared_33 rfl (by decide) ?_
    refine ev_aload_n 47 dX4_readCompared_47 rfl (by decide) ?_
    refine ev_iload_n 48 dX4_readCompared_48 rfl ?_
    refine cv_4_153_4 (pc := 49) rfl dX4_readCompared_49 (kT_41 hE.1) (Nat.le_of_ble_eq_true rfl) ?_
    refine h4s _ op (q.2.1 + 1) q.2.2 p _ _ hp (by omega) (by omega) (by omega) (by omega) hG (fun v3 hG => ?_)
    have hb01 := b2i_01 p.1
    refine ev_istore_n (ls' := [.ref 41, .int (nI op), .int (-11), .int (b2i p.1)]) 52 dX4_readCompared_52 (Nat.le_of_ble_eq_true rfl) rfl ?_
    refine ev_aload_n 53 dX4_readCompared_53 rfl (by decide) ?_
    refine ev_iload_n 54 dX4_readCompared_54 rfl ?_
    refine cv_4_144_4 (pc := 55) rfl dX4_readCompared_55 (kT_41 hE.1) (Nat.le_of_ble_eq_true rfl) ?_
    refine c_X4_put (c := (-11)) hE hG (by omega) (by omega) (fun v4 hG => ?_)
    refine ev_iload_n 58 dX4_readCompared_58 rfl ?_
    refine ev_ireturn 59 dX4_readCompared_59 rfl (pm_bool (by first | assumption | simp_all)) ?_
    exact K _ hG
  · have hqN : q.2.1 < N := by
      rcases Nat.lt_or_ge q.2.1 N with a | a
      · exact a
      · rw [show q.2.1 = N by omega, hE.2.2.2.2.2.1] at h6; exact absurd h6 (by decide)
    obtain ⟨m1, m2, m3, m4⟩ := gP_nx hE.2.2.2.2.2.1 hp (by omega) (by omega) (by omega)
    refine ev_aload_n 0 dX4_readCompared_0 rfl (by decide) ?_
    refine ev_iload_n 1 dX4_readCompared_1 rfl ?_
    refine cv_4_153_4 (pc := 2) rfl dX4_readCompared_2 (kT_41 hE.1) (Nat.le_of_ble_eq_true rfl) ?_
    refine h4s _ op k cs q _ _ hq (by omega) (by omega) (by omega) (by omega) hG (fun v1 hG => ?_)
    have hb01 := b2i_01 q.1
    refine ev_cst (y := 1) (by rw [q1]; rfl) ?_
    refine ev_ifT 5 10 dX4_readCompared_5 rfl (by decide) ?_
    refine ev_aload_n 10 dX4_readCompared_10 rfl (by decide) ?_
    refine cv_4_62_4 (pc := 11) rfl dX4_readCompared_11 (kT_41 hE.1) (Nat.le_of_ble_eq_true rfl) ?_
    refine c_X4_token hE hG (by omega) ?_
    refine ev_cst (y := 61) h6 ?_
    refine ev_bipush 14 dX4_readCompared_14 kB_60 ?_
    refine ev_icT 16 24 dX4_readCompared_16 rfl (by decide) ?_
    refine ev_bipush 24 dX4_readCompared_24 kB_m12 ?_
    refine ev_istore_n (ls' := [.ref 41, .int (nI op), .int (-12), pmJ]) 26 dX4_readCompared_26 (Nat.le_of_ble_eq_true rfl) rfl ?_
    refine ev_aload_n 27 dX4_readCompared_27 rfl (by decide) ?_
    refine ev_bipush 28 dX4_readCompared_28 kB_60 ?_
    refine cv_4_132_4 (pc := 30) rfl dX4_readCompared_30 (kT_41 hE.1) (Nat.le_of_ble_eq_true rfl) ?_
    refine c_X4_pass (w := 60) hE hG (by omega) (fun h_30 => absurd h_30 (by rw [h6]; decide)) (fun h_30 => ?_)
    refine ev_ifF 33 47 dX4_readCompared_33 rfl (by decide) ?_
    refine ev_aload_n 36 dX4_readCompared_36 rfl (by decide) ?_
    refine ev_bipush 37 dX4_readCompared_37 kB_61 ?_
    refine cv_4_132_4 (pc := 39) rfl dX4_readCompared_39 (kT_41 hE.1) (Nat.le_of_ble_eq_true rfl) ?_
    refine c_X4_pass (w := 61) hE hG (by omega) (fun h_39 v3 hG => ?_) (fun h_39 => absurd h6 h_39)
    refine ev_ifT 42 47 dX4_readCompared_42 rfl (by decide) ?_
    refine ev_aload_n 47 dX4_readCompared_47 rfl (by decide) ?_
    refine ev_iload_n 48 dX4_readCompared_48 rfl ?_
    refine cv_4_153_4 (pc := 49) rfl dX4_readCompared_49 (kT_41 hE.1) (Nat.le_of_ble_eq_true rfl) ?_
    refine h4s _ op (q.2.1 + 1) q.2.2 p _ _ hp (by omega) (by omega) (by omega) (by omega) hG (fun v4 hG => ?_)
    have hb01 := b2i_01 p.1
    refine ev_istore_n (ls' := [.ref 41, .int (nI op), .int (-12), .int (b2i p.1)]) 52 dX4_readCompared_52 (Nat.le_of_ble_eq_true rfl) rfl ?_
    refine ev_aload_n 53 dX4_readCompared_53 rfl (by decide) ?_
    refine ev_iload_n 54 dX4_readCompared_54 rfl ?_
    refine cv_4_144_4 (pc := 55) rfl dX4_readCompared_55 (kT_41 hE.1) (Nat.le_of_ble_eq_true rfl) ?_
    refine c_X4_put (c := (-12)) hE hG (by omega) (by omega) (fun v5 hG => ?_)
    refine ev_iload_n 58 dX4_readCompared_58 rfl ?_
    refine ev_ireturn 59 dX4_readCompared_59 rfl (pm_bool (by first | assumption | simp_all)) ?_
    exact K _ hG
  · refine ev_aload_n 0 dX4_readCompared_0 rfl (by decide) ?_
    refine ev_iload_n 1 dX4_readCompared_1 rfl ?_
    refine cv_4_153_4 (pc := 2) rfl dX4_readCompared_2 (kT_41 hE.1) (Nat.le_of_ble_eq_true rfl) ?_
    refine h4s _ op k cs q _ _ hq (by omega) (by omega) (by omega) (by omega) hG (fun v1 hG => ?_)
    have hb01 := b2i_01 q.1
    refine ev_cst (y := 1) (by rw [q1]; rfl) ?_
    refine ev_ifT 5 10 dX4_readCompared_5 rfl (by decide) ?_
    refine ev_aload_n 10 dX4_readCompared_10 rfl (by decide) ?_
    refine cv_4_62_4 (pc := 11) rfl dX4_readCompared_11 (kT_41 hE.1) (Nat.le_of_ble_eq_true rfl) ?_
    refine c_X4_token hE hG (by omega) ?_
    refine ev_bipush 14 dX4_readCompared_14 kB_60 ?_
    refine ev_ic_ne 16 24 dX4_readCompared_16 rfl (fun c_16 => ?_) (fun c_16 => absurd (show tok q.2.1 = 60 by simpa using c_16) h6)
    refine ev_bipush 24 dX4_readCompared_24 kB_m12 ?_
    refine ev_istore_n (ls' := [.ref 41, .int (nI op), .int (-12), pmJ]) 26 dX4_readCompared_26 (Nat.le_of_ble_eq_true rfl) rfl ?_
    refine ev_aload_n 27 dX4_readCompared_27 rfl (by decide) ?_
    refine ev_bipush 28 dX4_readCompared_28 kB_60 ?_
    refine cv_4_132_4 (pc := 30) rfl dX4_readCompared_30 (kT_41 hE.1) (Nat.le_of_ble_eq_true rfl) ?_
    refine c_X4_pass (w := 60) hE hG (by omega) (fun h_30 => absurd h_30 h6) (fun h_30 => ?_)
    refine ev_ifF 33 47 dX4_readCompared_33 rfl (by decide) ?_
    refine ev_aload_n 36 dX4_readCompared_36 rfl (by decide) ?_
    refine ev_bipush 37 dX4_readCompared_37 kB_61 ?_
    refine cv_4_132_4 (pc := 39) rfl dX4_readCompared_39 (kT_41 hE.1) (Nat.le_of_ble_eq_true rfl) ?_
    refine c_X4_pass (w := 61) hE hG (by omega) (fun h_39 => absurd h_39 h7) (fun h_39 => ?_)
    refine ev_ifF 42 47 dX4_readCompared_42 rfl (by decide) ?_
    refine ev_iconst 45 dX4_readCompared_45 kI_1 ?_
    refine ev_ireturn 46 dX4_readCompared_46 rfl rfl ?_
    rw [q1] at K; exact K _ hG
theorem lv6_s {X : pmX} {T : pmT} {tok val : Nat → Int32} {N t : Nat} {e : pmV} {f : Nat} (hE : RE T tok val N t e) (h0 : LgV X T tok val N t e MX4_readOr [pmJ, pmJ] 0 f) (h6 : LgV X T tok val N t e MX4_readOne [pmJ] 6 f) : LgV X T tok val N t e MX4_readOne [pmJ] 6 (f + 1) := by
  intro d op k cs r v P h ho hk hc hd hG K
  have h5 := hE.2.2.2.2.1
  have h4 := hE.2.2.2.1
  obtain ⟨d, rfl⟩ : ∃ d2, d = d2 + 2 := ⟨d - 2, by omega⟩
  rcases gP_6 h with ⟨h2, rfl⟩ | ⟨h2, ⟨o5, rfl⟩ | ⟨o5, ⟨h4k, q, hq, h⟩ | ⟨h4k, q, hq, rfl⟩ | ⟨h4k, h5k, rfl⟩⟩⟩
  · have h23 := h2
    rcases h2 with h2k | h2k
    · have hkN : k < N := by
        rcases Nat.lt_or_ge k N with a | a
        · exact a
        · rw [show k = N by omega, hE.2.2.2.2.2.1] at h2k; exact absurd h2k (by decide)
      refine ev_aload_n 0 dX4_readOne_0 rfl (by decide) ?_
      refine cv_4_62_4 (pc := 1) rfl dX4_readOne_1 (kT_41 hE.1) (Nat.le_of_ble_eq_true rfl) ?_
      refine c_X4_token hE hG (by omega) ?_
      refine ev_cst (y := 2) h2k ?_
      refine ev_iconst 4 dX4_readOne_4 kI_2 ?_
      refine ev_icT 5 16 dX4_readOne_5 rfl (by decide) ?_
      refine ev_aload_n 16 dX4_readOne_16 rfl (by decide) ?_
      refine ev_aload_n 17 dX4_readOne_17 rfl (by decide) ?_
      refine gf_4_21 (pc := 18) rfl dX4_readOne_18 (kT_41 hE.1) (rX_41_4 (hE.x hG)) ?_
      refine ev_aload_n 21 dX4_readOne_21 rfl (by decide) ?_
      refine gf_4_55 (x := nI k) (pc := 22) rfl dX4_readOne_22 (kT_41 hE.1) hG.2.1 ?_
      refine ev_ialdJ (x := val k) (j := k) 25 dX4_readOne_25 (Nat.le_of_ble_eq_true rfl) (tT_45 hE.1) (pm_inI (by omega) (by omega)) (nI_clamp (by omega)) (hE.vl hG (by omega) h23) ?_
      refine cv_4_144_4 (pc := 26) rfl dX4_readOne_26 (kT_41 hE.1) (Nat.le_of_ble_eq_true rfl) ?_
      refine c_X4_put (c := (val k)) hE hG (by omega) (by omega) (fun v1 hG => ?_)
      refine ev_aload_n 29 dX4_readOne_29 rfl (by decide) ?_
      refine ev_dup 30 dX4_readOne_30 rfl ?_
      refine gf_4_55 (x := nI k) (pc := 31) rfl dX4_readOne_31 (kT_41 hE.1) hG.2.1 ?_
      refine ev_iconst 34 dX4_readOne_34 kI_1 ?_
      refine ev_iadd 35 dX4_readOne_35 ?_
      refine ev_cst (y := nI (k + 1)) (nI_add k 1) ?_
      refine pf_4_55 (pc := 36) rfl dX4_readOne_36 (kT_41 hE.1) ?_
      refine ev_abs (Q := GS e t (k + 1) (cs ++ [val k])) hG.nx (fun v2 hG => ?_)
      refine ev_iconst 39 dX4_readOne_39 kI_1 ?_
      refine ev_ireturn 40 dX4_readOne_40 rfl rfl ?_
      exact K _ hG
    · have hkN : k < N := by
        rcases Nat.lt_or_ge k N with a | a
        · exact a
        · rw [show k = N by omega, hE.2.2.2.2.2.1] at h2k; exact absurd h2k (by decide)
      refine ev_aload_n 0 dX4_readOne_0 rfl (by decide) ?_
      refine cv_4_62_4 (pc := 1) rfl dX4_readOne_1 (kT_41 hE.1) (Nat.le_of_ble_eq_true rfl) ?_
      refine c_X4_token hE hG (by omega) ?_
      refine ev_cst (y := 3) h2k ?_
      refine ev_iconst 4 dX4_readOne_4 kI_2 ?_
      refine ev_icF 5 16 dX4_readOne_5 rfl (by decide) ?_
      refine ev_aload_n 8 dX4_readOne_8 rfl (by decide) ?_
      refine cv_4_62_4 (pc := 9) rfl dX4_readOne_9 (kT_41 hE.1) (Nat.le_of_ble_eq_true rfl) ?_
      refine c_X4_token hE hG (by omega) ?_
      refine ev_cst (y := 3) h2k ?_
      refine ev_iconst 12 dX4_readOne_12 kI_3 ?_
      refine ev_icF 13 41 dX4_readOne_13 rfl (by decide) ?_
      refine ev_aload_n 16 dX4_readOne_16 rfl (by decide) ?_
      refine ev_aload_n 17 dX4_readOne_17 rfl (by decide) ?_
      refine gf_4_21 (pc := 18) rfl dX4_readOne_18 (kT_41 hE.1) (rX_41_4 (hE.x hG)) ?_
      refine ev_aload_n 21 dX4_readOne_21 rfl (by decide) ?_
      refine gf_4_55 (x := nI k) (pc := 22) rfl dX4_readOne_22 (kT_41 hE.1) hG.2.1 ?_
      refine ev_ialdJ (x := val k) (j := k) 25 dX4_readOne_25 (Nat.le_of_ble_eq_true rfl) (tT_45 hE.1) (pm_inI (by omega) (by omega)) (nI_clamp (by omega)) (hE.vl hG (by omega) h23) ?_
      refine cv_4_144_4 (pc := 26) rfl dX4_readOne_26 (kT_41 hE.1) (Nat.le_of_ble_eq_true rfl) ?_
      refine c_X4_put (c := (val k)) hE hG (by omega) (by omega) (fun v1 hG => ?_)
      refine ev_aload_n 29 dX4_readOne_29 rfl (by decide) ?_
      refine ev_dup 30 dX4_readOne_30 rfl ?_
      refine gf_4_55 (x := nI k) (pc := 31) rfl dX4_readOne_31 (kT_41 hE.1) hG.2.1 ?_
      refine ev_iconst 34 dX4_readOne_34 kI_1 ?_
      refine ev_iadd 35 dX4_readOne_35 ?_
      refine ev_cst (y := nI (k + 1)) (nI_add k 1) ?_
      refine pf_4_55 (pc := 36) rfl dX4_readOne_36 (kT_41 hE.1) ?_
      refine ev_abs (Q := GS e t (k + 1) (cs ++ [val k])) hG.nx (fun v2 hG => ?_)
      refine ev_iconst 39 dX4_readOne_39 kI_1 ?_
      refine ev_ireturn 40 dX4_readOne_40 rfl rfl ?_
      exact K _ hG
  · refine ev_aload_n 0 dX4_readOne_0 rfl (by decide) ?_
    refine cv_4_62_4 (pc := 1) rfl dX4_readOne_1 (kT_41 hE.1) (Nat.le_of_ble_eq_true rfl) ?_
    refine c_X4_token hE hG (by omega) ?_
    refine ev_iconst 4 dX4_readOne_4 kI_2 ?_
    refine ev_ic_eq 5 16 dX4_readOne_5 rfl (fun c_5 => absurd c_5 (fun a => h2 (Or.inl a))) (fun c_5 => ?_)
    refine ev_aload_n 8 dX4_readOne_8 rfl (by decide) ?_
    refine cv_4_62_4 (pc := 9) rfl dX4_readOne_9 (kT_41 hE.1) (Nat.le_of_ble_eq_true rfl) ?_
    refine c_X4_token hE hG (by omega) ?_
    refine ev_iconst 12 dX4_readOne_12 kI_3 ?_
    refine ev_ic_ne 13 41 dX4_readOne_13 rfl (fun c_13 => ?_) (fun c_13 => absurd (show tok k = 3 by simpa using c_13) (fun a => h2 (Or.inr a)))
    refine ev_iload_n 41 dX4_readOne_41 rfl ?_
    refine ev_iconst 42 dX4_readOne_42 kI_5 ?_
    refine ev_ic_ltN (a := op) (b := 5) 43 48 dX4_readOne_43 rfl (by omega) (by omega) (fun c_43 => by omega) (fun c_43 => ?_)
    refine ev_iconst 46 dX4_readOne_46 kI_0 ?_
    refine ev_ireturn 47 dX4_readOne_47 rfl rfl ?_
    exact K _ hG
  · have hkN : k < N := by
      rcases Nat.lt_or_ge k N with a | a
      · exact a
      · rw [show k = N by omega, hE.2.2.2.2.2.1] at h4k; exact absurd h4k (by decide)
    obtain ⟨n1, n2, n3, n4⟩ := gP_nx hE.2.2.2.2.2.1 hq (by omega) (by omega) (by omega)
    rcases h with ⟨q1, rfl⟩ | ⟨q1, h7, rfl⟩ | ⟨q1, h7, rfl⟩
    · refine ev_aload_n 0 dX4_readOne_0 rfl (by decide) ?_
      refine cv_4_62_4 (pc := 1) rfl dX4_readOne_1 (kT_41 hE.1) (Nat.le_of_ble_eq_true rfl) ?_
      refine c_X4_token hE hG (by omega) ?_
      refine ev_iconst 4 dX4_readOne_4 kI_2 ?_
      refine ev_ic_eq 5 16 dX4_readOne_5 rfl (fun c_5 => absurd c_5 (fun a => h2 (Or.inl a))) (fun c_5 => ?_)
      refine ev_aload_n 8 dX4_readOne_8 rfl (by decide) ?_
      refine cv_4_62_4 (pc := 9) rfl dX4_readOne_9 (kT_41 hE.1) (Nat.le_of_ble_eq_true rfl) ?_
      refine c_X4_token hE hG (by omega) ?_
      refine ev_iconst 12 dX4_readOne_12 kI_3 ?_
      refine ev_ic_ne 13 41 dX4_readOne_13 rfl (fun c_13 => ?_) (fun c_13 => absurd (show tok k = 3 by simpa using c_13) (fun a => h2 (Or.inr a)))
      refine ev_iload_n 41 dX4_readOne_41 rfl ?_
      refine ev_iconst 42 dX4_readOne_42 kI_5 ?_
      refine ev_ic_ltN (a := op) (b := 5) 43 48 dX4_readOne_43 rfl (by omega) (by omega) (fun c_43 => ?_) (fun c_43 => by omega)
      refine ev_aload_n 48 dX4_readOne_48 rfl (by decide) ?_
      refine ev_bipush 49 dX4_readOne_49 kB_40 ?_
      refine cv_4_132_4 (pc := 51) rfl dX4_readOne_51 (kT_41 hE.1) (Nat.le_of_ble_eq_true rfl) ?_
      refine c_X4_pass (w := 40) hE hG (by omega) (fun h_51 v1 hG => ?_) (fun h_51 => absurd h4k h_51)
      refine ev_ifF 54 82 dX4_readOne_54 rfl (by decide) ?_
      refine ev_aload_n 57 dX4_readOne_57 rfl (by decide) ?_
      refine ev_iload_n 58 dX4_readOne_58 rfl ?_
      refine ev_iconst 59 dX4_readOne_59 kI_1 ?_
      refine ev_iadd 60 dX4_readOne_60 ?_
      refine ev_cst (y := nI (op + 1)) (nI_add op 1) ?_
      refine cv_4_135_4 (pc := 61) rfl dX4_readOne_61 (kT_41 hE.1) (Nat.le_of_ble_eq_true rfl) ?_
      refine h0 _ (op + 1) (k + 1) cs q _ _ hq (by omega) (by omega) (by omega) (by omega) hG (fun v2 hG => ?_)
      have hb01 := b2i_01 q.1
      refine ev_cst (y := 0) (by rw [q1]; rfl) ?_
      refine ev_ifT 64 80 dX4_readOne_64 rfl (by decide) ?_
      refine ev_iconst 80 dX4_readOne_80 kI_0 ?_
      refine ev_ireturn 81 dX4_readOne_81 rfl rfl ?_
      exact K _ hG
    · have hqN : q.2.1 < N := by
        rcases Nat.lt_or_ge q.2.1 N with a | a
        · exact a
        · rw [show q.2.1 = N by omega, hE.2.2.2.2.2.1] at h7; exact absurd h7 (by decide)
      refine ev_aload_n 0 dX4_readOne_0 rfl (by decide) ?_
      refine cv_4_62_4 (pc := 1) rfl dX4_readOne_1 (kT_41 hE.1) (Nat.le_of_ble_eq_true rfl) ?_
      refine c_X4_token hE hG (by omega) ?_
      refine ev_iconst 4 dX4_readOne_4 kI_2 ?_
      refine ev_ic_eq 5 16 dX4_readOne_5 rfl (fun c_5 => absurd c_5 (fun a => h2 (Or.inl a))) (fun c_5 => ?_)
      refine ev_aload_n 8 dX4_readOne_8 rfl (by decide) ?_
      refine cv_4_62_4 (pc := 9) rfl dX4_readOne_9 (kT_41 hE.1) (Nat.le_of_ble_eq_true rfl) ?_
      refine c_X4_token hE hG (by omega) ?_
      refine ev_iconst 12 dX4_readOne_12 kI_3 ?_
      refine ev_ic_ne 13 41 dX4_readOne_13 rfl (fun c_13 => ?_) (fun c_13 => absurd (show tok k = 3 by simpa using c_13) (fun a => h2 (Or.inr a)))
      refine ev_iload_n 41 dX4_readOne_41 rfl ?_
      refine ev_iconst 42 dX4_readOne_42 kI_5 ?_
      refine ev_ic_ltN (a := op) (b := 5) 43 48 dX4_readOne_43 rfl (by omega) (by omega) (fun c_43 => ?_) (fun c_43 => by omega)
      refine ev_aload_n 48 dX4_readOne_48 rfl (by decide) ?_
      refine ev_bipush 49 dX4_readOne_49 kB_40 ?_
      refine cv_4_132_4 (pc := 51) rfl dX4_readOne_51 (kT_41 hE.1) (Nat.le_of_ble_eq_true rfl) ?_
      refine c_X4_pass (w := 40) hE hG (by omega) (fun h_51 v1 hG => ?_) (fun h_51 => absurd h4k h_51)
      refine ev_ifF 54 82 dX4_readOne_54 rfl (by decide) ?_
      refine ev_aload_n 57 dX4_readOne_57 rfl (by decide) ?_
      refine ev_iload_n 58 dX4_readOne_58 rfl ?_
      refine ev_iconst 59 dX4_readOne_59 kI_1 ?_
      refine ev_iadd 60 dX4_readOne_60 ?_
      refine ev_cst (y := nI (op + 1)) (nI_add op 1) ?_
      refine cv_4_135_4 (pc := 61) rfl dX4_readOne_61 (kT_41 hE.1) (Nat.le_of_ble_eq_true rfl) ?_
      refine h0 _ (op + 1) (k + 1) cs q _ _ hq (by omega) (by omega) (by omega) (by omega) hG (fun v2 hG => ?_)
      have hb01 := b2i_01 q.1
      refine ev_cst (y := 1) (by rw [q1]; rfl) ?_
      refine ev_ifF 64 80 dX4_readOne_64 rfl (by decide) ?_
      refine ev_aload_n 67 dX4_readOne_67 rfl (by decide) ?_
      refine ev_bipush 68 dX4_readOne_68 kB_41 ?_
      refine cv_4_132_4 (pc := 70) rfl dX4_readOne_70 (kT_41 hE.1) (Nat.le_of_ble_eq_true rfl) ?_
      refine c_X4_pass (w := 41) hE hG (by omega) (fun h_70 v3 hG => ?_) (fun h_70 => absurd h7 h_70)
      refine ev_ifF 73 80 dX4_readOne_73 rfl (by decide) ?_
      refine ev_iconst 76 dX4_readOne_76 kI_1 ?_
      refine ev_goto 77 81 dX4_readOne_77 rfl ?_
      refine ev_ireturn 81 dX4_readOne_81 rfl rfl ?_
      exact K _ hG
    · refine ev_aload_n 0 dX4_readOne_0 rfl (by decide) ?_
      refine cv_4_62_4 (pc := 1) rfl dX4_readOne_1 (kT_41 hE.1) (Nat.le_of_ble_eq_true rfl) ?_
      refine c_X4_token hE hG (by omega) ?_
      refine ev_iconst 4 dX4_readOne_4 kI_2 ?_
      refine ev_ic_eq 5 16 dX4_readOne_5 rfl (fun c_5 => absurd c_5 (fun a => h2 (Or.inl a))) (fun c_5 => ?_)
      refine ev_aload_n 8 dX4_readOne_8 rfl (by decide) ?_
      refine cv_4_62_4 (pc := 9) rfl dX4_readOne_9 (kT_41 hE.1) (Nat.le_of_ble_eq_true rfl) ?_
      refine c_X4_token hE hG (by omega) ?_
      refine ev_iconst 12 dX4_readOne_12 kI_3 ?_
      refine ev_ic_ne 13 41 dX4_readOne_13 rfl (fun c_13 => ?_) (fun c_13 => absurd (show tok k = 3 by simpa using c_13) (fun a => h2 (Or.inr a)))
      refine ev_iload_n 41 dX4_readOne_41 rfl ?_
      refine ev_iconst 42 dX4_readOne_42 kI_5 ?_
      refine ev_ic_ltN (a := op) (b := 5) 43 48 dX4_readOne_43 rfl (by omega) (by omega) (fun c_43 => ?_) (fun c_43 => by omega)
      refine ev_aload_n 48 dX4_readOne_48 rfl (by decide) ?_
      refine ev_bipush 49 dX4_readOne_49 kB_40 ?_
      refine cv_4_132_4 (pc := 51) rfl dX4_readOne_51 (kT_41 hE.1) (Nat.le_of_ble_eq_true rfl) ?_
      refine c_X4_pass (w := 40) hE hG (by omega) (fun h_51 v1 hG => ?_) (fun h_51 => absurd h4k h_51)
      refine ev_ifF 54 82 dX4_readOne_54 rfl (by decide) ?_
      refine ev_aload_n 57 dX4_readOne_57 rfl (by decide) ?_
      refine ev_iload_n 58 dX4_readOne_58 rfl ?_
      refine ev_iconst 59 dX4_readOne_59 kI_1 ?_
      refine ev_iadd 60 dX4_readOne_60 ?_
      refine ev_cst (y := nI (op + 1)) (nI_add op 1) ?_
      refine cv_4_135_4 (pc := 61) rfl dX4_readOne_61 (kT_41 hE.1) (Nat.le_of_ble_eq_true rfl) ?_
      refine h0 _ (op + 1) (k + 1) cs q _ _ hq (by omega) (by omega) (by omega) (by omega) hG (fun v2 hG => ?_)
      have hb01 := b2i_01 q.1
      refine ev_cst (y := 1) (by rw [q1]; rfl) ?_
      refine ev_ifF 64 80 dX4_readOne_64 rfl (by decide) ?_
      refine ev_aload_n 67 dX4_readOne_67 rfl (by decide) ?_
      refine ev_bipush 68 dX4_readOne_68 kB_41 ?_
      refine cv_4_132_4 (pc := 70) rfl dX4_readOne_70 (kT_41 hE.1) (Nat.le_of_ble_eq_true rfl) ?_
      refine c_X4_pass (w := 41) hE hG (by omega) (fun h_70 => absurd h_70 h7) (fun h_70 => ?_)
      refine ev_ifT 73 80 dX4_readOne_73 rfl (by decide) ?_
      refine ev_iconst 80 dX4_readOne_80 kI_0 ?_
      refine ev_ireturn 81 dX4_readOne_81 rfl rfl ?_
      exact K _ hG
  · have hkN : k < N := by
      rcases Nat.lt_or_ge k N with a | a
      · exact a
      · rw [show k = N by omega, hE.2.2.2.2.2.1] at h4k; exact absurd h4k (by decide)
    obtain ⟨n1, n2, n3, n4⟩ := gP_nx hE.2.2.2.2.2.1 hq (by omega) (by omega) (by omega)
    refine ev_aload_n 0 dX4_readOne_0 rfl (by decide) ?_
    refine cv_4_62_4 (pc := 1) rfl dX4_readOne_1 (kT_41 hE.1) (Nat.le_of_ble_eq_true rfl) ?_
    refine c_X4_token hE hG (by omega) ?_
    refine ev_iconst 4 dX4_readOne_4 kI_2 ?_
    refine ev_ic_eq 5 16 dX4_readOne_5 rfl (fun c_5 => absurd c_5 (fun a => h2 (Or.inl a))) (fun c_5 => ?_)
    refine ev_aload_n 8 dX4_readOne_8 rfl (by decide) ?_
    refine cv_4_62_4 (pc := 9) rfl dX4_readOne_9 (kT_41 hE.1) (Nat.le_of_ble_eq_true rfl) ?_
    refine c_X4_token hE hG (by omega) ?_
    refine ev_iconst 12 dX4_readOne_12 kI_3 ?_
    refine ev_ic_ne 13 41 dX4_readOne_13 rfl (fun c_13 => ?_) (fun c_13 => absurd (show tok k = 3 by simpa using c_13) (fun a => h2 (Or.inr a)))
    refine ev_iload_n 41 dX4_readOne_41 rfl ?_
    refine ev_iconst 42 dX4_readOne_42 kI_5 ?_
    refine ev_ic_ltN (a := op) (b := 5) 43 48 dX4_readOne_43 rfl (by omega) (by omega) (fun c_43 => ?_) (fun c_43 => by omega)
    refine ev_aload_n 48 dX4_readOne_48 rfl (by decide) ?_
    refine ev_bipush 49 dX4_readOne_49 kB_40 ?_
    refine cv_4_132_4 (pc := 51) rfl dX4_readOne_51 (kT_41 hE.1) (Nat.le_of_ble_eq_true rfl) ?_
    refine c_X4_pass (w := 40) hE hG (by omega) (fun h_51 => absurd h_51 (by rw [h4k]; decide)) (fun h_51 => ?_)
    refine ev_ifT 54 82 dX4_readOne_54 rfl (by decide) ?_
    refine ev_aload_n 82 dX4_readOne_82 rfl (by decide) ?_
    refine ev_bipush 83 dX4_readOne_83 kB_45 ?_
    refine cv_4_132_4 (pc := 85) rfl dX4_readOne_85 (kT_41 hE.1) (Nat.le_of_ble_eq_true rfl) ?_
    refine c_X4_pass (w := 45) hE hG (by omega) (fun h_85 v2 hG => ?_) (fun h_85 => absurd h4k h_85)
    refine ev_ifT 88 93 dX4_readOne_88 rfl (by decide) ?_
    refine ev_aload_n 93 dX4_readOne_93 rfl (by decide) ?_
    refine ev_iload_n 94 dX4_readOne_94 rfl ?_
    refine ev_iconst 95 dX4_readOne_95 kI_1 ?_
    refine ev_iadd 96 dX4_readOne_96 ?_
    refine ev_cst (y := nI (op + 1)) (nI_add op 1) ?_
    refine cv_4_159_4 (pc := 97) rfl dX4_readOne_97 (kT_41 hE.1) (Nat.le_of_ble_eq_true rfl) ?_
    refine h6 _ (op + 1) (k + 1) cs q _ _ hq (by omega) (by omega) (by omega) (by omega) hG (fun v3 hG => ?_)
    have hb01 := b2i_01 q.1
    refine ev_istore_n (ls' := [.ref 41, .int (nI op), .int (b2i q.1)]) 100 dX4_readOne_100 (Nat.le_of_ble_eq_true rfl) rfl ?_
    refine ev_aload_n 101 dX4_readOne_101 rfl (by decide) ?_
    refine ev_bipush 102 dX4_readOne_102 kB_m8 ?_
    refine cv_4_144_4 (pc := 104) rfl dX4_readOne_104 (kT_41 hE.1) (Nat.le_of_ble_eq_true rfl) ?_
    refine c_X4_put (c := (-8)) hE hG (by omega) (by omega) (fun v4 hG => ?_)
    refine ev_iload_n 107 dX4_readOne_107 rfl ?_
    refine ev_ireturn 108 dX4_readOne_108 rfl (pm_bool (by first | assumption | simp_all)) ?_
    exact K _ hG
  · refine ev_aload_n 0 dX4_readOne_0 rfl (by decide) ?_
    refine cv_4_62_4 (pc := 1) rfl dX4_readOne_1 (kT_41 hE.1) (Nat.le_of_ble_eq_true rfl) ?_
    refine c_X4_token hE hG (by omega) ?_
    refine ev_iconst 4 dX4_readOne_4 kI_2 ?_
    refine ev_ic_eq 5 16 dX4_readOne_5 rfl (fun c_5 => absurd c_5 (fun a => h2 (Or.inl a))) (fun c_5 => ?_)
    refine ev_aload_n 8 dX4_readOne_8 rfl (by decide) ?_
    refine cv_4_62_4 (pc := 9) rfl dX4_readOne_9 (kT_41 hE.1) (Nat.le_of_ble_eq_true rfl) ?_
    refine c_X4_token hE hG (by omega) ?_
    refine ev_iconst 12 dX4_readOne_12 kI_3 ?_
    refine ev_ic_ne 13 41 dX4_readOne_13 rfl (fun c_13 => ?_) (fun c_13 => absurd (show tok k = 3 by simpa using c_13) (fun a => h2 (Or.inr a)))
    refine ev_iload_n 41 dX4_readOne_41 rfl ?_
    refine ev_iconst 42 dX4_readOne_42 kI_5 ?_
    refine ev_ic_ltN (a := op) (b := 5) 43 48 dX4_readOne_43 rfl (by omega) (by omega) (fun c_43 => ?_) (fun c_43 => by omega)
    refine ev_aload_n 48 dX4_readOne_48 rfl (by decide) ?_
    refine ev_bipush 49 dX4_readOne_49 kB_40 ?_
    refine cv_4_132_4 (pc := 51) rfl dX4_readOne_51 (kT_41 hE.1) (Nat.le_of_ble_eq_true rfl) ?_
    refine c_X4_pass (w := 40) hE hG (by omega) (fun h_51 => absurd h_51 h4k) (fun h_51 => ?_)
    refine ev_ifT 54 82 dX4_readOne_54 rfl (by decide) ?_
    refine ev_aload_n 82 dX4_readOne_82 rfl (by decide) ?_
    refine ev_bipush 83 dX4_readOne_83 kB_45 ?_
    refine cv_4_132_4 (pc := 85) rfl dX4_readOne_85 (kT_41 hE.1) (Nat.le_of_ble_eq_true rfl) ?_
    refine c_X4_pass (w := 45) hE hG (by omega) (fun h_85 => absurd h_85 h5k) (fun h_85 => ?_)
    refine ev_ifF 88 93 dX4_readOne_88 rfl (by decide) ?_
    refine ev_iconst 91 dX4_readOne_91 kI_0 ?_
    refine ev_ireturn 92 dX4_readOne_92 rfl rfl ?_
    exact K _ hG
