/-! TEXTS: the class's parts, and its reading once the tokens are there -/
theorem gX {X : pmX} {T : pmT} {tok val : Nat → Int32} {N t : Nat} {e : pmV} (hE : RE T tok val N t e) : ∀ f : Nat, LgV X T tok val N t e MX4_readOr [pmJ, pmJ] 0 f ∧ LgV X T tok val N t e MX4_readAnd [pmJ, pmJ] 1 f ∧ LgV X T tok val N t e MX4_readNot [pmJ] 2 f ∧ LgV X T tok val N t e MX4_readCompared [pmJ, pmJ] 3 f ∧ LgV X T tok val N t e MX4_readSum [pmJ, pmJ, pmJ] 4 f ∧ LgV X T tok val N t e MX4_readTerm [pmJ, pmJ] 5 f ∧ LgV X T tok val N t e MX4_readOne [pmJ] 6 f ∧ (LgP X T tok val N t e MX4_readOr [] 0 f) ∧ (LgP X T tok val N t e MX4_readAnd [] 1 f) ∧ (∀ w, LgP X T tok val N t e MX4_readSum [w] 4 f) ∧ (LgP X T tok val N t e MX4_readTerm [] 5 f)
  | 0 => ⟨fun _ _ _ _ _ _ _ h => (by cases h), fun _ _ _ _ _ _ _ h => (by cases h), fun _ _ _ _ _ _ _ h => (by cases h), fun _ _ _ _ _ _ _ h => (by cases h), fun _ _ _ _ _ _ _ h => (by cases h), fun _ _ _ _ _ _ _ h => (by cases h), fun _ _ _ _ _ _ _ h => (by cases h), fun _ _ _ _ _ _ _ _ _ h => (by cases h), fun _ _ _ _ _ _ _ _ _ h => (by cases h), fun _ _ _ _ _ _ _ _ _ _ h => (by cases h), fun _ _ _ _ _ _ _ _ _ h => (by cases h)⟩
  | f + 1 => by
    obtain ⟨a0, a1, a2, a3, a4, a5, a6, b0, b1, b4, b5⟩ := gX hE f
    exact ⟨lv0_s hE a1 b0, lv1_s hE a2 b1, lv2_s hE a2 a3, lv3_s hE a4, lv4_s hE a5 b4, lv5_s hE a6 b5, lv6_s hE a0 a6, lp0_s hE a1 b0, lp1_s hE a2 b1, lp4_s hE a5 b4, lp5_s hE a6 b5⟩
/-- a part: its key, what is said, its end -/
def gPart (tok val : Nat → Int32) (F p k : Nat) (cs : List Int32) : Option (Bool × Nat × List Int32) := if tok k = nI (4 + p) then match gP tok val F 0 0 true (k + 1) cs with
  | none => none
  | some q => if q.1 = true ∧ tok q.2.1 = 59 then some (true, q.2.1 + 1, q.2.2) else some (false, q.2.1, q.2.2)
  else some (false, k, cs)
theorem gPart_c {tok val : Nat → Int32} {F p k : Nat} {cs : List Int32} {r : Bool × Nat × List Int32} (h : gPart tok val F p k cs = some r) : (tok k ≠ nI (4 + p) ∧ r = (false, k, cs)) ∨ (tok k = nI (4 + p) ∧ ∃ q, gP tok val F 0 0 true (k + 1) cs = some q ∧ ((q.1 = false ∧ r = (false, q.2.1, q.2.2)) ∨ (q.1 = true ∧ tok q.2.1 ≠ 59 ∧ r = (false, q.2.1, q.2.2)) ∨ (q.1 = true ∧ tok q.2.1 = 59 ∧ r = (true, q.2.1 + 1, q.2.2)))) := by
  unfold gPart at h
  by_cases c : tok k = nI (4 + p)
  · rw [if_pos c] at h
    cases hq : gP tok val F 0 0 true (k + 1) cs with
    | none => rw [hq] at h; cases h
    | some q =>
      rw [hq] at h
      refine Or.inr ⟨c, q, rfl, ?_⟩
      dsimp only at h
      by_cases q1 : q.1 = true
      · by_cases t5 : tok q.2.1 = 59
        · rw [if_pos ⟨q1, t5⟩] at h; cases h; exact Or.inr (Or.inr ⟨q1, t5, rfl⟩)
        · rw [if_neg (fun e => t5 e.2)] at h; cases h; exact Or.inr (Or.inl ⟨q1, t5, rfl⟩)
      · rw [if_neg (fun e => q1 e.1)] at h; cases h; exact Or.inl ⟨by simpa using q1, rfl⟩
  · rw [if_neg c] at h; cases h; exact Or.inl ⟨c, rfl⟩
theorem gPart_nx {tok val : Nat → Int32} {N F p k : Nat} {cs : List Int32} {r : Bool × Nat × List Int32} (hN : tok N = 0) (hp : p < 3) (h : gPart tok val F p k cs = some r) (hk : k ≤ N) (hc : cs.length ≤ k) : k ≤ r.2.1 ∧ r.2.1 ≤ N ∧ r.2.2.length ≤ r.2.1 ∧ ∃ n, r.2.2 = cs ++ n := by
  rcases gPart_c h with ⟨_, rfl⟩ | ⟨hk4, q, hq, h⟩
  · exact ⟨Nat.le_refl _, hk, hc, [], (List.append_nil _).symm⟩
  · have up : ∀ j, j ≤ N → tok j ≠ 0 → j + 1 ≤ N := fun j hj hn => by
      rcases Nat.lt_or_ge j N with a | a
      · exact a
      · have : j = N := by omega
        subst this; exact absurd hN hn
    have k1 : k + 1 ≤ N := up k hk (by rw [hk4]; have : p = 0 ∨ p = 1 ∨ p = 2 := by omega
                                       rcases this with rfl | rfl | rfl <;> decide)
    obtain ⟨n1, n2, n3, n4⟩ := gP_nx hN hq k1 (by omega) (by omega)
    have hn : ∃ n, q.2.2 = cs ++ n := by
      have a := gP_app (tok := tok) (val := val) cs F 0 0 true (k + 1) []
      rw [List.append_nil, hq] at a
      cases hr : gP tok val F 0 0 true (k + 1) [] with
      | none => rw [hr] at a; cases a
      | some z => rw [hr] at a; cases a; exact ⟨_, rfl⟩
    rcases h with ⟨_, rfl⟩ | ⟨_, _, rfl⟩ | ⟨_, t5, rfl⟩
    · exact ⟨by dsimp only; omega, n2, n3, hn⟩
    · exact ⟨by dsimp only; omega, n2, n3, hn⟩
    · exact ⟨by dsimp only; omega, up _ n2 (by rw [t5]; decide), by dsimp only; omega, hn⟩
theorem gPart_ok {tok val : Nat → Int32} {N F p k : Nat} {cs : List Int32} (hN : tok N = 0) (hp : p < 3) (hk : k ≤ N) (hF : 20 * N + 8 ≤ F) : ∃ r, gPart tok val F p k cs = some r := by
  unfold gPart
  by_cases c : tok k = nI (4 + p)
  · rw [if_pos c]
    have k1 : k + 1 ≤ N := by
      rcases Nat.lt_or_ge k N with a | a
      · exact a
      · have : k = N := by omega
        subst this; rw [hN] at c
        have : p = 0 ∨ p = 1 ∨ p = 2 := by omega
        rcases this with rfl | rfl | rfl <;> exact absurd c (by decide)
    obtain ⟨q, hq, _⟩ := gP_suff (val := val) hN F 0 0 true (k + 1) cs k1 (by omega) (show 20 * (N - (k + 1)) + 8 ≤ F by omega)
    rw [hq]
    dsimp only
    split
    · exact ⟨_, rfl⟩
    · exact ⟨_, rfl⟩
  · rw [if_neg c]; exact ⟨_, rfl⟩
theorem c_X4_readPart {X : pmX} {d : Nat} {v : pmV} {P : Option Value → pmT → pmV → Prop} {T : pmT} {p F : Nat} {r : Bool × Nat × List Int32} {tok val : Nat → Int32} {N t k : Nat} {cs : List Int32} {e : pmV} (hE : RE T tok val N t e) (hG : GS e t k cs v) (hk : k ≤ N) (hp : p < 3) (hc : cs.length ≤ k) (h : gPart tok val F p k cs = some r) (k0 : r.1 = false → ∀ v', GS e t r.2.1 r.2.2 v' → P (some (.int 0)) T v') (k1 : r.1 = true → ∀ v', GS e t r.2.1 r.2.2 v' → P (some (.int 1)) T (uI v' (70 + 4 * t) p (nI r.2.2.length))) : EvP X (d + 52) MX4_readPart 0 [.ref 41, .int (nI p)] [] T v P := by
  have h5 := hE.2.2.2.2.1
  have h4 := hE.2.2.2.1
  rcases gPart_c h with ⟨h9, rfl⟩ | ⟨h9, q, hq, h⟩
  · refine ev_aload_n 0 dX4_readPart_0 rfl (by decide) ?_
    refine ev_iconst 1 dX4_readPart_1 kI_4 ?_
    refine ev_iload_n 2 dX4_readPart_2 rfl ?_
    refine ev_iadd 3 dX4_readPart_3 ?_
    refine ev_cst (y := nI (4 + p)) (nI_add 4 p) ?_
    refine cv_4_132_4 (pc := 4) rfl dX4_readPart_4 (kT_41 hE.1) (Nat.le_of_ble_eq_true rfl) ?_
    refine c_X4_pass (w := (nI (4 + p))) hE hG (by omega) (fun h_4 => absurd h_4 h9) (fun h_4 => ?_)
    refine ev_ifT 7 27 dX4_readPart_7 rfl (by decide) ?_
    refine ev_iconst 27 dX4_readPart_27 kI_0 ?_
    refine ev_ireturn 28 dX4_readPart_28 rfl rfl ?_
    exact k0 rfl _ hG
  · have hkN : k < N := by
      rcases Nat.lt_or_ge k N with a | a
      · exact a
      · rw [show k = N by omega, hE.2.2.2.2.2.1] at h9
        have : p = 0 ∨ p = 1 ∨ p = 2 := by omega
        rcases this with rfl | rfl | rfl <;> exact absurd h9 (by decide)
    obtain ⟨n1, n2, n3, n4⟩ := gP_nx hE.2.2.2.2.2.1 hq (by omega) (by omega) (by omega)
    rcases h with ⟨q1, rfl⟩ | ⟨q1, h7, rfl⟩ | ⟨q1, h7, rfl⟩
    · refine ev_aload_n 0 dX4_readPart_0 rfl (by decide) ?_
      refine ev_iconst 1 dX4_readPart_1 kI_4 ?_
      refine ev_iload_n 2 dX4_readPart_2 rfl ?_
      refine ev_iadd 3 dX4_readPart_3 ?_
      refine ev_cst (y := nI (4 + p)) (nI_add 4 p) ?_
      refine cv_4_132_4 (pc := 4) rfl dX4_readPart_4 (kT_41 hE.1) (Nat.le_of_ble_eq_true rfl) ?_
      refine c_X4_pass (w := (nI (4 + p))) hE hG (by omega) (fun h_4 v1 hG => ?_) (fun h_4 => absurd h9 h_4)
      refine ev_ifF 7 27 dX4_readPart_7 rfl (by decide) ?_
      refine ev_aload_n 10 dX4_readPart_10 rfl (by decide) ?_
      refine ev_iconst 11 dX4_readPart_11 kI_0 ?_
      refine cv_4_135_4 (pc := 12) rfl dX4_readPart_12 (kT_41 hE.1) (Nat.le_of_ble_eq_true rfl) ?_
      refine (gX hE F).1 _ 0 (k + 1) cs q _ _ hq (by omega) (by omega) (by omega) (by omega) hG (fun v2 hG => ?_)
      have hb01 := b2i_01 q.1
      refine ev_cst (y := 0) (by rw [q1]; rfl) ?_
      refine ev_ifT 15 27 dX4_readPart_15 rfl (by decide) ?_
      refine ev_iconst 27 dX4_readPart_27 kI_0 ?_
      refine ev_ireturn 28 dX4_readPart_28 rfl rfl ?_
      exact k0 rfl _ hG
    · refine ev_aload_n 0 dX4_readPart_0 rfl (by decide) ?_
      refine ev_iconst 1 dX4_readPart_1 kI_4 ?_
      refine ev_iload_n 2 dX4_readPart_2 rfl ?_
      refine ev_iadd 3 dX4_readPart_3 ?_
      refine ev_cst (y := nI (4 + p)) (nI_add 4 p) ?_
      refine cv_4_132_4 (pc := 4) rfl dX4_readPart_4 (kT_41 hE.1) (Nat.le_of_ble_eq_true rfl) ?_
      refine c_X4_pass (w := (nI (4 + p))) hE hG (by omega) (fun h_4 v1 hG => ?_) (fun h_4 => absurd h9 h_4)
      refine ev_ifF 7 27 dX4_readPart_7 rfl (by decide) ?_
      refine ev_aload_n 10 dX4_readPart_10 rfl (by decide) ?_
      refine ev_iconst 11 dX4_readPart_11 kI_0 ?_
      refine cv_4_135_4 (pc := 12) rfl dX4_readPart_12 (kT_41 hE.1) (Nat.le_of_ble_eq_true rfl) ?_
      refine (gX hE F).1 _ 0 (k + 1) cs q _ _ hq (by omega) (by omega) (by omega) (by omega) hG (fun v2 hG => ?_)
      have hb01 := b2i_01 q.1
      refine ev_cst (y := 1) (by rw [q1]; rfl) ?_
      refine ev_ifF 15 27 dX4_readPart_15 rfl (by decide) ?_
      refine ev_aload_n 18 dX4_readPart_18 rfl (by decide) ?_
      refine ev_bipush 19 dX4_readPart_19 kB_59 ?_
      refine cv_4_132_4 (pc := 21) rfl dX4_readPart_21 (kT_41 hE.1) (Nat.le_of_ble_eq_true rfl) ?_
      refine c_X4_pass (w := 59) hE hG (by omega) (fun h_21 => absurd h_21 h7) (fun h_21 => ?_)
      refine ev_ifF 24 29 dX4_readPart_24 rfl (by decide) ?_
      refine ev_iconst 27 dX4_readPart_27 kI_0 ?_
      refine ev_ireturn 28 dX4_readPart_28 rfl rfl ?_
      exact k0 rfl _ hG
    · refine ev_aload_n 0 dX4_readPart_0 rfl (by decide) ?_
      refine ev_iconst 1 dX4_readPart_1 kI_4 ?_
      refine ev_iload_n 2 dX4_readPart_2 rfl ?_
      refine ev_iadd 3 dX4_readPart_3 ?_
      refine ev_cst (y := nI (4 + p)) (nI_add 4 p) ?_
      refine cv_4_132_4 (pc := 4) rfl dX4_readPart_4 (kT_41 hE.1) (Nat.le_of_ble_eq_true rfl) ?_
      refine c_X4_pass (w := (nI (4 + p))) hE hG (by omega) (fun h_4 v1 hG => ?_) (fun h_4 => absurd h9 h_4)
      refine ev_ifF 7 27 dX4_readPart_7 rfl (by decide) ?_
      refine ev_aload_n 10 dX4_readPart_10 rfl (by decide) ?_
      refine ev_iconst 11 dX4_readPart_11 kI_0 ?_
      refine cv_4_135_4 (pc := 12) rfl dX4_readPart_12 (kT_41 hE.1) (Nat.le_of_ble_eq_true rfl) ?_
      refine (gX hE F).1 _ 0 (k + 1) cs q _ _ hq (by omega) (by omega) (by omega) (by omega) hG (fun v2 hG => ?_)
      have hb01 := b2i_01 q.1
      refine ev_cst (y := 1) (by rw [q1]; rfl) ?_
      refine ev_ifF 15 27 dX4_readPart_15 rfl (by decide) ?_
      refine ev_aload_n 18 dX4_readPart_18 rfl (by decide) ?_
      refine ev_bipush 19 dX4_readPart_19 kB_59 ?_
      refine cv_4_132_4 (pc := 21) rfl dX4_readPart_21 (kT_41 hE.1) (Nat.le_of_ble_eq_true rfl) ?_
      refine c_X4_pass (w := 59) hE hG (by omega) (fun h_21 v3 hG => ?_) (fun h_21 => absurd h7 h_21)
      refine ev_ifT 24 29 dX4_readPart_24 rfl (by decide) ?_
      refine ev_aload_n 29 dX4_readPart_29 rfl (by decide) ?_
      refine gf_4_27 (pc := 30) rfl dX4_readPart_30 (kT_41 hE.1) (hE.tx hG) ?_
      refine gf_4_138 (pc := 33) rfl dX4_readPart_33 (kT_text hE.1 hE.2.2.2.1) (rX_ends (hE.x hG) hE.2.2.2.1) ?_
      refine ev_iload_n 36 dX4_readPart_36 rfl ?_
      refine ev_aload_n 37 dX4_readPart_37 rfl (by decide) ?_
      refine gf_4_52 (x := nI q.2.2.length) (pc := 38) rfl dX4_readPart_38 (kT_41 hE.1) hG.2.2.1 ?_
      refine ev_iastJ (j := p) 41 dX4_readPart_41 (by omega) (tT_ends hE.1 hE.2.2.2.1) (pm_inI (by omega) (by omega)) (nI_clamp (by omega)) ?_
      refine ev_iconst 42 dX4_readPart_42 kI_1 ?_
      refine ev_ireturn 43 dX4_readPart_43 rfl rfl ?_
      exact k1 rfl _ hG
