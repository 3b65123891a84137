/-! TEXTS: the reference's text -/
theorem gPart_ap {tok val : Nat → Int32} {F p k : Nat} {a : List Int32} {r : Bool × Nat × List Int32} (h : gPart tok val F p k a = some r) : ∃ c, gPart tok val F p k [] = some (r.1, r.2.1, c) ∧ r.2.2 = a ++ c := by
  unfold gPart at h ⊢
  by_cases hc : tok k = nI (4 + p)
  · rw [if_pos hc] at h ⊢
    have ha := gP_app (tok := tok) (val := val) a F 0 0 true (k + 1) []
    rw [List.append_nil] at ha
    rw [ha] at h
    cases hq : gP tok val F 0 0 true (k + 1) [] with
    | none => rw [hq] at h; cases h
    | some q =>
      rw [hq] at h
      dsimp only [Option.map] at h ⊢
      by_cases h1 : q.1 = true ∧ tok q.2.1 = 59
      · rw [if_pos h1] at h ⊢; cases h; exact ⟨_, rfl, rfl⟩
      · rw [if_neg h1] at h ⊢; cases h; exact ⟨_, rfl, rfl⟩
  · rw [if_neg hc] at h ⊢; cases h; exact ⟨[], rfl, (List.append_nil _).symm⟩
theorem gPart_hgt {tok val : Nat → Int32} (hv : ∀ j, tok j = 2 ∨ tok j = 3 → -6 ≤ val j) {F p k : Nat} {r : Bool × Nat × List Int32} (h : gPart tok val F p k [] = some r) (h1 : r.1 = true) : hgt r.2.2 0 = some 1 := by
  rcases gPart_c h with ⟨_, rfl⟩ | ⟨_, q, hq, hr⟩
  · cases h1
  · obtain ⟨qb, qk, qc⟩ := q
    rcases hr with ⟨_, rfl⟩ | ⟨_, _, rfl⟩ | ⟨a1, _, rfl⟩
    · cases h1
    · cases h1
    · dsimp only at a1
      subst a1
      obtain ⟨n, e, hn⟩ := gP_hgt hv F 0 0 true (k + 1) [] qk qc hq
      rw [List.nil_append] at e
      have := (hn [] 0).1 (by decide)
      rw [List.append_nil] at this
      show hgt qc 0 = some 1
      rw [e, this]; rfl
theorem tkW_3 : ∀ w, w < 13 → tkW w = 3 → -6 ≤ -1 - nI w := by decide
theorem tkW_2 : ∀ w, w < 13 → tkW w ≠ 2 := by decide
theorem tV_ok {B : Nat → Int32} {z : Nat} (j : Nat) (h : tC B z j = 2 ∨ tC B z j = 3) : -6 ≤ tV B z j := by
  rcases h with h | h
  · exact Int32.le_trans (by decide) (num_ok (p := tA B z j) h)
  · unfold tC at h
    by_cases c : tA B z j < z
    · rw [if_pos c] at h
      unfold tkC at h
      by_cases l : lB (B (tA B z j))
      · rw [if_pos l] at h
        unfold tV tkV
        rw [if_pos l]
        refine tkW_3 _ ?_ h
        rcases wF_s (B := B) (a := tA B z j) (e := eT B z (tA B z j)) 12 (Nat.le_refl _) with ⟨q, _⟩ | ⟨q, _⟩
        · omega
        · omega
      · rw [if_neg l] at h
        by_cases d : dB (B (tA B z j))
        · rw [if_pos d] at h; split at h <;> exact absurd h (by decide)
        · rw [if_neg d] at h
          by_cases s : sgB (B (tA B z j))
          · rw [if_pos s] at h; rw [h] at s; exact absurd s (by decide)
          · rw [if_neg s] at h; exact absurd h (by decide)
    · rw [if_neg c] at h; exact absurd h (by decide)
theorem LKP.en {B : Nat → Int32} {z p : Nat} {v : pmV} (h : LKP B z p v) : v.1 100 14 = -1 ↔ cP B z p = 0 := by
  rcases h.cs with ⟨hc, ht⟩ | ⟨hc, ht⟩ | ⟨hc, ht, hw⟩ | ⟨ht, w, hw, hc, hx, hd⟩ | ⟨hs, ht⟩
  · rw [hc, ht]; decide
  · rw [hc, ht]; decide
  · rw [hc, ht]; decide
  · rw [hc, ht]; exact ⟨fun h => absurd h (by decide), fun h => absurd h (wd_f w hw).2.2.2.2.1⟩
  · rw [ht]; exact ⟨fun h => by rw [h] at hs; exact absurd hs (by decide), fun h => by rw [h] at hs; exact absurd hs (by decide)⟩
/-- a part's codes, on the reference's side -/
def PTS (t p : Nat) (c : List Int32) (v : pmV) : Prop := v.1 109 (3 * t + p) = nI c.length ∧ c.length ≤ 160 ∧ ∀ i, i < c.length → codeOk (c.getD i 0) (v.1 107 (480 * t + 160 * p + i)) (v.1 108 (480 * t + 160 * p + i))
theorem PTS.of {t p : Nat} {c : List Int32} {v v' : pmV} {D : Nat → Nat → Prop} (h : PTS t p c v) (ho : Of D v v') (h1 : ¬ D 109 (3 * t + p)) (h2 : ∀ i, i < 160 → ¬ D 107 (480 * t + 160 * p + i) ∧ ¬ D 108 (480 * t + 160 * p + i)) : PTS t p c v' := by
  obtain ⟨a, b, e⟩ := h
  exact ⟨(ho.off h1).trans a, b, fun i hi => by rw [ho.off (h2 i (by omega)).1, ho.off (h2 i (by omega)).2]; exact e i hi⟩
theorem PTS.pc {t p q : Nat} {c : List Int32} {v v' : pmV} (h : PTS t p c v) (ho : Of (pC t q) v v') (hp : p < q) : PTS t p c v' := h.of ho (by unfold pC eC mC lkC; omega) (fun i hi => by unfold pC eC mC lkC; omega)
def yC (t a j : Nat) : Prop := (a = 100 ∧ 13 ≤ j ∧ j ≤ 19) ∨ (a = 107 ∨ a = 108) ∧ (480 * t ≤ j ∧ j < 480 * t + 480) ∨ a = 110 ∨ (a = 109 ∧ 3 * t ≤ j ∧ j < 3 * t + 3)
def xC (t a j : Nat) : Prop := (a = 100 ∧ (j = 10 ∨ j = 12)) ∨ yC t a j
theorem yC.lk {t : Nat} {v v' : pmV} (h : Of lkC v v') : Of (yC t) v v' := h.wd (fun a j q => by unfold lkC at q; unfold yC; omega)
theorem yC.pc {t p : Nat} {v v' : pmV} (hp : p < 3) (h : Of (pC t p) v v') : Of (yC t) v v' := h.wd (fun a j q => by unfold pC eC mC lkC at q; unfold yC; omega)
theorem w_6 : (677454 : Int32) = nI (wdN (6 + 0)) := by decide
theorem w_7 : (525614 : Int32) = nI (wdN (6 + 1)) := by decide
theorem w_8 : (441925 : Int32) = nI (wdN (6 + 2)) := by decide
theorem c_X12_text6 {X : pmX} {d : Nat} {v : pmV} {P : Option Value → pmT → pmV → Prop} {LT : pmT} (h10 : v.1 100 10 = 6) (k : P (some (.int (-4))) (pmT0 ++ LT) v) : EvP X (d + 6) MX12_text 0 [.ref 100, pmJ] [] (pmT0 ++ LT) v P := by
  refine ev_aload_n 0 dX12_text_0 rfl (by decide) ?_
  refine gf_12_83 (x := 6) (pc := 1) rfl dX12_text_1 kd_100 h10 ?_
  refine ev_bipush 4 dX12_text_4 kB_6 ?_
  refine ev_icF 6 12 dX12_text_6 rfl (by decide) ?_
  refine ev_bipush 9 dX12_text_9 kB_m4 ?_
  refine ev_ireturn 11 dX12_text_11 rfl rfl ?_
  exact k

theorem c_X12_text {X : pmX} {d : Nat} {v : pmV} {P : Option Value → pmT → pmV → Prop} {LT : pmT} {B : Nat → Int32} {z : Nat} (hX : pmRf v) (hz160 : z ≤ 160) (hz : v.1 100 12 = nI z) (hB : ∀ j, j < z → v.1 106 j = B j) (h255 : ∀ j, j < z → 0 ≤ B j ∧ B j ≤ 255) {t N F k : Nat} {b : Bool} {cs : List Int32} {es : List Nat} (hN : TKS B z N) (ht : t ≤ 5) (h10 : v.1 100 10 = nI t) (hg : gRd (tC B z) (tV B z) F b k cs es) (k0 : b = false → ∀ v', Of (xC t) v v' → v'.1 100 12 = 0 → v'.1 100 10 = nI t → P (some (.int (-100 - nI (tA B z k)))) (pmT0 ++ LT) v') (k1 : b = true → ∀ v', Of (xC t) v v' → v'.1 100 12 = 0 → v'.1 100 10 = nI (t + 1) → (∃ c0 c1 c2, hgt c0 0 = some 1 ∧ hgt c1 0 = some 1 ∧ hgt c2 0 = some 1 ∧ cs = c0 ++ (c1 ++ c2) ∧ es = [c0.length, (c0 ++ c1).length, (c0 ++ (c1 ++ c2)).length] ∧ PTS t 0 c0 v' ∧ PTS t 1 c1 v' ∧ PTS t 2 c2 v') → P (some (.int (nI t))) (pmT0 ++ LT) v') : EvP X (d + 6) MX12_text 0 [.ref 100, pmJ] [] (pmT0 ++ LT) v P := by
  have hz2 := hN.1
  have hN0 : tC B z N = 0 := if_neg (by rw [hN.2.1]; omega)
  obtain ⟨r0, h0, hr0⟩ := hg
  refine ev_aload_n 0 dX12_text_0 rfl (by decide) ?_
  refine gf_12_83 (x := nI t) (pc := 1) rfl dX12_text_1 kd_100 h10 ?_
  refine ev_bipush 4 dX12_text_4 kB_6 ?_
  refine ev_ic_neN (a := t) (b := 6) 6 12 dX12_text_6 rfl (by omega) (by omega) (fun c_6 => ?_) (fun c_6 => by omega)
  refine ev_aload_n 12 dX12_text_12 rfl (by decide) ?_
  refine ev_iconst 13 dX12_text_13 kI_0 ?_
  refine pf_12_92 (pc := 14) rfl dX12_text_14 kd_100 ?_
  refine ev_aload_n 17 dX12_text_17 rfl (by decide) ?_
  refine cv_12_226_12 (pc := 18) rfl dX12_text_18 kd_100 (Nat.le_of_ble_eq_true rfl) ?_
  refine c_X12_look (B := B) (v := (uI v 100 13 0)) (a := 0) (hX.ag rfl) hz160 ((uI_off (by decide)).trans hz) (fun j hj => (uI_ne (by decide)).trans (hB j hj)) h255 (Nat.zero_le _) uI_on (fun v1 hQ1 hL1 => ?_)
  have hO1 : Of (yC t) v v1 := (Of.nil.i (Or.inl ⟨rfl, by omega, by omega⟩)).tr (yC.lk hQ1)
  have hX1 : pmRf v1 := hX.ag (congrArg Prod.snd hO1.1)
  have hz1 : v1.1 100 12 = nI z := (hO1.off (by unfold yC; omega)).trans hz
  have hB1 : ∀ j, j < z → v1.1 106 j = B j := fun j hj => (hO1.off (by unfold yC; omega)).trans (hB j hj)
  have ht1 : v1.1 100 10 = nI t := (hO1.off (by unfold yC; omega)).trans h10
  refine ev_aload_n 21 dX12_text_21 rfl (by decide) ?_
  refine ev_aload_n 22 dX12_text_22 rfl (by decide) ?_
  refine gf_12_83 (x := nI t) (pc := 23) rfl dX12_text_23 kd_100 ht1 ?_
  refine ev_iconst 26 dX12_text_26 kI_0 ?_
  refine ev_ldc 27 dX12_text_27 lc_12_229 ?_
  refine cv_12_270_12 (pc := 29) rfl dX12_text_29 kd_100 (Nat.le_of_ble_eq_true rfl) ?_
  refine c_X12_takesPart (t := t) (p := 0) (k := 0) hX1 hz160 hz1 hB1 h255 hN ht (by decide) w_6 (Nat.zero_le _) hL1 h0 (fun hb v2 hQ2 hL2 => ?_) (fun hb v2 hQ2 hL2 hm hlen hcd => ?_)
  · have hO2 : Of (yC t) v v2 := hO1.tr (yC.pc (by decide) hQ2)
    have hX2 : pmRf v2 := hX.ag (congrArg Prod.snd hO2.1)
    have hz2 : v2.1 100 12 = nI z := (hO2.off (by unfold yC; omega)).trans hz
    have hB2 : ∀ j, j < z → v2.1 106 j = B j := fun j hj => (hO2.off (by unfold yC; omega)).trans (hB j hj)
    have ht2 : v2.1 100 10 = nI t := (hO2.off (by unfold yC; omega)).trans h10
    have hbk : b = false ∧ k = r0.2.1 := by
      rcases hr0 with ⟨_, e1, e2⟩ | ⟨e1, _⟩
      · exact ⟨e1, e2⟩
      · exact absurd (hb.symm.trans e1) (by decide)
    refine ev_ifT 32 75 dX12_text_32 rfl (by decide) ?_
    refine ev_iconst 75 dX12_text_75 kI_0 ?_
    refine ev_istore_n (ls' := [.ref 100, .int 0]) 76 dX12_text_76 (Nat.le_of_ble_eq_true rfl) rfl ?_
    refine ev_aload_n 77 dX12_text_77 rfl (by decide) ?_
    refine ev_iconst 78 dX12_text_78 kI_0 ?_
    refine pf_12_89 (pc := 79) rfl dX12_text_79 kd_100 ?_
    refine ev_iload_n 82 dX12_text_82 rfl ?_
    refine ev_ifF 83 94 dX12_text_83 rfl (by decide) ?_
    refine ev_bipush 86 dX12_text_86 kB_m100 ?_
    refine ev_aload_n 88 dX12_text_88 rfl (by decide) ?_
    refine gf_12_92 (x := nI (tA B z r0.2.1)) (pc := 89) rfl dX12_text_89 kd_100 ((uI_off (by decide)).trans hL2.1) ?_
    refine ev_isub 92 dX12_text_92 ?_
    refine ev_ireturn 93 dX12_text_93 rfl rfl ?_
    rw [hbk.2] at k0
    exact k0 hbk.1 _ ((hO2.wd (fun a j h => Or.inr h)).i (Or.inl ⟨rfl, Or.inr rfl⟩)) uI_on ((uI_off (by decide)).trans ht2)
  · have hO2 : Of (yC t) v v2 := hO1.tr (yC.pc (by decide) hQ2)
    have hX2 : pmRf v2 := hX.ag (congrArg Prod.snd hO2.1)
    have hz2 : v2.1 100 12 = nI z := (hO2.off (by unfold yC; omega)).trans hz
    have hB2 : ∀ j, j < z → v2.1 106 j = B j := fun j hj => (hO2.off (by unfold yC; omega)).trans (hB j hj)
    have ht2 : v2.1 100 10 = nI t := (hO2.off (by unfold yC; omega)).trans h10
    have hP0 : PTS t 0 r0.2.2 v2 := ⟨hm, hlen, hcd⟩
    obtain ⟨r1, h1, hr1⟩ : ∃ r, gPart (tC B z) (tV B z) F 1 r0.2.1 r0.2.2 = some r ∧ ((r.1 = false ∧ b = false ∧ k = r.2.1) ∨ r.1 = true ∧ ∃ r2, gPart (tC B z) (tV B z) F 2 r.2.1 r.2.2 = some r2 ∧ ((r2.1 = false ∧ b = false ∧ k = r2.2.1) ∨ r2.1 = true ∧ k = r2.2.1 ∧ ((tC B z k ≠ 0 ∧ b = false) ∨ (tC B z k = 0 ∧ b = true ∧ cs = r2.2.2 ∧ es = [r0.2.2.length, r.2.2.length, r2.2.2.length])))) := by
      rcases hr0 with ⟨e1, _⟩ | ⟨_, q⟩
      · exact absurd (hb.symm.trans e1) (by decide)
      · exact q
    obtain ⟨c1, g1, e1⟩ := gPart_ap h1
    have hk1 := (gPart_nx hN0 (by decide) h0 (Nat.zero_le _) (Nat.zero_le _)).2.1
    have hb0 := hb; clear hb
    refine ev_ifF 32 75 dX12_text_32 rfl (by decide) ?_
    refine ev_aload_n 35 dX12_text_35 rfl (by decide) ?_
    refine ev_aload_n 36 dX12_text_36 rfl (by decide) ?_
    refine gf_12_83 (x := nI t) (pc := 37) rfl dX12_text_37 kd_100 ht2 ?_
    refine ev_iconst 40 dX12_text_40 kI_1 ?_
    refine ev_ldc 41 dX12_text_41 lc_12_230 ?_
    refine cv_12_270_12 (pc := 43) rfl dX12_text_43 kd_100 (Nat.le_of_ble_eq_true rfl) ?_
    refine c_X12_takesPart (t := t) (p := 1) (k := r0.2.1) hX2 hz160 hz2 hB2 h255 hN ht (by decide) w_7 hk1 hL2 g1 (fun hb v3 hQ3 hL3 => ?_) (fun hb v3 hQ3 hL3 hm hlen hcd => ?_)
    · have hO3 : Of (yC t) v v3 := hO2.tr (yC.pc (by decide) hQ3)
      have hX3 : pmRf v3 := hX.ag (congrArg Prod.snd hO3.1)
      have hz3 : v3.1 100 12 = nI z := (hO3.off (by unfold yC; omega)).trans hz
      have hB3 : ∀ j, j < z → v3.1 106 j = B j := fun j hj => (hO3.off (by unfold yC; omega)).trans (hB j hj)
      have ht3 : v3.1 100 10 = nI t := (hO3.off (by unfold yC; omega)).trans h10
      have hbk : b = false ∧ k = r1.2.1 := by
        rcases hr1 with ⟨_, e1, e2⟩ | ⟨e1, _⟩
        · exact ⟨e1, e2⟩
        · exact absurd (hb.symm.trans e1) (by decide)
      refine ev_ifT 46 75 dX12_text_46 rfl (by decide) ?_
      refine ev_iconst 75 dX12_text_75 kI_0 ?_
      refine ev_istore_n (ls' := [.ref 100, .int 0]) 76 dX12_text_76 (Nat.le_of_ble_eq_true rfl) rfl ?_
      refine ev_aload_n 77 dX12_text_77 rfl (by decide) ?_
      refine ev_iconst 78 dX12_text_78 kI_0 ?_
      refine pf_12_89 (pc := 79) rfl dX12_text_79 kd_100 ?_
      refine ev_iload_n 82 dX12_text_82 rfl ?_
      refine ev_ifF 83 94 dX12_text_83 rfl (by decide) ?_
      refine ev_bipush 86 dX12_text_86 kB_m100 ?_
      refine ev_aload_n 88 dX12_text_88 rfl (by decide) ?_
      refine gf_12_92 (x := nI (tA B z r1.2.1)) (pc := 89) rfl dX12_text_89 kd_100 ((uI_off (by decide)).trans hL3.1) ?_
      refine ev_isub 92 dX12_text_92 ?_
      refine ev_ireturn 93 dX12_text_93 rfl rfl ?_
      rw [hbk.2] at k0
      exact k0 hbk.1 _ ((hO3.wd (fun a j h => Or.inr h)).i (Or.inl ⟨rfl, Or.inr rfl⟩)) uI_on ((uI_off (by decide)).trans ht3)
    · have hO3 : Of (yC t) v v3 := hO2.tr (yC.pc (by decide) hQ3)
      have hX3 : pmRf v3 := hX.ag (congrArg Prod.snd hO3.1)
      have hz3 : v3.1 100 12 = nI z := (hO3.off (by unfold yC; omega)).trans hz
      have hB3 : ∀ j, j < z → v3.1 106 j = B j := fun j hj => (hO3.off (by unfold yC; omega)).trans (hB j hj)
      have ht3 : v3.1 100 10 = nI t := (hO3.off (by unfold yC; omega)).trans h10
      have hP1 : PTS t 1 c1 v3 := ⟨hm, hlen, hcd⟩
      have hP01 := hP0.pc hQ3 (by decide)
      obtain ⟨r2, h2, hr2⟩ : ∃ r, gPart (tC B z) (tV B z) F 2 r1.2.1 r1.2.2 = some r ∧ ((r.1 = false ∧ b = false ∧ k = r.2.1) ∨ r.1 = true ∧ k = r.2.1 ∧ ((tC B z k ≠ 0 ∧ b = false) ∨ (tC B z k = 0 ∧ b = true ∧ cs = r.2.2 ∧ es = [r0.2.2.length, r1.2.2.length, r.2.2.length]))) := by
        rcases hr1 with ⟨e1, _⟩ | ⟨_, q⟩
        · exact absurd (hb.symm.trans e1) (by decide)
        · exact q
      obtain ⟨c2, g2, e2⟩ := gPart_ap h2
      have hk2 := (gPart_nx hN0 (by decide) g1 hk1 (Nat.zero_le _)).2.1
      have hb1 := hb; clear hb
      refine ev_ifF 46 75 dX12_text_46 rfl (by decide) ?_
      refine ev_aload_n 49 dX12_text_49 rfl (by decide) ?_
      refine ev_aload_n 50 dX12_text_50 rfl (by decide) ?_
      refine gf_12_83 (x := nI t) (pc := 51) rfl dX12_text_51 kd_100 ht3 ?_
      refine ev_iconst 54 dX12_text_54 kI_2 ?_
      refine ev_ldc 55 dX12_text_55 lc_12_231 ?_
      refine cv_12_270_12 (pc := 57) rfl dX12_text_57 kd_100 (Nat.le_of_ble_eq_true rfl) ?_
      refine c_X12_takesPart (t := t) (p := 2) (k := r1.2.1) hX3 hz160 hz3 hB3 h255 hN ht (by decide) w_8 hk2 hL3 g2 (fun hb v4 hQ4 hL4 => ?_) (fun hb v4 hQ4 hL4 hm hlen hcd => ?_)
      · have hO4 : Of (yC t) v v4 := hO3.tr (yC.pc (by decide) hQ4)
        have hX4 : pmRf v4 := hX.ag (congrArg Prod.snd hO4.1)
        have hz4 : v4.1 100 12 = nI z := (hO4.off (by unfold yC; omega)).trans hz
        have hB4 : ∀ j, j < z → v4.1 106 j = B j := fun j hj => (hO4.off (by unfold yC; omega)).trans (hB j hj)
        have ht4 : v4.1 100 10 = nI t := (hO4.off (by unfold yC; omega)).trans h10
        have hbk : b = false ∧ k = r2.2.1 := by
          rcases hr2 with ⟨_, e1, e2⟩ | ⟨e1, _⟩
          · exact ⟨e1, e2⟩
          · exact absurd (hb.symm.trans e1) (by decide)
        refine ev_ifT 60 75 dX12_text_60 rfl (by decide) ?_
        refine ev_iconst 75 dX12_text_75 kI_0 ?_
        refine ev_istore_n (ls' := [.ref 100, .int 0]) 76 dX12_text_76 (Nat.le_of_ble_eq_true rfl) rfl ?_
        refine ev_aload_n 77 dX12_text_77 rfl (by decide) ?_
        refine ev_iconst 78 dX12_text_78 kI_0 ?_
        refine pf_12_89 (pc := 79) rfl dX12_text_79 kd_100 ?_
        refine ev_iload_n 82 dX12_text_82 rfl ?_
        refine ev_ifF 83 94 dX12_text_83 rfl (by decide) ?_
        refine ev_bipush 86 dX12_text_86 kB_m100 ?_
        refine ev_aload_n 88 dX12_text_88 rfl (by decide) ?_
        refine gf_12_92 (x := nI (tA B z r2.2.1)) (pc := 89) rfl dX12_text_89 kd_100 ((uI_off (by decide)).trans hL4.1) ?_
        refine ev_isub 92 dX12_text_92 ?_
        refine ev_ireturn 93 dX12_text_93 rfl rfl ?_
        rw [hbk.2] at k0
        exact k0 hbk.1 _ ((hO4.wd (fun a j h => Or.inr h)).i (Or.inl ⟨rfl, Or.inr rfl⟩)) uI_on ((uI_off (by decide)).trans ht4)
      · have hO4 : Of (yC t) v v4 := hO3.tr (yC.pc (by decide) hQ4)
        have hX4 : pmRf v4 := hX.ag (congrArg Prod.snd hO4.1)
        have hz4 : v4.1 100 12 = nI z := (hO4.off (by unfold yC; omega)).trans hz
        have hB4 : ∀ j, j < z → v4.1 106 j = B j := fun j hj => (hO4.off (by unfold yC; omega)).trans (hB j hj)
        have ht4 : v4.1 100 10 = nI t := (hO4.off (by unfold yC; omega)).trans h10
        have hP2 : PTS t 2 c2 v4 := ⟨hm, hlen, hcd⟩
        have hP02 := hP01.pc hQ4 (by decide)
        have hP12 := hP1.pc hQ4 (by decide)
        obtain ⟨hk, hr3⟩ : k = r2.2.1 ∧ ((tC B z k ≠ 0 ∧ b = false) ∨ (tC B z k = 0 ∧ b = true ∧ cs = r2.2.2 ∧ es = [r0.2.2.length, r1.2.2.length, r2.2.2.length])) := by
          rcases hr2 with ⟨e1, _⟩ | ⟨_, q⟩
          · exact absurd (hb.symm.trans e1) (by decide)
          · exact q
        subst hk
        have hen : v4.1 100 14 = -1 ↔ tC B z r2.2.1 = 0 := hL4.en
        have hb2 := hb; clear hb
        refine ev_ifF 60 75 dX12_text_60 rfl (by decide) ?_
        refine ev_aload_n 63 dX12_text_63 rfl (by decide) ?_
        refine gf_12_95 (x := v4.1 100 14) (pc := 64) rfl dX12_text_64 kd_100 rfl ?_
        refine ev_iconst 67 dX12_text_67 kI_m1 ?_
        refine ev_ic_ne 68 75 dX12_text_68 rfl (fun c_68 => ?_) (fun c_68 => ?_)
        · refine ev_iconst 75 dX12_text_75 kI_0 ?_
          refine ev_istore_n (ls' := [.ref 100, .int 0]) 76 dX12_text_76 (Nat.le_of_ble_eq_true rfl) rfl ?_
          refine ev_aload_n 77 dX12_text_77 rfl (by decide) ?_
          refine ev_iconst 78 dX12_text_78 kI_0 ?_
          refine pf_12_89 (pc := 79) rfl dX12_text_79 kd_100 ?_
          refine ev_iload_n 82 dX12_text_82 rfl ?_
          refine ev_ifF 83 94 dX12_text_83 rfl (by decide) ?_
          refine ev_bipush 86 dX12_text_86 kB_m100 ?_
          refine ev_aload_n 88 dX12_text_88 rfl (by decide) ?_
          refine gf_12_92 (x := nI (tA B z r2.2.1)) (pc := 89) rfl dX12_text_89 kd_100 ((uI_off (by decide)).trans hL4.1) ?_
          refine ev_isub 92 dX12_text_92 ?_
          refine ev_ireturn 93 dX12_text_93 rfl rfl ?_
          rcases hr3 with ⟨_, hbf⟩ | ⟨e0, _⟩
          · exact k0 hbf _ ((hO4.wd (fun a j h => Or.inr h)).i (Or.inl ⟨rfl, Or.inr rfl⟩)) uI_on ((uI_off (by decide)).trans ht4)
          · exact absurd (hen.mpr e0) c_68
        · refine ev_iconst 71 dX12_text_71 kI_1 ?_
          refine ev_goto 72 76 dX12_text_72 rfl ?_
          refine ev_istore_n (ls' := [.ref 100, .int 1]) 76 dX12_text_76 (Nat.le_of_ble_eq_true rfl) rfl ?_
          refine ev_aload_n 77 dX12_text_77 rfl (by decide) ?_
          refine ev_iconst 78 dX12_text_78 kI_0 ?_
          refine pf_12_89 (pc := 79) rfl dX12_text_79 kd_100 ?_
          refine ev_iload_n 82 dX12_text_82 rfl ?_
          refine ev_ifT 83 94 dX12_text_83 rfl (by decide) ?_
          refine ev_aload_n 94 dX12_text_94 rfl (by decide) ?_
          refine ev_dup 95 dX12_text_95 rfl ?_
          refine gf_12_83 (x := nI t) (pc := 96) rfl dX12_text_96 kd_100 ((uI_off (by decide)).trans ht4) ?_
          refine ev_iconst 99 dX12_text_99 kI_1 ?_
          refine ev_iadd 100 dX12_text_100 ?_
          refine ev_cst (y := nI (t + 1)) (nI_add t 1) ?_
          refine pf_12_83 (pc := 101) rfl dX12_text_101 kd_100 ?_
          refine ev_aload_n 104 dX12_text_104 rfl (by decide) ?_
          refine gf_12_83 (x := nI (t + 1)) (pc := 105) rfl dX12_text_105 kd_100 uI_on ?_
          refine ev_iconst 108 dX12_text_108 kI_1 ?_
          refine ev_isub 109 dX12_text_109 ?_
          refine ev_cst (y := nI (t + 1 - 1)) (pk_sub (a := (t + 1)) (b := 1) (by omega)) ?_
          refine ev_ireturn 110 dX12_text_110 rfl rfl ?_
          have c0 : tC B z r2.2.1 = 0 := hen.mp (by simpa using c_68)
          rcases hr3 with ⟨e0, _⟩ | ⟨_, hbt, hcs, hes⟩
          · exact absurd c0 e0
          have hD : ∀ x : Int32, Of (fun a _ => a = 100) v4 (uI (uI v4 100 12 0) 100 10 x) := fun x => Of.i (E := fun a _ => a = 100) (Of.i (E := fun a _ => a = 100) Of.nil rfl) rfl
          refine k1 hbt _ (((hO4.wd (fun a j h => Or.inr h)).i (Or.inl ⟨rfl, Or.inr rfl⟩)).i (Or.inl ⟨rfl, Or.inl rfl⟩)) ((uI_off (by decide)).trans uI_on) uI_on ⟨r0.2.2, c1, c2, gPart_hgt tV_ok h0 hb0, gPart_hgt tV_ok g1 hb1, gPart_hgt tV_ok g2 hb2, by rw [hcs, e2, e1, List.append_assoc], by rw [hes, e2, e1, List.append_assoc], hP02.of (hD _) (by decide) (fun i hi => ⟨by decide, by decide⟩), hP12.of (hD _) (by decide) (fun i hi => ⟨by decide, by decide⟩), hP2.of (hD _) (by decide) (fun i hi => ⟨by decide, by decide⟩)⟩

