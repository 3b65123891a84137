/-! TEXTS: takesPart -/
theorem kw_f : ∀ w, w < 12 → ∀ p, p < 3 → (nI (wdN w) = nI (wdN (6 + p)) ↔ tkW w = nI (4 + p)) := by decide
theorem kw_n : ∀ p, p < 3 → nI (4 + p) ≠ 0 ∧ nI (4 + p) ≠ 1 ∧ nI (4 + p) ≠ 2 ∧ ¬ sgB (nI (4 + p)) := by decide
theorem LKP.kw {B : Nat → Int32} {z a p : Nat} {v : pmV} (h : LKP B z a v) (hp : p < 3) : (v.1 100 14 = 2 ∧ v.1 100 15 = nI (wdN (6 + p))) ↔ cP B z a = nI (4 + p) := by
  obtain ⟨n0, n1, n2, n3⟩ := kw_n p hp
  rcases h.cs with ⟨hc, ht⟩ | ⟨hc, ht⟩ | ⟨hc, ht, hw⟩ | ⟨ht, w, hw, hc, hx, hd⟩ | ⟨hs, ht⟩
  · rw [hc, ht]; exact ⟨fun h => absurd h.1 (by decide), fun h => absurd h.symm n0⟩
  · rw [hc, ht]; exact ⟨fun h => absurd h.1 (by decide), fun h => absurd h.symm n1⟩
  · rw [hc, ht]; exact ⟨fun h => absurd h.1 (by decide), fun h => absurd h.symm n2⟩
  · rw [hc, ht, hd]; exact ⟨fun h => (kw_f w hw p hp).mp h.2, fun h => ⟨rfl, (kw_f w hw p hp).mpr h⟩⟩
  · rw [ht]; exact ⟨fun h => by rw [h.1] at hs; exact absurd hs (by decide), fun h => by rw [h] at hs; exact absurd hs n3⟩
theorem cP_lt {B : Nat → Int32} {z p : Nat} (h : cP B z p ≠ 0) : p < z := by
  rcases Nat.lt_or_ge p z with a | a
  · exact a
  · exact absurd (if_neg (by omega)) h
theorem LKP.u {B : Nat → Int32} {z p a j : Nat} {x : Int32} {v : pmV} (h : LKP B z p v) (ha : a ≠ 100) : LKP B z p (uI v a j x) := by
  unfold LKP at *
  rw [uI_ne (by omega), uI_ne (by omega), uI_ne (by omega), uI_ne (by omega)]
  exact h
def pC (t p a j : Nat) : Prop := eC (480 * t + 160 * p) a j ∨ a = 109 ∧ j = 3 * t + p
/-- a part's end, as the reference finds it -/
theorem gPt {tok val : Nat → Int32} {F N p k : Nat} {r : Bool × Nat × List Int32} {b : Bool} {k' : Nat} {cs' : List Int32} (h : gPart tok val F p k [] = some r) (hN : tok N = 0) (hk : k + 1 ≤ N) (hp : tok k = nI (4 + p)) (he : rE tok val (N + 1) (k + 1) ([], [], 0) true true = (b, k', cs')) : k' ≤ N ∧ (b = false → r.1 = false ∧ r.2.1 = k') ∧ (b = true → r.1 = true ∧ r.2.1 = k' + 1 ∧ r.2.2 = cs' ∧ tok k' = 59) := by
  rcases gPart_c h with ⟨h1, _⟩ | ⟨_, q, hq, hr⟩
  · exact absurd hp h1
  · obtain ⟨qb, qk, qc⟩ := q
    have hle := gP_le hN hq hk (by decide)
    obtain ⟨h1, h2⟩ := gE hq
    obtain ⟨c2, h3, h4⟩ := h2 (N - (qk - (k + 1)))
    dsimp only at hle hr
    rw [show N - (qk - (k + 1)) + (qk - (k + 1)) + 1 = N + 1 by omega, he] at h3
    injection h3 with h5 h6
    injection h6 with h6 h7
    subst h6 h7
    refine ⟨hle, fun hb => ?_, fun hb => ?_⟩
    · rw [hb] at h5
      have hn := of_decide_eq_false h5.symm
      rcases hr with ⟨_, rfl⟩ | ⟨_, _, rfl⟩ | ⟨a1, a2, _⟩
      · exact ⟨rfl, rfl⟩
      · exact ⟨rfl, rfl⟩
      · exact absurd ⟨a1, a2⟩ hn
    · rw [hb] at h5
      have hy := of_decide_eq_true h5.symm
      rcases hr with ⟨a1, _⟩ | ⟨_, a2, _⟩ | ⟨_, _, rfl⟩
      · rw [hy.1] at a1; cases a1
      · exact absurd hy.2 a2
      · exact ⟨rfl, rfl, (h4 hy).symm, hy.2⟩
theorem c_X12_takesE {X : pmX} {d : Nat} {v : pmV} {P : Option Value → pmT → pmV → Prop} {LT : pmT} {B : Nat → Int32} {z : Nat} (hX : pmRf v) (hz160 : z ≤ 160) (hz : v.1 100 12 = nI z) (hB : ∀ j, j < z → v.1 106 j = B j) (h255 : ∀ j, j < z → 0 ≤ B j ∧ B j ≤ 255) {bs N k : Nat} (hN : TKS B z N) (hk : k ≤ N) (hk1 : 1 ≤ k) (hL : LKP B z (tA B z k) v) (hbs : bs ≤ 2720) (K : ∀ (b : Bool) (k' : Nat) (cs' : List Int32) (v' : pmV), rE (tC B z) (tV B z) (N + 1) k ([], [], 0) true true = (b, k', cs') → k' ≤ N → Of (eC bs) v v' → LKP B z (tA B z k') v' → (b = true → ∃ op', MS bs [] cs' op' v') → P (some (.int (if b = true then 1 else 0))) (pmT0 ++ LT) v') : EvP X (d + 4) MX12_takesE 0 [.ref 100, .int (nI bs), pmJ, pmJ, pmJ, pmJ, pmJ, pmJ] [] (pmT0 ++ LT) v P := by
  refine ev_aload_n 0 dX12_takesE_0 rfl (by decide) ?_
  refine ev_iload_n 1 dX12_takesE_1 rfl ?_
  refine pf_12_110 (pc := 2) rfl dX12_takesE_2 kd_100 ?_
  refine ev_aload_n 5 dX12_takesE_5 rfl (by decide) ?_
  refine ev_iconst 6 dX12_takesE_6 kI_0 ?_
  refine pf_12_107 (pc := 7) rfl dX12_takesE_7 kd_100 ?_
  refine ev_aload_n 10 dX12_takesE_10 rfl (by decide) ?_
  refine ev_iconst 11 dX12_takesE_11 kI_0 ?_
  refine pf_12_104 (pc := 12) rfl dX12_takesE_12 kd_100 ?_
  refine ev_iconst 15 dX12_takesE_15 kI_1 ?_
  refine ev_istore_n (ls' := [.ref 100, .int (nI bs), .int 1, pmJ, pmJ, pmJ, pmJ, pmJ]) 16 dX12_takesE_16 (Nat.le_of_ble_eq_true rfl) rfl ?_
  refine ev_iconst 17 dX12_takesE_17 kI_1 ?_
  refine ev_istore_n (ls' := [.ref 100, .int (nI bs), .int 1, .int 1, pmJ, pmJ, pmJ, pmJ]) 18 dX12_takesE_18 (Nat.le_of_ble_eq_true rfl) rfl ?_
  refine lp_takesE (v0 := v) hX hz160 hz hB h255 hN (N + 1) k 0 [] [] true true 1 _ _ _ _ (uI (uI (uI v 100 19 (nI bs)) 100 18 0) 100 17 0) (by omega) hk (((Of.nil.i (by unfold eC mC; omega)).i (by unfold eC mC; omega)).i (by unfold eC mC; omega)) ?_ (hL.om (((Of.nil.i (by unfold mC; omega)).i (by unfold mC; omega)).i (by unfold mC; omega)) (bs := bs)) (by omega) hk1 rfl K
  exact ⟨uI_on, (uI_off (by decide)).trans uI_on, (uI_off (by decide)).trans ((uI_off (by decide)).trans uI_on), fun i hi => absurd hi (Nat.not_lt_zero i), fun i hi => absurd hi (Nat.not_lt_zero i), fun s hs => (List.not_mem_nil hs).elim, Nat.le_refl 0, Nat.zero_le _, hbs⟩

theorem TKS.lt {B : Nat → Int32} {z N k : Nat} (h : TKS B z N) (hk : k ≤ N) (hl : tA B z k < z) : k + 1 ≤ N := by
  rcases Nat.lt_or_ge k N with q | q
  · exact q
  · have e : k = N := by omega
    rw [e, h.2.1] at hl; omega
theorem c_X12_takesPart {X : pmX} {d : Nat} {v : pmV} {P : Option Value → pmT → pmV → Prop} {LT : pmT} {B : Nat → Int32} {z : Nat} (hX : pmRf v) (hz160 : z ≤ 160) (hz : v.1 100 12 = nI z) (hB : ∀ j, j < z → v.1 106 j = B j) (h255 : ∀ j, j < z → 0 ≤ B j ∧ B j ≤ 255) {t p N k F : Nat} {y : Int32} {r : Bool × Nat × List Int32} (hN : TKS B z N) (ht : t ≤ 5) (hp3 : p < 3) (hkey : y = nI (wdN (6 + p))) (hk : k ≤ N) (hL : LKP B z (tA B z k) v) (h : gPart (tC B z) (tV B z) F p k [] = some r) (k0 : r.1 = false → ∀ v', Of (pC t p) v v' → LKP B z (tA B z r.2.1) v' → P (some (.int 0)) (pmT0 ++ LT) v') (k1 : r.1 = true → ∀ v', Of (pC t p) v v' → LKP B z (tA B z r.2.1) v' → v'.1 109 (3 * t + p) = nI r.2.2.length → r.2.2.length ≤ 160 → (∀ i, i < r.2.2.length → codeOk (r.2.2.getD i 0) (v'.1 107 (480 * t + 160 * p + i)) (v'.1 108 (480 * t + 160 * p + i))) → P (some (.int 1)) (pmT0 ++ LT) v') : EvP X (d + 5) MX12_takesPart 0 [.ref 100, .int (nI t), .int (nI p), .int y, pmJ] [] (pmT0 ++ LT) v P := by
  have hz2 := hN.1
  refine ev_aload_n 0 dX12_takesPart_0 rfl (by decide) ?_
  refine ev_iload_n 1 dX12_takesPart_1 rfl ?_
  refine cv_12_254_12 (pc := 2) rfl dX12_takesPart_2 kd_100 (Nat.le_of_ble_eq_true rfl) ?_
  refine c_X12_isWord (fun h_2 => ?_) (fun h_2 => ?_)
  · rw [hkey] at h_2
    have hck : tC B z k = nI (4 + p) := (hL.kw hp3).mp h_2
    have hlt : tA B z k < z := cP_lt (fun e => (kw_n p hp3).1 (hck.symm.trans e))
    have hk1 := TKS.lt hN hk hlt
    refine ev_ifT 5 10 dX12_takesPart_5 rfl (by decide) ?_
    refine ev_aload_n 10 dX12_takesPart_10 rfl (by decide) ?_
    refine cv_12_264_12 (pc := 11) rfl dX12_takesPart_11 kd_100 (Nat.le_of_ble_eq_true rfl) ?_
    refine c_X12_goOn (B := B) hX hz160 hz hB h255 hL hlt (fun v1 hO1 hL1 => ?_)
    have hX1 : pmRf v1 := hX.ag (congrArg Prod.snd hO1.1)
    have hz1 : v1.1 100 12 = nI z := (hO1.off (by unfold lkC; omega)).trans hz
    have hB1 : ∀ j, j < z → v1.1 106 j = B j := fun j hj => (hO1.off (by unfold lkC; omega)).trans (hB j hj)
    refine ev_sipush 14 dX12_takesPart_14 kS_480 ?_
    refine ev_iload_n 17 dX12_takesPart_17 rfl ?_
    refine ev_imul 18 dX12_takesPart_18 ?_
    refine ev_cst (y := nI (480 * t)) (nI_mulp 480 t) ?_
    refine ev_sipush 19 dX12_takesPart_19 kS_160 ?_
    refine ev_iload_n 22 dX12_takesPart_22 rfl ?_
    refine ev_imul 23 dX12_takesPart_23 ?_
    refine ev_cst (y := nI (160 * p)) (nI_mulp 160 p) ?_
    refine ev_iadd 24 dX12_takesPart_24 ?_
    refine ev_cst (y := nI (480 * t + 160 * p)) (nI_add (480 * t) (160 * p)) ?_
    refine ev_istore (ls' := [.ref 100, .int (nI t), .int (nI p), .int y, .int (nI (480 * t + 160 * p))]) 25 dX12_takesPart_25 (Nat.le_of_ble_eq_true rfl) rfl ?_
    refine ev_aload_n 27 dX12_takesPart_27 rfl (by decide) ?_
    refine ev_iload 28 dX12_takesPart_28 rfl ?_
    refine cv_12_267_12 (pc := 30) rfl dX12_takesPart_30 kd_100 (Nat.le_of_ble_eq_true rfl) ?_
    refine c_X12_takesE (bs := 480 * t + 160 * p) (k := k + 1) hX1 hz160 hz1 hB1 h255 hN hk1 (by omega) hL1 (by omega) (fun b k' cs' v2 he hk' hO2 hL2 hM2 => ?_)
    have hg := gPt h (if_neg (by rw [hN.2.1]; omega)) hk1 hck he
    cases b
    · refine ev_cst (y := 0) rfl ?_
      refine ev_ifF 33 38 dX12_takesPart_33 rfl (by decide) ?_
      refine ev_iconst 36 dX12_takesPart_36 kI_0 ?_
      refine ev_ireturn 37 dX12_takesPart_37 rfl rfl ?_
      exact k0 (hg.2.1 rfl).1 v2 ((hO1.wd (fun a j h => Or.inl (Or.inr h))).tr (hO2.wd (fun a j h => Or.inl h))) (by rw [(hg.2.1 rfl).2]; exact hL2)
    · refine ev_cst (y := 1) rfl ?_
      obtain ⟨op', hM⟩ := hM2 rfl
      obtain ⟨g1, g2, g3, g4⟩ := hg.2.2 rfl
      have hlt2 : tA B z k' < z := cP_lt (show tC B z k' ≠ 0 by rw [g4]; decide)
      have hlen := hM.2.2.2.2.2.2.2.1
      rw [List.length_nil] at hlen
      refine ev_ifT 33 38 dX12_takesPart_33 rfl (by decide) ?_
      refine ev_aload_n 38 dX12_takesPart_38 rfl (by decide) ?_
      refine gf_12_122 (pc := 39) rfl dX12_takesPart_39 kd_100 (rf_100_23 (hX1.ag (congrArg Prod.snd hO2.1))) ?_
      refine ev_iconst 42 dX12_takesPart_42 kI_3 ?_
      refine ev_iload_n 43 dX12_takesPart_43 rfl ?_
      refine ev_imul 44 dX12_takesPart_44 ?_
      refine ev_cst (y := nI (3 * t)) (nI_mulp 3 t) ?_
      refine ev_iload_n 45 dX12_takesPart_45 rfl ?_
      refine ev_iadd 46 dX12_takesPart_46 ?_
      refine ev_cst (y := nI (3 * t + p)) (nI_add (3 * t) p) ?_
      refine ev_aload_n 47 dX12_takesPart_47 rfl (by decide) ?_
      refine gf_12_110 (x := nI (480 * t + 160 * p + cs'.length)) (pc := 48) rfl dX12_takesPart_48 kd_100 hM.2.2.1 ?_
      refine ev_iload 51 dX12_takesPart_51 rfl ?_
      refine ev_isub 53 dX12_takesPart_53 ?_
      refine ev_cst (y := nI (480 * t + 160 * p + cs'.length - (480 * t + 160 * p))) (pk_sub (a := (480 * t + 160 * p + cs'.length)) (b := (480 * t + 160 * p)) (by omega)) ?_
      refine ev_iastJ (j := 3 * t + p) 54 dX12_takesPart_54 (Nat.le_of_ble_eq_true rfl) ty_109 (pm_inI (by omega) (by omega)) (nI_clamp (by omega)) ?_
      refine ev_aload_n 55 dX12_takesPart_55 rfl (by decide) ?_
      refine cv_12_264_12 (pc := 56) rfl dX12_takesPart_56 kd_100 (Nat.le_of_ble_eq_true rfl) ?_
      refine c_X12_goOn (B := B) (v := (uI v2 109 (3 * t + p) (nI (480 * t + 160 * p + cs'.length - (480 * t + 160 * p))))) ((hX1.ag (congrArg Prod.snd hO2.1)).ag rfl) hz160 ((uI_ne (by decide)).trans ((hO2.off (by unfold eC mC lkC; omega)).trans hz1)) (fun j hj => (uI_ne (by decide)).trans ((hO2.off (by unfold eC mC lkC; omega)).trans (hB1 j hj))) h255 (hL2.u (by decide)) hlt2 (fun v3 hO3 hL3 => ?_)
      refine ev_iconst 59 dX12_takesPart_59 kI_1 ?_
      refine ev_ireturn 60 dX12_takesPart_60 rfl rfl ?_
      have hO4 : Of (pC t p) v v3 := ((hO1.wd (fun a j h => Or.inl (Or.inr h))).tr (((hO2.wd (fun a j h => Or.inl h)).i (Or.inr ⟨rfl, rfl⟩)).tr (hO3.wd (fun a j h => Or.inl (Or.inr h)))))
      refine k1 g1 v3 hO4 (by rw [g2]; exact hL3) (by rw [g3]; exact (hO3.off (by unfold lkC; omega)).trans (uI_on.trans (congrArg nI (by omega)))) (by rw [g3]; omega) (fun i hi => ?_)
      rw [g3] at hi ⊢
      rw [hO3.off (by unfold lkC; omega), hO3.off (by unfold lkC; omega), uI_ne (by decide), uI_ne (by decide)]
      exact hM.2.2.2.2.1 i hi
  · rw [hkey] at h_2
    have hck : tC B z k ≠ nI (4 + p) := fun e => h_2 ((hL.kw hp3).mpr e)
    refine ev_ifF 5 10 dX12_takesPart_5 rfl (by decide) ?_
    refine ev_iconst 8 dX12_takesPart_8 kI_0 ?_
    refine ev_ireturn 9 dX12_takesPart_9 rfl rfl ?_
    rcases gPart_c h with ⟨_, rfl⟩ | ⟨q, _⟩
    · exact k0 rfl v Of.nil hL
    · exact absurd q hck

