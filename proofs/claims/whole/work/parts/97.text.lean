/-! TEXTS: text, the class's and the reference's -/
theorem pmRf.r41 {v : pmV} {x : Option Nat} (h : pmRf v) : pmRf (uR v 41 6 x) := fun q hq => (show (uR v 41 6 x).2.2 q.1 q.2.1 = v.2.2 q.1 q.2.1 from if_neg (fun z => absurd z (by revert q; decide))).trans (h q hq)
def zC (t a j : Nat) : Prop := a = 41 ∨ (43 ≤ a ∧ a ≤ 45) ∨ a = 69 + 4 * t ∨ a = 70 + 4 * t ∨ (a = 32 ∧ j = 6)
theorem TxtOk.ag2 {k : Nat} {v v' : pmV} (h : TxtOk k v) (ha : ∀ a j, (a = 69 + 4 * k ∨ a = 70 + 4 * k ∨ (a = 109 ∧ 3 * k ≤ j ∧ j < 3 * k + 3) ∨ (a = 107 ∨ a = 108) ∧ (480 * k ≤ j ∧ j < 480 * k + 480)) → v'.1 a j = v.1 a j) : TxtOk k v' := by
  have e1 : ∀ j, v'.1 (70 + 4 * k) j = v.1 (70 + 4 * k) j := fun j => ha _ _ (by omega)
  have e2 : ∀ j, v'.1 (69 + 4 * k) j = v.1 (69 + 4 * k) j := fun j => ha _ _ (by omega)
  have e3 : ∀ p, txE k p v' = txE k p v := fun p => by unfold txE; rw [e1]
  have e4 : ∀ p, txB k p v' = txB k p v := fun p => by unfold txB; rw [e1]
  have e5 : ∀ p, txC k p v' = txC k p v := fun p => by unfold txC; rw [e3, e4]; simp only [e2]
  intro p hp
  obtain ⟨h1, h2, h3, h4, h5, h6⟩ := h p hp
  rw [e1, e3, e4, e5, ha 109 _ (by omega)]
  refine ⟨h1, h2, h3, h4, h5, fun i hi => ?_⟩
  rw [e2, ha 107 _ (by omega), ha 108 _ (by omega)]
  exact h6 i hi
theorem cRule.mo {t : Nat} {v : pmV} (h : cRule t v) : cRule (t + 1) v := by
  obtain ⟨r, h1, h2, h3⟩ := h
  exact ⟨r, by omega, h2, h3⟩
theorem cImg.mo {t : Nat} {v : pmV} (h : cImg t v) : cImg (t + 1) v := by
  obtain ⟨h1, h2⟩ := h
  refine ⟨h1, ?_⟩
  rcases h2 with h2 | ⟨h2, h3, h4, h5, h6, h7, h8, r, h9, h10, h11⟩
  · exact Or.inl h2
  · exact Or.inr ⟨h2, h3, h4, h5, h6, h7, h8, r, by omega, h10, h11⟩
theorem gRd_len {tok val : Nat → Int32} {N F k : Nat} {cs : List Int32} {es : List Nat} (hN : tok N = 0) (h : gRd tok val F true k cs es) : cs.length ≤ N := by
  obtain ⟨r0, h0, h⟩ := h
  rcases h with ⟨_, e, _⟩ | ⟨_, r1, h1, h⟩
  · cases e
  · rcases h with ⟨_, e, _⟩ | ⟨_, r2, h2, h⟩
    · cases e
    · rcases h with ⟨_, e, _⟩ | ⟨_, hk, ⟨_, e⟩ | ⟨_, _, hc, _⟩⟩
      · cases e
      · cases e
      · have a0 := gPart_nx hN (by decide) h0 (Nat.zero_le _) (Nat.zero_le _)
        have a1 := gPart_nx hN (by decide) h1 a0.2.1 a0.2.2.1
        have a2 := gPart_nx hN (by decide) h2 a1.2.1 a1.2.2.1
        rw [hc]; exact Nat.le_trans a2.2.2.1 a2.2.1
/-- a part of a text, once its codes lie -/
theorem tx1 {t p b : Nat} {c : List Int32} {v : pmV} (hb : txB t p v = b) (he : v.1 (70 + 4 * t) p = nI (b + c.length)) (h160 : b + c.length ≤ 160) (hc : ∀ i, i < c.length → v.1 (69 + 4 * t) (b + i) = c.getD i 0) (hP : PTS t p c v) (hg : hgt c 0 = some 1) : v.1 (70 + 4 * t) p = nI (txE t p v) ∧ txB t p v ≤ txE t p v ∧ txE t p v ≤ 160 ∧ v.1 109 (3 * t + p) = nI (txE t p v - txB t p v) ∧ hgt (txC t p v) 0 = some 1 ∧
  ∀ i, i < txE t p v - txB t p v → codeOk (v.1 (69 + 4 * t) (txB t p v + i)) (v.1 107 (480 * t + 160 * p + i)) (v.1 108 (480 * t + 160 * p + i)) := by
  have e1 : txE t p v = b + c.length := by unfold txE; rw [he]; exact nI_clamp (by omega)
  have e2 : txC t p v = c := by
    unfold txC
    rw [e1, hb, Nat.add_sub_cancel_left]
    refine List.ext_getElem (by rw [List.length_map, List.length_range]) (fun i h1 h2 => ?_)
    rw [List.getElem_map, List.getElem_range, hc i h2, List.getD_eq_getElem?_getD, List.getElem?_eq_getElem h2]; rfl
  rw [e1, e2, hb, Nat.add_sub_cancel_left]
  refine ⟨he, by omega, h160, hP.1, hg, fun i hi => ?_⟩
  rw [hc i hi]; exact hP.2.2 i hi
theorem getD_ap {a c : List Int32} {i : Nat} : (a ++ c).getD (a.length + i) 0 = c.getD i 0 := by
  rw [List.getD_eq_getElem?_getD, List.getD_eq_getElem?_getD, List.getElem?_append_right (by omega), Nat.add_sub_cancel_left]
theorem getD_al {a c : List Int32} {i : Nat} (h : i < a.length) : (a ++ c).getD i 0 = a.getD i 0 := by
  rw [List.getD_eq_getElem?_getD, List.getD_eq_getElem?_getD, List.getElem?_append_left h]
theorem txAll {t : Nat} {c0 c1 c2 : List Int32} {v : pmV} (hl : (c0 ++ (c1 ++ c2)).length ≤ 160) (hc : ∀ i, i < (c0 ++ (c1 ++ c2)).length → v.1 (69 + 4 * t) i = (c0 ++ (c1 ++ c2)).getD i 0) (he : ∀ p, p < 3 → v.1 (70 + 4 * t) p = nI ([c0.length, (c0 ++ c1).length, (c0 ++ (c1 ++ c2)).length].getD p 0)) (h0 : hgt c0 0 = some 1) (h1 : hgt c1 0 = some 1) (h2 : hgt c2 0 = some 1) (p0 : PTS t 0 c0 v) (p1 : PTS t 1 c1 v) (p2 : PTS t 2 c2 v) : TxtOk t v := by
  have l2 : (c0 ++ (c1 ++ c2)).length = c0.length + c1.length + c2.length := by rw [List.length_append, List.length_append]; omega
  have l1 : (c0 ++ c1).length = c0.length + c1.length := List.length_append
  have f0 : v.1 (70 + 4 * t) 0 = nI c0.length := he 0 (by decide)
  have f1 : v.1 (70 + 4 * t) 1 = nI (c0.length + c1.length) := (he 1 (by decide)).trans (congrArg nI l1)
  have f2 : v.1 (70 + 4 * t) 2 = nI (c0.length + c1.length + c2.length) := (he 2 (by decide)).trans (congrArg nI l2)
  rw [l2] at hl hc
  intro p hp
  have : p = 0 ∨ p = 1 ∨ p = 2 := by omega
  rcases this with rfl | rfl | rfl
  · exact tx1 (b := 0) (c := c0) (if_pos rfl) (f0.trans (congrArg nI (by omega))) (by omega) (fun i hi => by rw [hc (0 + i) (by omega), Nat.zero_add, getD_al hi]) p0 h0
  · exact tx1 (b := c0.length) (c := c1) (by unfold txB; rw [if_neg (by decide)]; show (v.1 (70 + 4 * t) 0).toNatClampNeg = _; rw [f0]; exact nI_clamp (by omega)) f1 (by omega) (fun i hi => by rw [hc (c0.length + i) (by omega), getD_ap, getD_al hi]) p1 h1
  · exact tx1 (b := c0.length + c1.length) (c := c2) (by unfold txB; rw [if_neg (by decide)]; show (v.1 (70 + 4 * t) 1).toNatClampNeg = _; rw [f1]; exact nI_clamp (by omega)) f2 (by omega) (fun i hi => by rw [hc (c0.length + c1.length + i) (by omega), Nat.add_assoc, getD_ap, getD_ap]) p2 h2
theorem TKS.le {B : Nat → Int32} {z N k : Nat} (h : TKS B z N) (hk : k ≤ N) : tA B z k ≤ z := by
  rcases Nat.lt_or_ge k N with q | q
  · exact Nat.le_of_lt (h.2.2 k q)
  · rw [show k = N by omega, h.2.1]; exact Nat.le_refl _
theorem TKS.of {B : Nat → Int32} {z m : Nat} {v u : pmV} (h : SPL B z v u m) : TKS B z m := ⟨h.2.1, h.2.2.1, h.2.2.2.1⟩
theorem c_X11_text6 {X : pmX} {d : Nat} {v : pmV} {P : Option Value → pmT → pmV → Prop} {LT : pmT} (h6 : v.1 32 6 = 6) (k : P (some (.int (-4))) (pmT0 ++ LT) v) : EvP X (d + 54) MX11_text 0 [.ref 32, pmJ] [] (pmT0 ++ LT) v P := by
  refine ev_aload_n 0 dX11_text_0 rfl (by decide) ?_
  refine gf_11_71 (x := 6) (pc := 1) rfl dX11_text_1 kd_32 h6 ?_
  refine ev_bipush 4 dX11_text_4 kB_6 ?_
  refine ev_icF 6 12 dX11_text_6 rfl (by decide) ?_
  refine ev_bipush 9 dX11_text_9 kB_m4 ?_
  refine ev_ireturn 11 dX11_text_11 rfl rfl ?_
  exact k

theorem c_X11_text {X : pmX} {d : Nat} {v : pmV} {P : Option Value → pmT → pmV → Prop} {LT : pmT} {t : Nat} {B : Nat → Int32} {z : Nat} (hX : pmRf v) (hz160 : z ≤ 160) (hz : v.1 41 1 = nI z) (hB : ∀ j, j < z → v.1 42 j = B j) (h255 : ∀ j, j < z → 0 ≤ B j ∧ B j ≤ 255) (ht : t < 6) (h6 : v.1 32 6 = nI t) (kF : ∀ m u k v', SPL B z v u m → k ≤ m → (∀ cs es, gRd (tC B z) (tV B z) 3208 false k cs es) → Of (rC t) (uI (uI (uR u 41 6 (some (68 + 4 * t))) 41 7 0) 41 5 0) v' → P (some (.int (-100 - nI (tA B z k)))) (pmT0 ++ LT) (uI v' 41 1 0)) (kT : ∀ m u k cs es v', SPL B z v u m → k ≤ m → gRd (tC B z) (tV B z) 3208 true k cs es → RPs (uI (uI (uR u 41 6 (some (68 + 4 * t))) 41 7 0) 41 5 0) t k cs es v' → P (some (.int (nI t))) (pmT0 ++ LT) (uI (uI v' 41 1 0) 32 6 (nI (t + 1)))) : EvP X (d + 54) MX11_text 0 [.ref 32, pmJ] [] (pmT0 ++ LT) v P := by
  refine ev_aload_n 0 dX11_text_0 rfl (by decide) ?_
  refine gf_11_71 (x := nI t) (pc := 1) rfl dX11_text_1 kd_32 h6 ?_
  refine ev_bipush 4 dX11_text_4 kB_6 ?_
  refine ev_ic_ltN (a := t) (b := 6) 6 12 dX11_text_6 rfl (by omega) (by omega) (fun c_6 => ?_) (fun c_6 => by omega)
  refine ev_aload_n 12 dX11_text_12 rfl (by decide) ?_
  refine gf_11_34 (pc := 13) rfl dX11_text_13 kd_32 (rf_32_7 hX) ?_
  refine ev_aload_n 16 dX11_text_16 rfl (by decide) ?_
  refine gf_11_27 (pc := 17) rfl dX11_text_17 kd_32 (rf_32_5 hX) ?_
  refine ev_aload_n 20 dX11_text_20 rfl (by decide) ?_
  refine gf_11_71 (x := nI t) (pc := 21) rfl dX11_text_21 kd_32 h6 ?_
  refine ev_aaldJ (x := 68 + 4 * t) (j := t) 24 dX11_text_24 (Nat.le_of_ble_eq_true rfl) ty_40 (by decide) (pm_inI (by omega) (by omega)) (nI_clamp (by omega)) (rf_txt hX (by omega)) ?_
  refine cv_11_63_4 (pc := 25) rfl dX11_text_25 kd_41 (Nat.le_of_ble_eq_true rfl) ?_
  refine c_X4_read (d := d) (F := 3208) (t := t) TK.all hX.x hz160 hz hB h255 ht (Nat.le_refl _) (fun m u k v1 hS hk hg hO => ?_) (fun m u k cs es v1 hS hk hg hR => ?_)
  · have hO := hO
    refine ev_istore_n (ls' := [.ref 32, .int (nI (tA B z k))]) 28 dX11_text_28 (Nat.le_of_ble_eq_true rfl) rfl ?_
    refine ev_aload_n 29 dX11_text_29 rfl (by decide) ?_
    refine gf_11_34 (pc := 30) rfl dX11_text_30 kd_32 (rf_32_7 ((((hX.ag (congrArg Prod.snd hS.1.1)).r41 (x := some (68 + 4 * t))).ag rfl).ag (congrArg Prod.snd hO.1))) ?_
    refine ev_iconst 33 dX11_text_33 kI_0 ?_
    refine pf_11_67 (pc := 34) rfl dX11_text_34 kd_41 ?_
    refine ev_iload_n 37 dX11_text_37 rfl ?_
    refine ev_iconst 38 dX11_text_38 kI_m1 ?_
    refine ev_ic_eq 39 47 dX11_text_39 rfl (fun c_39 => absurd (c_39 ▸ nI_pos' (by have := (TKS.of hS).le hk; omega) : (0 : Int32) ≤ -1) (by decide)) (fun c_39 => ?_)
    refine ev_bipush 42 dX11_text_42 kB_m100 ?_
    refine ev_iload_n 44 dX11_text_44 rfl ?_
    refine ev_isub 45 dX11_text_45 ?_
    refine ev_ireturn 46 dX11_text_46 rfl rfl ?_
    exact kF m u k v1 hS hk hg hO
  · refine ev_cst (y := -1) rfl ?_
    have hO := hR.1
    refine ev_istore_n (ls' := [.ref 32, .int (-1)]) 28 dX11_text_28 (Nat.le_of_ble_eq_true rfl) rfl ?_
    refine ev_aload_n 29 dX11_text_29 rfl (by decide) ?_
    refine gf_11_34 (pc := 30) rfl dX11_text_30 kd_32 (rf_32_7 ((((hX.ag (congrArg Prod.snd hS.1.1)).r41 (x := some (68 + 4 * t))).ag rfl).ag (congrArg Prod.snd hO.1))) ?_
    refine ev_iconst 33 dX11_text_33 kI_0 ?_
    refine pf_11_67 (pc := 34) rfl dX11_text_34 kd_41 ?_
    refine ev_iload_n 37 dX11_text_37 rfl ?_
    refine ev_iconst 38 dX11_text_38 kI_m1 ?_
    refine ev_icT 39 47 dX11_text_39 rfl (by decide) ?_
    refine ev_aload_n 47 dX11_text_47 rfl (by decide) ?_
    refine ev_dup 48 dX11_text_48 rfl ?_
    refine gf_11_71 (x := nI t) (pc := 49) rfl dX11_text_49 kd_32 ((uI_ne (by decide)).trans ((hO.off (by unfold rC gC; omega)).trans ((uI_ne (by decide)).trans ((uI_ne (by decide)).trans ((hS.1.off (by unfold sC; omega)).trans h6))))) ?_
    refine ev_iconst 52 dX11_text_52 kI_1 ?_
    refine ev_iadd 53 dX11_text_53 ?_
    refine ev_cst (y := nI (t + 1)) (nI_add t 1) ?_
    refine pf_11_71 (pc := 54) rfl dX11_text_54 kd_32 ?_
    refine ev_aload_n 57 dX11_text_57 rfl (by decide) ?_
    refine gf_11_71 (x := nI (t + 1)) (pc := 58) rfl dX11_text_58 kd_32 uI_on ?_
    refine ev_iconst 61 dX11_text_61 kI_1 ?_
    refine ev_isub 62 dX11_text_62 ?_
    refine ev_cst (y := nI (t + 1 - 1)) (pk_sub (a := (t + 1)) (b := 1) (by omega)) ?_
    refine ev_ireturn 63 dX11_text_63 rfl rfl ?_
    exact kT m u k cs es v1 hS hk hg hR

