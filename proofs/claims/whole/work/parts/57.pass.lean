/-! waited, day -/
def plS (e : pmV) (t : Nat) : Nat → Int32 := fun j => if j < 60 then pT e t j else -1
def plN : Nat → Int32 := fun _ => -1
def oR : Nat → Int32 := fun j => if j = 1 then -1 else if j = 0 then 1 else 0
/-- what the class is told by 'by' -/
def PB (e : pmV) (b : Int32) (pl o : Nat → Int32) : Prop := (b = -1 ∧ pl = plN ∧ o = oN) ∨ (b = 4 ∧ pl = plN ∧ o = oR) ∨ ∃ t, t < 4 ∧ b = nI t ∧ pl = plS e t ∧ o = oN
def pR (e : pmV) (n r : Nat) (pl o : Nat → Int32) (N : Nat) : dT × Int64 := pDay e n r N 0 (pBeg e n (sGf pl o)) 0
def Lk (v : pmV) (b : Int32) : Prop := ∃ t, t < 4 ∧ b = nI t ∧ v.1 (92 + 2 * t) 0 = -1
theorem by_of {b : Int32} (h : -1 ≤ b ∧ b ≤ 4) : b = -1 ∨ b = 4 ∨ ∃ t, t < 4 ∧ b = nI t := by
  by_cases h0 : 0 ≤ b
  · obtain ⟨t, rfl, _, ht⟩ := nI_rng (a := 0) (b := 4) (by omega) (by omega) ⟨h0, h.2⟩
    by_cases q : t = 4
    · subst q; exact Or.inr (Or.inl rfl)
    · exact Or.inr (Or.inr ⟨t, by omega, rfl⟩)
  · exact Or.inl (by grind)
theorem by_PB (e : pmV) {b : Int32} (h : -1 ≤ b ∧ b ≤ 4) : ∃ pl o, PB e b pl o := by
  rcases by_of h with rfl | rfl | ⟨t, ht, rfl⟩
  · exact ⟨_, _, Or.inl ⟨rfl, rfl, rfl⟩⟩
  · exact ⟨_, _, Or.inr (Or.inl ⟨rfl, rfl, rfl⟩)⟩
  · exact ⟨_, _, Or.inr (Or.inr ⟨t, ht, rfl, rfl, rfl⟩)⟩
theorem nN {t : Nat} (ht : t < 4) : ¬ (-1 : Int32) = nI t ∧ ¬ (4 : Int32) = nI t := by
  have : t = 0 ∨ t = 1 ∨ t = 2 ∨ t = 3 := by omega
  rcases this with rfl | rfl | rfl | rfl <;> decide
/-- whole days are below the limit of none -/
theorem full {e : pmV} {n tx z r N : Nat} {LT : pmT} (hC : Cpl n tx z LT e) (hN : N ≤ 60) {s : dT} (hH : hOk2 s) : pDayL e n r 4611686018427387904 N 0 (pBeg e n s) 0 = pDay e n r N 0 (pBeg e n s) 0 := by
  have h0 : (0 : Int64) = lN 0 := rfl
  rw [h0]
  have hJ := dJ.beg (e := e) hC.2.1 s
  rcases pDayL_ok hC (r := r) (L := 4611686018427387904) N 0 (pBeg e n s) 0 (by omega) hJ hH (by omega) with h | ⟨_, h⟩
  · exact h
  · obtain ⟨P', a1, _, a3, _⟩ := pDay_ok hC (r := r) N 0 (pBeg e n s) 0 (by omega) hJ hH (by omega)
    rw [a1, show (4611686018427387904 : Int64) = lN 4611686018427387904 from rfl, pk_lLE (by omega) (by omega)] at h
    omega
theorem c_X11_lacksPlan {X : pmX} {d : Nat} {v : pmV} {P : Option Value → pmT → pmV → Prop} {LT : pmT} {b : Int32} (hX : pmRf v) (kt : Lk v b → P (some (.int 1)) (pmT0 ++ LT) v) (kf : ¬ Lk v b → P (some (.int 0)) (pmT0 ++ LT) v) : EvP X (d + 2) MX11_lacksPlan 0 [.ref 32, .int b, pmJ] [] (pmT0 ++ LT) v P := by
  refine ev_aload_n 0 dX11_lacksPlan_0 rfl (by decide) ?_
  refine ev_iload_n 1 dX11_lacksPlan_1 rfl ?_
  refine cv_11_100_11 (pc := 2) rfl dX11_lacksPlan_2 kd_32 (Nat.le_of_ble_eq_true rfl) ?_
  refine c_X11_sheetOf hX (fun t ht hq => ?_) (fun hq => ?_)
  · subst hq
    refine ev_astore_n (ls' := [.ref 32, .int (nI t), .ref (92 + 2 * t)]) 5 dX11_lacksPlan_5 (Nat.le_of_ble_eq_true rfl) (by omega) rfl ?_
    refine ev_aload_n 6 dX11_lacksPlan_6 rfl (by omega) ?_
    refine ev_ifnull 7 dX11_lacksPlan_7 (by omega) ?_
    refine ev_aload_n 10 dX11_lacksPlan_10 rfl (by omega) ?_
    refine cv_11_104_6 (pc := 11) rfl dX11_lacksPlan_11 (kd_sheet (by omega)) (Nat.le_of_ble_eq_true rfl) ?_
    refine c_X6_isMissing ht (fun h_m => ?_) (fun h_m => ?_)
    · refine ev_ifF 14 21 dX11_lacksPlan_14 rfl (by decide) ?_
      refine ev_iconst 17 dX11_lacksPlan_17 kI_1 ?_
      refine ev_goto 18 22 dX11_lacksPlan_18 rfl ?_
      refine ev_ireturn 22 dX11_lacksPlan_22 rfl rfl ?_
      exact kt ⟨t, ht, rfl, h_m⟩
    · refine ev_ifT 14 21 dX11_lacksPlan_14 rfl (by decide) ?_
      refine ev_iconst 21 dX11_lacksPlan_21 kI_0 ?_
      refine ev_ireturn 22 dX11_lacksPlan_22 rfl rfl ?_
      exact kf (fun ⟨u, hu, e1, e2⟩ => h_m (by obtain rfl : t = u := (nI_eq (by omega) (by omega)).mp e1; exact e2))
  · refine ev_astore_nN (ls' := [.ref 32, .int b, .null]) 5 dX11_lacksPlan_5 (Nat.le_of_ble_eq_true rfl) rfl ?_
    refine ev_aload_nN 6 dX11_lacksPlan_6 rfl ?_
    refine ev_ifnullN 7 21 dX11_lacksPlan_7 rfl ?_
    refine ev_iconst 21 dX11_lacksPlan_21 kI_0 ?_
    refine ev_ireturn 22 dX11_lacksPlan_22 rfl rfl ?_
    exact kf (fun ⟨t, ht, e1, _⟩ => hq (e1 ▸ ⟨nI_pos' (by omega), nI_le (a := t) (b := 3) (by omega) (by omega)⟩))

theorem c_X11_passBy {X : pmX} {d : Nat} {v : pmV} {P : Option Value → pmT → pmV → Prop} {LT : pmT} {e : pmV} {n tx z r N : Nat} {b : Int32} {pl o : Nat → Int32} (hC : Cpl n tx z LT e) (hr : r < tx) (hr1 : e.1 34 6 = nI r) (hX : pmRf v) (hF : dFr DcX e v) (hf : v.2.1 67 = e.2.1 67) (hN : N ≤ 60) (hb : PB e b pl o) (k : ∀ v', DX e n r (pR e n r pl o N).1 (pR e n r pl o N).2 v' → P none (pmT0 ++ LT) v') : EvP X (d + 13) MX11_passBy 0 [.ref 32, .int (nI N), .int b, pmJ] [] (pmT0 ++ LT) v P := by
  have hn8 := hC.2.1.1
  have ht6 := hC.2.2.2.2.2.1.2.1
  rcases hb with ⟨rfl, hpl, ho⟩ | ⟨rfl, hpl, ho⟩ | ⟨t, ht, rfl, hpl, ho⟩
  · refine ev_aload_n 0 dX11_passBy_0 rfl (by decide) ?_
    refine cv_11_182_11 (pc := 1) rfl dX11_passBy_1 kd_32 (Nat.le_of_ble_eq_true rfl) ?_
    refine c_X11_readyCourse hC hr hr1 hX hF hf (fun v1 s0 p0 h7 h8 hD => ?_)
    refine ev_aload_n 4 dX11_passBy_4 rfl (by decide) ?_
    refine ev_iload_n 5 dX11_passBy_5 rfl ?_
    refine cv_11_100_11 (pc := 6) rfl dX11_passBy_6 kd_32 (Nat.le_of_ble_eq_true rfl) ?_
    refine c_X11_sheetOf hD.1 (fun t ht hq => absurd hq (nN ht).1) (fun _ => ?_)
    refine ev_astore_nN (ls' := [.ref 32, .int (nI N), .int (-1), .null]) 9 dX11_passBy_9 (Nat.le_of_ble_eq_true rfl) rfl ?_
    refine ev_aload_nN 10 dX11_passBy_10 rfl ?_
    refine ev_ifnullN 11 22 dX11_passBy_11 rfl ?_
    refine ev_aload_n 22 dX11_passBy_22 rfl (by decide) ?_
    refine gf_11_47 (pc := 23) rfl dX11_passBy_23 kd_32 (rf_32_9 hD.1) ?_
    refine ev_iload_n 26 dX11_passBy_26 rfl ?_
    refine ev_iconst 27 dX11_passBy_27 kI_4 ?_
    refine ev_icT 28 35 dX11_passBy_28 rfl (by decide) ?_
    refine ev_iconst 35 dX11_passBy_35 kI_0 ?_
    refine pf_11_291 (pc := 36) rfl dX11_passBy_36 kd_51 (Or.inl rfl) ?_
    refine ev_abs (Q := DX e n r (dU s0 8 0 0) p0) (hD.u8_0 0) (fun v1 hD => ?_)
    refine ev_aload_n 39 dX11_passBy_39 rfl (by decide) ?_
    refine gf_11_47 (pc := 40) rfl dX11_passBy_40 kd_32 (rf_32_9 hD.1) ?_
    refine ev_iload_n 43 dX11_passBy_43 rfl ?_
    refine ev_ldc2 44 dX11_passBy_44 l2_11_185 ?_
    refine cv_11_187_1 (pc := 47) rfl dX11_passBy_47 kd_51 (Nat.le_of_ble_eq_true rfl) ?_
    have e7 : (dU s0 8 0 0) 7 = pl := by
      funext j; rw [dU_ne (by decide), h7, hpl]; rfl
    have e8 : (dU s0 8 0 0) 8 = o := by
      funext j
      by_cases q : j = 0
      · subst q; rw [dU_on, ho]; rfl
      · rw [dU_off (fun z => q z.2)]; rw [h8, ho]
    have hH : hOk2 (dU s0 8 0 0) := ⟨0, 0, by omega, by omega, by rw [e8, ho]; rfl, by rw [e8, ho]; rfl⟩
    refine c_X1_pass hN hC hr hD hH.ok (fun v3 hD => ?_)
    rw [full hC hN hH, pBeg_s e7 e8] at hD
    refine ev_return 50 dX11_passBy_50 rfl ?_
    exact k _ hD
  · refine ev_aload_n 0 dX11_passBy_0 rfl (by decide) ?_
    refine cv_11_182_11 (pc := 1) rfl dX11_passBy_1 kd_32 (Nat.le_of_ble_eq_true rfl) ?_
    refine c_X11_readyCourse hC hr hr1 hX hF hf (fun v1 s0 p0 h7 h8 hD => ?_)
    refine ev_aload_n 4 dX11_passBy_4 rfl (by decide) ?_
    refine ev_iload_n 5 dX11_passBy_5 rfl ?_
    refine cv_11_100_11 (pc := 6) rfl dX11_passBy_6 kd_32 (Nat.le_of_ble_eq_true rfl) ?_
    refine c_X11_sheetOf hD.1 (fun t ht hq => absurd hq (nN ht).2) (fun _ => ?_)
    refine ev_astore_nN (ls' := [.ref 32, .int (nI N), .int 4, .null]) 9 dX11_passBy_9 (Nat.le_of_ble_eq_true rfl) rfl ?_
    refine ev_aload_nN 10 dX11_passBy_10 rfl ?_
    refine ev_ifnullN 11 22 dX11_passBy_11 rfl ?_
    refine ev_aload_n 22 dX11_passBy_22 rfl (by decide) ?_
    refine gf_11_47 (pc := 23) rfl dX11_passBy_23 kd_32 (rf_32_9 hD.1) ?_
    refine ev_iload_n 26 dX11_passBy_26 rfl ?_
    refine ev_iconst 27 dX11_passBy_27 kI_4 ?_
    refine ev_icF 28 35 dX11_passBy_28 rfl (by decide) ?_
    refine ev_iconst 31 dX11_passBy_31 kI_1 ?_
    refine ev_goto 32 36 dX11_passBy_32 rfl ?_
    refine pf_11_291 (pc := 36) rfl dX11_passBy_36 kd_51 (Or.inr rfl) ?_
    refine ev_abs (Q := DX e n r (dU s0 8 0 1) p0) (hD.u8_0 1) (fun v1 hD => ?_)
    refine ev_aload_n 39 dX11_passBy_39 rfl (by decide) ?_
    refine gf_11_47 (pc := 40) rfl dX11_passBy_40 kd_32 (rf_32_9 hD.1) ?_
    refine ev_iload_n 43 dX11_passBy_43 rfl ?_
    refine ev_ldc2 44 dX11_passBy_44 l2_11_185 ?_
    refine cv_11_187_1 (pc := 47) rfl dX11_passBy_47 kd_51 (Nat.le_of_ble_eq_true rfl) ?_
    have e7 : (dU s0 8 0 1) 7 = pl := by
      funext j; rw [dU_ne (by decide), h7, hpl]; rfl
    have e8 : (dU s0 8 0 1) 8 = o := by
      funext j
      by_cases q : j = 0
      · subst q; rw [dU_on, ho]; rfl
      · rw [dU_off (fun z => q z.2)]; rw [h8, ho]; unfold oN oR; split <;> first | rfl | (rw [if_neg q])
    have hH : hOk2 (dU s0 8 0 1) := ⟨0, 0, by omega, by omega, by rw [e8, ho]; rfl, by rw [e8, ho]; rfl⟩
    refine c_X1_pass hN hC hr hD hH.ok (fun v3 hD => ?_)
    rw [full hC hN hH, pBeg_s e7 e8] at hD
    refine ev_return 50 dX11_passBy_50 rfl ?_
    exact k _ hD
  · refine ev_aload_n 0 dX11_passBy_0 rfl (by decide) ?_
    refine cv_11_182_11 (pc := 1) rfl dX11_passBy_1 kd_32 (Nat.le_of_ble_eq_true rfl) ?_
    refine c_X11_readyCourse hC hr hr1 hX hF hf (fun v1 s0 p0 h7 h8 hD => ?_)
    refine ev_aload_n 4 dX11_passBy_4 rfl (by decide) ?_
    refine ev_iload_n 5 dX11_passBy_5 rfl ?_
    refine cv_11_100_11 (pc := 6) rfl dX11_passBy_6 kd_32 (Nat.le_of_ble_eq_true rfl) ?_
    refine c_X11_sheetOf hD.1 (fun u hu hq => ?_) (fun hq => absurd ⟨nI_pos' (by omega), nI_le (a := t) (b := 3) (by omega) (by omega)⟩ hq)
    obtain rfl : t = u := (nI_eq (by omega) (by omega)).mp hq
    refine ev_astore_n (ls' := [.ref 32, .int (nI N), .int (nI t), .ref (92 + 2 * t)]) 9 dX11_passBy_9 (Nat.le_of_ble_eq_true rfl) (by omega) rfl ?_
    refine ev_aload_n 10 dX11_passBy_10 rfl (by omega) ?_
    refine ev_ifnull 11 dX11_passBy_11 (by omega) ?_
    refine ev_aload_n 14 dX11_passBy_14 rfl (by decide) ?_
    refine gf_11_47 (pc := 15) rfl dX11_passBy_15 kd_32 (rf_32_9 hD.1) ?_
    refine ev_aload_n 18 dX11_passBy_18 rfl (by omega) ?_
    refine cv_11_220_1 (pc := 19) rfl dX11_passBy_19 kd_51 (Nat.le_of_ble_eq_true rfl) ?_
    refine c_X1_tellPlan hC ht hD (fun v2 hD => ?_)
    refine ev_aload_n 22 dX11_passBy_22 rfl (by decide) ?_
    refine gf_11_47 (pc := 23) rfl dX11_passBy_23 kd_32 (rf_32_9 hD.1) ?_
    refine ev_iload_n 26 dX11_passBy_26 rfl ?_
    refine ev_iconst 27 dX11_passBy_27 kI_4 ?_
    refine ev_ic_neN (a := t) (b := 4) 28 35 dX11_passBy_28 rfl (by omega) (by omega) (fun c_28 => ?_) (fun c_28 => by omega)
    refine ev_iconst 35 dX11_passBy_35 kI_0 ?_
    refine pf_11_291 (pc := 36) rfl dX11_passBy_36 kd_51 (Or.inl rfl) ?_
    refine ev_abs (Q := DX e n r (dU (tP e t s0 60) 8 0 0) p0) (hD.u8_0 0) (fun v1 hD => ?_)
    refine ev_aload_n 39 dX11_passBy_39 rfl (by decide) ?_
    refine gf_11_47 (pc := 40) rfl dX11_passBy_40 kd_32 (rf_32_9 hD.1) ?_
    refine ev_iload_n 43 dX11_passBy_43 rfl ?_
    refine ev_ldc2 44 dX11_passBy_44 l2_11_185 ?_
    refine cv_11_187_1 (pc := 47) rfl dX11_passBy_47 kd_51 (Nat.le_of_ble_eq_true rfl) ?_
    have e7 : (dU (tP e t s0 60) 8 0 0) 7 = pl := by
      funext j; rw [dU_ne (by decide), hpl]; show (if j < 60 then pT e t j else s0 7 j) = _; rw [h7]; rfl
    have e8 : (dU (tP e t s0 60) 8 0 0) 8 = o := by
      funext j
      by_cases q : j = 0
      · subst q; rw [dU_on, ho]; rfl
      · rw [dU_off (fun z => q z.2)]; show s0 8 j = _; rw [h8, ho]
    have hH : hOk2 (dU (tP e t s0 60) 8 0 0) := ⟨0, 0, by omega, by omega, by rw [e8, ho]; rfl, by rw [e8, ho]; rfl⟩
    refine c_X1_pass hN hC hr hD hH.ok (fun v3 hD => ?_)
    rw [full hC hN hH, pBeg_s e7 e8] at hD
    refine ev_return 50 dX11_passBy_50 rfl ?_
    exact k _ hD
theorem PB.tb {e : pmV} {n tx z : Nat} {LT : pmT} {g : Nat → Int32} {b : Int32} {pl o : Nat → Int32} (hC : Cpl n tx z LT e) (h : PB e b pl o) : mTB e g b pl (o 0) := by
  rcases h with ⟨rfl, rfl, rfl⟩ | ⟨rfl, rfl, rfl⟩ | ⟨t, ht, rfl, rfl, rfl⟩
  · exact Or.inr (Or.inr (Or.inl ⟨rfl, rfl, fun _ _ => rfl⟩))
  · exact Or.inl ⟨rfl, rfl⟩
  · refine Or.inr (Or.inr (Or.inr ⟨t, ht, rfl, rfl, fun m hm => ?_⟩))
    obtain ⟨_, ⟨q, _, h1, h2⟩, h3⟩ := hC.2.2.2.2.2.2.2.1 t ht
    unfold plS pT
    rw [if_pos hm, h1, h2, h3 m hm]
theorem PB.o {e : pmV} {b : Int32} {pl o : Nat → Int32} (h : PB e b pl o) : o 1 = -1 ∧ o 2 = 0 ∧ o 3 = 0 := by
  rcases h with ⟨_, _, rfl⟩ | ⟨_, _, rfl⟩ | ⟨_, _, _, _, rfl⟩ <;> exact ⟨rfl, rfl, rfl⟩
theorem gfix {e v : pmV} {n tx z r : Nat} {LT : pmT} {s : dT} {p : Int64} (hC : Cpl n tx z LT e) (hD : DX e n r s p v) : v.1 100 34 = -1 ∧ v.1 100 35 = -1 := ⟨(hD.c (by unfold DcX; omega)).trans hC.2.2.2.2.2.2.2.2.1, (hD.c (by unfold DcX; omega)).trans hC.2.2.2.2.2.2.2.2.2⟩
/-- the reference's day behind the class's -/
theorem ref_go {X : pmX} {d : Nat} {v : pmV} {P : Option Value → pmT → pmV → Prop} {LT : pmT} {e : pmV} {n tx z r N : Nat} {s : dT} {p : Int64} {b : Int32} {pl o : Nat → Int32} (hN : 1 ≤ N ∧ N ≤ 60) (hC : Cpl n tx z LT e) (hr : r < tx) (hr2 : e.1 100 11 = nI r) (hD : DX e n r s p v) (hb : PB e b pl o) (k : ∀ v' g, DM e n g (pR e n r pl o N).1 (pR e n r pl o N).2 v' → g 0 = -1 → g 1 = -1 → P none (pmT0 ++ LT) v') : EvP X (d + 6) MX12_go 0 [.ref 100, .int (nI N), .int b, pmJ] [] (pmT0 ++ LT) v P := by
  have hg := gfix hC hD
  have hM := DM.any n hD.1 hD.fd.wd
  refine c_X12_go (sG := sGf pl o) hN hC hr hr2 hM (hb.tb hC) ?_ (Or.inl ⟨hg.2, hb.o.2.1, hb.o.2.2⟩) (fun v' h => k v' _ h hg.1 hg.2)
  exact hb.o.1.trans hg.1.symm
theorem DM.fin {e v : pmV} {n tx z : Nat} {LT : pmT} {g : Nat → Int32} {s : dT} {p : Int64} (hD : DM e n g s p v) (hC : Cpl n tx z LT e) (g0 : g 0 = -1) (g1 : g 1 = -1) : Cpl n tx z LT v := hC.fd hD.fd ⟨hD.g0.trans g0, hD.g1.trans g1⟩
theorem PB_of {e : pmV} {b : Int32} (h : -1 ≤ b ∧ b ≤ 4) : ∃ pl o, PB e b pl o := by_PB e h
theorem c_X12_isDay {X : pmX} {d : Nat} {v : pmV} {P : Option Value → pmT → pmV → Prop} {LT : pmT} {a b : Int32} (kt : ((1 : Int32) ≤ a ∧ a ≤ 60) ∧ (-1 ≤ b ∧ b ≤ 4) → P (some (.int 1)) (pmT0 ++ LT) v) (kf : ¬ (((1 : Int32) ≤ a ∧ a ≤ 60) ∧ (-1 ≤ b ∧ b ≤ 4)) → P (some (.int 0)) (pmT0 ++ LT) v) : EvP X (d + 1) MX12_isDay 0 [.ref 100, .int a, .int b] [] (pmT0 ++ LT) v P := by
  refine ev_aload_n 0 dX12_isDay_0 rfl (by decide) ?_
  refine ev_iload_n 1 dX12_isDay_1 rfl ?_
  refine ev_iconst 2 dX12_isDay_2 kI_1 ?_
  refine ev_bipush 3 dX12_isDay_3 kB_60 ?_
  refine cv_12_7_12 (pc := 5) rfl dX12_isDay_5 kd_100 (Nat.le_of_ble_eq_true rfl) ?_
  refine c_X12_in (fun h_5 => ?_) (fun h_5 => ?_)
  · refine ev_ifF 8 25 dX12_isDay_8 rfl (by decide) ?_
    refine ev_aload_n 11 dX12_isDay_11 rfl (by decide) ?_
    refine ev_iload_n 12 dX12_isDay_12 rfl ?_
    refine ev_iconst 13 dX12_isDay_13 kI_m1 ?_
    refine ev_iconst 14 dX12_isDay_14 kI_4 ?_
    refine cv_12_7_12 (pc := 15) rfl dX12_isDay_15 kd_100 (Nat.le_of_ble_eq_true rfl) ?_
    refine c_X12_in (fun h_15 => ?_) (fun h_15 => ?_)
    · refine ev_ifF 18 25 dX12_isDay_18 rfl (by decide) ?_
      refine ev_iconst 21 dX12_isDay_21 kI_1 ?_
      refine ev_goto 22 26 dX12_isDay_22 rfl ?_
      refine ev_ireturn 26 dX12_isDay_26 rfl rfl ?_
      exact kt ⟨h_5, h_15⟩
    · refine ev_ifT 18 25 dX12_isDay_18 rfl (by decide) ?_
      refine ev_iconst 25 dX12_isDay_25 kI_0 ?_
      refine ev_ireturn 26 dX12_isDay_26 rfl rfl ?_
      exact kf (fun q => h_15 q.2)
  · refine ev_ifT 8 25 dX12_isDay_8 rfl (by decide) ?_
    refine ev_iconst 25 dX12_isDay_25 kI_0 ?_
    refine ev_ireturn 26 dX12_isDay_26 rfl rfl ?_
    exact kf (fun q => h_5 q.1)

theorem c_X12_lacks {X : pmX} {d : Nat} {v : pmV} {P : Option Value → pmT → pmV → Prop} {LT : pmT} {b : Int32} (hX : pmRf v) (hSh : cShe v) (kt : Lk v b → P (some (.int 1)) (pmT0 ++ LT) v) (kf : ¬ Lk v b → P (some (.int 0)) (pmT0 ++ LT) v) : EvP X (d + 1) MX12_lacks 0 [.ref 100, .int b] [] (pmT0 ++ LT) v P := by
  refine ev_aload_n 0 dX12_lacks_0 rfl (by decide) ?_
  refine ev_iload_n 1 dX12_lacks_1 rfl ?_
  refine ev_iconst 2 dX12_lacks_2 kI_0 ?_
  refine ev_iconst 3 dX12_lacks_3 kI_3 ?_
  refine cv_12_7_12 (pc := 4) rfl dX12_lacks_4 kd_100 (Nat.le_of_ble_eq_true rfl) ?_
  refine c_X12_in (fun h_4 => ?_) (fun h_4 => ?_)
  · obtain ⟨t, rfl, _, ht⟩ := nI_rng (a := 0) (b := 3) (by omega) (by omega) h_4
    have hs := (hSh t (by omega)).1
    refine ev_ifF 7 23 dX12_lacks_7 rfl (by decide) ?_
    refine ev_aload_n 10 dX12_lacks_10 rfl (by decide) ?_
    refine gf_12_41 (pc := 11) rfl dX12_lacks_11 kd_100 (rf_100_49 hX) ?_
    refine ev_iload_n 14 dX12_lacks_14 rfl ?_
    refine ev_ialdJ (x := v.1 120 t) (j := t) 15 dX12_lacks_15 (Nat.le_of_ble_eq_true rfl) ty_120 (pm_inI (by omega) (by omega)) (nI_clamp (by omega)) rfl ?_
    refine ev_if_ge 16 23 dX12_lacks_16 rfl (fun c_16 => ?_) (fun c_16 => ?_)
    · refine ev_iconst 23 dX12_lacks_23 kI_0 ?_
      refine ev_ireturn 24 dX12_lacks_24 rfl rfl ?_
      exact kf (fun ⟨u, hu, e1, e2⟩ => by obtain rfl : t = u := (nI_eq (by omega) (by omega)).mp e1; rw [← hs.1] at e2; grind)
    · refine ev_iconst 19 dX12_lacks_19 kI_1 ?_
      refine ev_goto 20 24 dX12_lacks_20 rfl ?_
      refine ev_ireturn 24 dX12_lacks_24 rfl rfl ?_
      exact kt ⟨t, by omega, rfl, by rw [← hs.1]; have := hs.2.1; rw [← hs.1] at this; grind⟩
  · refine ev_ifT 7 23 dX12_lacks_7 rfl (by decide) ?_
    refine ev_iconst 23 dX12_lacks_23 kI_0 ?_
    refine ev_ireturn 24 dX12_lacks_24 rfl rfl ?_
    exact kf (fun ⟨t, ht, e1, _⟩ => h_4 (e1 ▸ ⟨nI_pos' (by omega), nI_le (a := t) (b := 3) (by omega) (by omega)⟩))

