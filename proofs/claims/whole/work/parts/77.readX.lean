/-! TEXTS: the class's reading behind its tokens -/
def rC (t a j : Nat) : Prop := gC t a j ∨ a = 70 + 4 * t
/-- so many parts stand -/
def RPs (e : pmV) (t k : Nat) (cs : List Int32) (es : List Nat) (v : pmV) : Prop := Of (rC t) e v ∧ v.1 41 5 = nI k ∧ v.1 41 7 = nI cs.length ∧ (∀ i, i < cs.length → v.1 (69 + 4 * t) i = cs.getD i 0) ∧ ∀ p, p < es.length → v.1 (70 + 4 * t) p = nI (es.getD p 0)
theorem RPs.gs {e v : pmV} {t k : Nat} {cs : List Int32} {es : List Nat} (h : RPs e t k cs es v) : GS v t k cs v := ⟨Of.nil, h.2.1, h.2.2.1, h.2.2.2.1⟩
theorem RE.rp {T : pmT} {tok val : Nat → Int32} {N t k : Nat} {e v : pmV} {cs : List Int32} {es : List Nat} (hE : RE T tok val N t e) (h : RPs e t k cs es v) : RE T tok val N t v := by
  obtain ⟨a1, a2, a3, a4, a5, a6, a7, a8⟩ := hE
  exact ⟨a1, a2.ag (congrArg Prod.snd h.1.1), (congrFun (congrFun (congrArg Prod.snd h.1.1) 41) 6).trans a3, a4, a5, a6, fun j hj => (h.1.off (by unfold rC gC; omega)).trans (a7 j hj), fun j hj ht => (h.1.off (by unfold rC gC; omega)).trans (a8 j hj ht)⟩
theorem RPs.no {e v w : pmV} {t k k' : Nat} {cs cs' : List Int32} {es : List Nat} (h : RPs e t k cs es v) (hG : GS v t k' cs' w) : RPs e t k' cs' es w := ⟨h.1.tr (hG.1.wd fun _ _ q => Or.inl q), hG.2.1, hG.2.2.1, hG.2.2.2, fun p hp => (hG.1.off (by unfold gC; omega)).trans (h.2.2.2.2 p hp)⟩
theorem RPs.ok {e v w : pmV} {t k k' p : Nat} {cs cs' : List Int32} {es : List Nat} (h : RPs e t k cs es v) (hG : GS v t k' cs' w) (hp : es.length = p) : RPs e t k' cs' (es ++ [cs'.length]) (uI w (70 + 4 * t) p (nI cs'.length)) := by
  have hn := h.no hG
  refine ⟨hn.1.i (Or.inr rfl), (uI_off (by omega)).trans hn.2.1, (uI_off (by omega)).trans hn.2.2.1, fun i hi => (uI_off (by omega)).trans (hn.2.2.2.1 i hi), fun q hq => ?_⟩
  rw [List.length_append, List.length_singleton] at hq
  by_cases c : q = p
  · subst c; rw [uI_on, ← hp]; simp
  · rw [uI_off (by omega), hn.2.2.2.2 q (by omega)]
    simp only [List.getD_eq_getElem?_getD]
    rw [List.getElem?_append_left (by omega)]
/-- what the reading comes to: good or not, the token where it ends, the codes, where the parts end -/
def gRd (tok val : Nat → Int32) (F : Nat) (b : Bool) (k : Nat) (cs : List Int32) (es : List Nat) : Prop := ∃ r0, gPart tok val F 0 0 [] = some r0 ∧ ((r0.1 = false ∧ b = false ∧ k = r0.2.1) ∨ r0.1 = true ∧ ∃ r1, gPart tok val F 1 r0.2.1 r0.2.2 = some r1 ∧ ((r1.1 = false ∧ b = false ∧ k = r1.2.1) ∨ r1.1 = true ∧ ∃ r2, gPart tok val F 2 r1.2.1 r1.2.2 = some r2 ∧ ((r2.1 = false ∧ b = false ∧ k = r2.2.1) ∨ r2.1 = true ∧ k = r2.2.1 ∧ ((tok k ≠ 0 ∧ b = false) ∨ (tok k = 0 ∧ b = true ∧ cs = r2.2.2 ∧ es = [r0.2.2.length, r1.2.2.length, r2.2.2.length])))))
theorem c_X4_read19 {X : pmX} {d : Nat} {v e : pmV} {P : Option Value → pmT → pmV → Prop} {T : pmT} {tok val : Nat → Int32} {pl : Nat → Nat} {N t F : Nat} (hE : RE T tok val N t e) (hpl : ∀ j, j ≤ N → e.1 44 j = nI (pl j)) (hF : 20 * N + 8 ≤ F) (hR : RPs e t 0 [] [] v) (kF : ∀ k v', k ≤ N → (∀ cs es, gRd tok val F false k cs es) → Of (rC t) e v' → P (some (.int (nI (pl k)))) T v') (kT : ∀ k cs es v', k ≤ N → gRd tok val F true k cs es → RPs e t k cs es v' → P (some (.int (-1))) T v') : EvP X (d + 53) MX4_read 19 [.ref 41, .ref (68 + 4 * t), pmJ] [] T v P := by
  have h5 := hE.2.2.2.2.1
  have h4 := hE.2.2.2.1
  have hN := hE.2.2.2.2.2.1
  obtain ⟨r0, h0⟩ := gPart_ok (val := val) (p := 0) (k := 0) (cs := []) hN (by decide) (Nat.zero_le _) hF
  obtain ⟨a1, a2, a3, _⟩ := gPart_nx hN (by decide) h0 (Nat.zero_le _) (Nat.le_refl _)
  cases g0 : r0.1 with
  | false =>
    refine ev_aload_n 19 dX4_read_19 rfl (by decide) ?_
    refine ev_iconst 20 dX4_read_20 kI_0 ?_
    refine cv_4_58_4 (pc := 21) rfl dX4_read_21 (kT_41 hE.1) (Nat.le_of_ble_eq_true rfl) ?_
    refine c_X4_readPart (F := F) (p := 0) (hE.rp hR) hR.gs (by omega) (by decide) (by first | exact Nat.zero_le _ | omega) h0 (fun _ v1 hG => ?_) (fun a => absurd (g0.symm.trans a) (by decide))
    replace hR := hR.no hG
    refine ev_ifT 24 54 dX4_read_24 rfl (by decide) ?_
    refine ev_iconst 54 dX4_read_54 kI_0 ?_
    refine ev_istore_n (ls' := [.ref 41, .ref (68 + 4 * t), .int 0]) 55 dX4_read_55 (Nat.le_of_ble_eq_true rfl) rfl ?_
    refine ev_iload_n 56 dX4_read_56 rfl ?_
    refine ev_ifT 57 64 dX4_read_57 rfl (by decide) ?_
    refine ev_aload_n 64 dX4_read_64 rfl (by decide) ?_
    refine gf_4_18 (pc := 65) rfl dX4_read_65 (kT_41 hE.1) (rX_41_3 (hE.rp hR).2.1) ?_
    refine ev_aload_n 68 dX4_read_68 rfl (by decide) ?_
    refine gf_4_55 (x := nI r0.2.1) (pc := 69) rfl dX4_read_69 (kT_41 hE.1) hR.2.1 ?_
    refine ev_ialdJ (x := nI (pl r0.2.1)) (j := r0.2.1) 72 dX4_read_72 (Nat.le_of_ble_eq_true rfl) (tT_44 hE.1) (pm_inI (by omega) (by omega)) (nI_clamp (by omega)) ((hR.1.off (by unfold rC gC; omega)).trans (hpl _ (by omega))) ?_
    refine ev_ireturn 73 dX4_read_73 rfl rfl ?_
    exact kF _ _ (by omega) (fun cs es => ⟨r0, h0, Or.inl ⟨g0, rfl, rfl⟩⟩) hR.1
  | true =>
    obtain ⟨r1, h1⟩ := gPart_ok (val := val) (p := 1) (k := r0.2.1) (cs := r0.2.2) hN (by decide) a2 hF
    obtain ⟨b1, b2, b3, _⟩ := gPart_nx hN (by decide) h1 a2 a3
    cases g1 : r1.1 with
    | false =>
      refine ev_aload_n 19 dX4_read_19 rfl (by decide) ?_
      refine ev_iconst 20 dX4_read_20 kI_0 ?_
      refine cv_4_58_4 (pc := 21) rfl dX4_read_21 (kT_41 hE.1) (Nat.le_of_ble_eq_true rfl) ?_
      refine c_X4_readPart (F := F) (p := 0) (hE.rp hR) hR.gs (by omega) (by decide) (by first | exact Nat.zero_le _ | omega) h0 (fun a => absurd (g0.symm.trans a) (by decide)) (fun _ v1 hG => ?_)
      refine ev_abs (Q := RPs e t r0.2.1 r0.2.2 ([] ++ [r0.2.2.length])) (hR.ok hG rfl) (fun v2 hR => ?_)
      refine ev_ifF 24 54 dX4_read_24 rfl (by decide) ?_
      refine ev_aload_n 27 dX4_read_27 rfl (by decide) ?_
      refine ev_iconst 28 dX4_read_28 kI_1 ?_
      refine cv_4_58_4 (pc := 29) rfl dX4_read_29 (kT_41 hE.1) (Nat.le_of_ble_eq_true rfl) ?_
      refine c_X4_readPart (F := F) (p := 1) (hE.rp hR) hR.gs (by omega) (by decide) (by first | exact Nat.zero_le _ | omega) h1 (fun _ v3 hG => ?_) (fun a => absurd (g1.symm.trans a) (by decide))
      replace hR := hR.no hG
      refine ev_ifT 32 54 dX4_read_32 rfl (by decide) ?_
      refine ev_iconst 54 dX4_read_54 kI_0 ?_
      refine ev_istore_n (ls' := [.ref 41, .ref (68 + 4 * t), .int 0]) 55 dX4_read_55 (Nat.le_of_ble_eq_true rfl) rfl ?_
      refine ev_iload_n 56 dX4_read_56 rfl ?_
      refine ev_ifT 57 64 dX4_read_57 rfl (by decide) ?_
      refine ev_aload_n 64 dX4_read_64 rfl (by decide) ?_
      refine gf_4_18 (pc := 65) rfl dX4_read_65 (kT_41 hE.1) (rX_41_3 (hE.rp hR).2.1) ?_
      refine ev_aload_n 68 dX4_read_68 rfl (by decide) ?_
      refine gf_4_55 (x := nI r1.2.1) (pc := 69) rfl dX4_read_69 (kT_41 hE.1) hR.2.1 ?_
      refine ev_ialdJ (x := nI (pl r1.2.1)) (j := r1.2.1) 72 dX4_read_72 (Nat.le_of_ble_eq_true rfl) (tT_44 hE.1) (pm_inI (by omega) (by omega)) (nI_clamp (by omega)) ((hR.1.off (by unfold rC gC; omega)).trans (hpl _ (by omega))) ?_
      refine ev_ireturn 73 dX4_read_73 rfl rfl ?_
      exact kF _ _ (by omega) (fun cs es => ⟨r0, h0, Or.inr ⟨g0, r1, h1, Or.inl ⟨g1, rfl, rfl⟩⟩⟩) hR.1
    | true =>
      obtain ⟨r2, h2⟩ := gPart_ok (val := val) (p := 2) (k := r1.2.1) (cs := r1.2.2) hN (by decide) b2 hF
      obtain ⟨c1, c2, c3, _⟩ := gPart_nx hN (by decide) h2 b2 b3
      cases g2 : r2.1 with
      | false =>
        refine ev_aload_n 19 dX4_read_19 rfl (by decide) ?_
        refine ev_iconst 20 dX4_read_20 kI_0 ?_
        refine cv_4_58_4 (pc := 21) rfl dX4_read_21 (kT_41 hE.1) (Nat.le_of_ble_eq_true rfl) ?_
        refine c_X4_readPart (F := F) (p := 0) (hE.rp hR) hR.gs (by omega) (by decide) (by first | exact Nat.zero_le _ | omega) h0 (fun a => absurd (g0.symm.trans a) (by decide)) (fun _ v1 hG => ?_)
        refine ev_abs (Q := RPs e t r0.2.1 r0.2.2 ([] ++ [r0.2.2.length])) (hR.ok hG rfl) (fun v2 hR => ?_)
        refine ev_ifF 24 54 dX4_read_24 rfl (by decide) ?_
        refine ev_aload_n 27 dX4_read_27 rfl (by decide) ?_
        refine ev_iconst 28 dX4_read_28 kI_1 ?_
        refine cv_4_58_4 (pc := 29) rfl dX4_read_29 (kT_41 hE.1) (Nat.le_of_ble_eq_true rfl) ?_
        refine c_X4_readPart (F := F) (p := 1) (hE.rp hR) hR.gs (by omega) (by decide) (by first | exact Nat.zero_le _ | omega) h1 (fun a => absurd (g1.symm.trans a) (by decide)) (fun _ v3 hG => ?_)
        refine ev_abs (Q := RPs e t r1.2.1 r1.2.2 (([] ++ [r0.2.2.length]) ++ [r1.2.2.length])) (hR.ok hG rfl) (fun v4 hR => ?_)
        refine ev_ifF 32 54 dX4_read_32 rfl (by decide) ?_
        refine ev_aload_n 35 dX4_read_35 rfl (by decide) ?_
        refine ev_iconst 36 dX4_read_36 kI_2 ?_
        refine cv_4_58_4 (pc := 37) rfl dX4_read_37 (kT_41 hE.1) (Nat.le_of_ble_eq_true rfl) ?_
        refine c_X4_readPart (F := F) (p := 2) (hE.rp hR) hR.gs (by omega) (by decide) (by first | exact Nat.zero_le _ | omega) h2 (fun _ v5 hG => ?_) (fun a => absurd (g2.symm.trans a) (by decide))
        replace hR := hR.no hG
        refine ev_ifT 40 54 dX4_read_40 rfl (by decide) ?_
        refine ev_iconst 54 dX4_read_54 kI_0 ?_
        refine ev_istore_n (ls' := [.ref 41, .ref (68 + 4 * t), .int 0]) 55 dX4_read_55 (Nat.le_of_ble_eq_true rfl) rfl ?_
        refine ev_iload_n 56 dX4_read_56 rfl ?_
        refine ev_ifT 57 64 dX4_read_57 rfl (by decide) ?_
        refine ev_aload_n 64 dX4_read_64 rfl (by decide) ?_
        refine gf_4_18 (pc := 65) rfl dX4_read_65 (kT_41 hE.1) (rX_41_3 (hE.rp hR).2.1) ?_
        refine ev_aload_n 68 dX4_read_68 rfl (by decide) ?_
        refine gf_4_55 (x := nI r2.2.1) (pc := 69) rfl dX4_read_69 (kT_41 hE.1) hR.2.1 ?_
        refine ev_ialdJ (x := nI (pl r2.2.1)) (j := r2.2.1) 72 dX4_read_72 (Nat.le_of_ble_eq_true rfl) (tT_44 hE.1) (pm_inI (by omega) (by omega)) (nI_clamp (by omega)) ((hR.1.off (by unfold rC gC; omega)).trans (hpl _ (by omega))) ?_
        refine ev_ireturn 73 dX4_read_73 rfl rfl ?_
        exact kF _ _ (by omega) (fun cs es => ⟨r0, h0, Or.inr ⟨g0, r1, h1, Or.inr ⟨g1, r2, h2, Or.inl ⟨g2, rfl, rfl⟩⟩⟩⟩) hR.1
      | true =>
        by_cases h9 : tok r2.2.1 = 0
        · refine ev_aload_n 19 dX4_read_19 rfl (by decide) ?_
          refine ev_iconst 20 dX4_read_20 kI_0 ?_
          refine cv_4_58_4 (pc := 21) rfl dX4_read_21 (kT_41 hE.1) (Nat.le_of_ble_eq_true rfl) ?_
          refine c_X4_readPart (F := F) (p := 0) (hE.rp hR) hR.gs (by omega) (by decide) (by first | exact Nat.zero_le _ | omega) h0 (fun a => absurd (g0.symm.trans a) (by decide)) (fun _ v1 hG => ?_)
          refine ev_abs (Q := RPs e t r0.2.1 r0.2.2 ([] ++ [r0.2.2.length])) (hR.ok hG rfl) (fun v2 hR => ?_)
          refine ev_ifF 24 54 dX4_read_24 rfl (by decide) ?_
          refine ev_aload_n 27 dX4_read_27 rfl (by decide) ?_
          refine ev_iconst 28 dX4_read_28 kI_1 ?_
          refine cv_4_58_4 (pc := 29) rfl dX4_read_29 (kT_41 hE.1) (Nat.le_of_ble_eq_true rfl) ?_
          refine c_X4_readPart (F := F) (p := 1) (hE.rp hR) hR.gs (by omega) (by decide) (by first | exact Nat.zero_le _ | omega) h1 (fun a => absurd (g1.symm.trans a) (by decide)) (fun _ v3 hG => ?_)
          refine ev_abs (Q := RPs e t r1.2.1 r1.2.2 (([] ++ [r0.2.2.length]) ++ [r1.2.2.length])) (hR.ok hG rfl) (fun v4 hR => ?_)
          refine ev_ifF 32 54 dX4_read_32 rfl (by decide) ?_
          refine ev_aload_n 35 dX4_read_35 rfl (by decide) ?_
          refine ev_iconst 36 dX4_read_36 kI_2 ?_
          refine cv_4_58_4 (pc := 37) rfl dX4_read_37 (kT_41 hE.1) (Nat.le_of_ble_eq_true rfl) ?_
          refine c_X4_readPart (F := F) (p := 2) (hE.rp hR) hR.gs (by omega) (by decide) (by first | exact Nat.zero_le _ | omega) h2 (fun a => absurd (g2.symm.trans a) (by decide)) (fun _ v5 hG => ?_)
          refine ev_abs (Q := RPs e t r2.2.1 r2.2.2 ((([] ++ [r0.2.2.length]) ++ [r1.2.2.length]) ++ [r2.2.2.length])) (hR.ok hG rfl) (fun v6 hR => ?_)
          refine ev_ifF 40 54 dX4_read_40 rfl (by decide) ?_
          refine ev_aload_n 43 dX4_read_43 rfl (by decide) ?_
          refine cv_4_62_4 (pc := 44) rfl dX4_read_44 (kT_41 hE.1) (Nat.le_of_ble_eq_true rfl) ?_
          refine c_X4_token (hE.rp hR) hR.gs (by omega) ?_
          refine ev_cst (y := 0) h9 ?_
          refine ev_ifF 47 54 dX4_read_47 rfl (by decide) ?_
          refine ev_iconst 50 dX4_read_50 kI_1 ?_
          refine ev_goto 51 55 dX4_read_51 rfl ?_
          refine ev_istore_n (ls' := [.ref 41, .ref (68 + 4 * t), .int 1]) 55 dX4_read_55 (Nat.le_of_ble_eq_true rfl) rfl ?_
          refine ev_iload_n 56 dX4_read_56 rfl ?_
          refine ev_ifF 57 64 dX4_read_57 rfl (by decide) ?_
          refine ev_iconst 60 dX4_read_60 kI_m1 ?_
          refine ev_goto 61 73 dX4_read_61 rfl ?_
          refine ev_ireturn 73 dX4_read_73 rfl rfl ?_
          exact kT _ _ _ _ (by omega) ⟨r0, h0, Or.inr ⟨g0, r1, h1, Or.inr ⟨g1, r2, h2, Or.inr ⟨g2, rfl, Or.inr ⟨h9, rfl, rfl, rfl⟩⟩⟩⟩⟩ hR
        · refine ev_aload_n 19 dX4_read_19 rfl (by decide) ?_
          refine ev_iconst 20 dX4_read_20 kI_0 ?_
          refine cv_4_58_4 (pc := 21) rfl dX4_read_21 (kT_41 hE.1) (Nat.le_of_ble_eq_true rfl) ?_
          refine c_X4_readPart (F := F) (p := 0) (hE.rp hR) hR.gs (by omega) (by decide) (by first | exact Nat.zero_le _ | omega) h0 (fun a => absurd (g0.symm.trans a) (by decide)) (fun _ v1 hG => ?_)
          refine ev_abs (Q := RPs e t r0.2.1 r0.2.2 ([] ++ [r0.2.2.length])) (hR.ok hG rfl) (fun v2 hR => ?_)
          refine ev_ifF 24 54 dX4_read_24 rfl (by decide) ?_
          refine ev_aload_n 27 dX4_read_27 rfl (by decide) ?_
          refine ev_iconst 28 dX4_read_28 kI_1 ?_
          refine cv_4_58_4 (pc := 29) rfl dX4_read_29 (kT_41 hE.1) (Nat.le_of_ble_eq_true rfl) ?_
          refine c_X4_readPart (F := F) (p := 1) (hE.rp hR) hR.gs (by omega) (by decide) (by first | exact Nat.zero_le _ | omega) h1 (fun a => absurd (g1.symm.trans a) (by decide)) (fun _ v3 hG => ?_)
          refine ev_abs (Q := RPs e t r1.2.1 r1.2.2 (([] ++ [r0.2.2.length]) ++ [r1.2.2.length])) (hR.ok hG rfl) (fun v4 hR => ?_)
          refine ev_ifF 32 54 dX4_read_32 rfl (by decide) ?_
          refine ev_aload_n 35 dX4_read_35 rfl (by decide) ?_
          refine ev_iconst 36 dX4_read_36 kI_2 ?_
          refine cv_4_58_4 (pc := 37) rfl dX4_read_37 (kT_41 hE.1) (Nat.le_of_ble_eq_true rfl) ?_
          refine c_X4_readPart (F := F) (p := 2) (hE.rp hR) hR.gs (by omega) (by decide) (by first | exact Nat.zero_le _ | omega) h2 (fun a => absurd (g2.symm.trans a) (by decide)) (fun _ v5 hG => ?_)
          refine ev_abs (Q := RPs e t r2.2.1 r2.2.2 ((([] ++ [r0.2.2.length]) ++ [r1.2.2.length]) ++ [r2.2.2.length])) (hR.ok hG rfl) (fun v6 hR => ?_)
          refine ev_ifF 40 54 dX4_read_40 rfl (by decide) ?_
          refine ev_aload_n 43 dX4_read_43 rfl (by decide) ?_
          refine cv_4_62_4 (pc := 44) rfl dX4_read_44 (kT_41 hE.1) (Nat.le_of_ble_eq_true rfl) ?_
          refine c_X4_token (hE.rp hR) hR.gs (by omega) ?_
          refine ev_if_ne 47 54 dX4_read_47 rfl (fun c_47 => ?_) (fun c_47 => absurd (show tok r2.2.1 = 0 by simpa using c_47) h9)
          refine ev_iconst 54 dX4_read_54 kI_0 ?_
          refine ev_istore_n (ls' := [.ref 41, .ref (68 + 4 * t), .int 0]) 55 dX4_read_55 (Nat.le_of_ble_eq_true rfl) rfl ?_
          refine ev_iload_n 56 dX4_read_56 rfl ?_
          refine ev_ifT 57 64 dX4_read_57 rfl (by decide) ?_
          refine ev_aload_n 64 dX4_read_64 rfl (by decide) ?_
          refine gf_4_18 (pc := 65) rfl dX4_read_65 (kT_41 hE.1) (rX_41_3 (hE.rp hR).2.1) ?_
          refine ev_aload_n 68 dX4_read_68 rfl (by decide) ?_
          refine gf_4_55 (x := nI r2.2.1) (pc := 69) rfl dX4_read_69 (kT_41 hE.1) hR.2.1 ?_
          refine ev_ialdJ (x := nI (pl r2.2.1)) (j := r2.2.1) 72 dX4_read_72 (Nat.le_of_ble_eq_true rfl) (tT_44 hE.1) (pm_inI (by omega) (by omega)) (nI_clamp (by omega)) ((hR.1.off (by unfold rC gC; omega)).trans (hpl _ (by omega))) ?_
          refine ev_ireturn 73 dX4_read_73 rfl rfl ?_
          exact kF _ _ (by omega) (fun cs es => ⟨r0, h0, Or.inr ⟨g0, r1, h1, Or.inr ⟨g1, r2, h2, Or.inr ⟨g2, rfl, Or.inl ⟨h9, rfl⟩⟩⟩⟩⟩) hR.1
theorem c_X4_read4 {X : pmX} {d : Nat} {v : pmV} {P : Option Value → pmT → pmV → Prop} {T : pmT} {tok val : Nat → Int32} {pl : Nat → Nat} {N t F : Nat} (hK : TK T) (hX : pmRfX v) (ht : t < 6) (hN : N ≤ 160) (h0 : tok N = 0) (htk : ∀ j, j ≤ N → v.1 43 j = tok j) (hvl : ∀ j, j ≤ N → tok j = 2 ∨ tok j = 3 → v.1 45 j = val j) (hpl : ∀ j, j ≤ N → v.1 44 j = nI (pl j)) (hF : 20 * N + 8 ≤ F) (kF : ∀ k v', k ≤ N → (∀ cs es, gRd tok val F false k cs es) → Of (rC t) (uI (uI (uR v 41 6 (some (68 + 4 * t))) 41 7 0) 41 5 0) v' → P (some (.int (nI (pl k)))) T v') (kT : ∀ k cs es v', k ≤ N → gRd tok val F true k cs es → RPs (uI (uI (uR v 41 6 (some (68 + 4 * t))) 41 7 0) 41 5 0) t k cs es v' → P (some (.int (-1))) T v') : EvP X (d + 53) MX4_read 4 [.ref 41, .ref (68 + 4 * t), pmJ] [] T v P := by
  refine ev_aload_n 4 dX4_read_4 rfl (by decide) ?_
  refine ev_aload_n 5 dX4_read_5 rfl (by omega) ?_
  refine pf_4_27 (pc := 6) rfl dX4_read_6 (kT_41 hK) (by omega) ?_
  refine ev_aload_n 9 dX4_read_9 rfl (by decide) ?_
  refine ev_iconst 10 dX4_read_10 kI_0 ?_
  refine pf_4_52 (pc := 11) rfl dX4_read_11 (kT_41 hK) ?_
  refine ev_aload_n 14 dX4_read_14 rfl (by decide) ?_
  refine ev_iconst 15 dX4_read_15 kI_0 ?_
  refine pf_4_55 (pc := 16) rfl dX4_read_16 (kT_41 hK) ?_
  refine c_X4_read19 (F := F) (e := (uI (uI (uR v 41 6 (some (68 + 4 * t))) 41 7 0) 41 5 0)) (pl := pl) ?_ (fun j hj => (uI_ne (by decide)).trans ((uI_ne (by decide)).trans (hpl j hj))) hF ⟨Of.nil, uI_on, ?_, fun i hi => absurd hi (Nat.not_lt_zero _), fun p hp => absurd hp (Nat.not_lt_zero _)⟩ kF kT
  · exact ⟨hK, (hX.r).ag rfl, show (uR v 41 6 (some (68 + 4 * t))).2.2 41 6 = some (68 + 4 * t) from uR_on, ht, hN, h0, fun j hj => (uI_ne (by decide)).trans ((uI_ne (by decide)).trans (htk j hj)), fun j hj h => (uI_ne (by decide)).trans ((uI_ne (by decide)).trans (hvl j hj h))⟩
  · exact (uI_off (by decide)).trans uI_on
