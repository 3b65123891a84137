/-! force, image, back, count, feed -/
def Of (D : Nat → Nat → Prop) (v v' : pmV) : Prop := v'.2 = v.2 ∧ ∀ b j, ¬ D b j → v'.1 b j = v.1 b j
theorem Of.off {D : Nat → Nat → Prop} {v v' : pmV} (h : Of D v v') {b j : Nat} (hn : ¬ D b j) : v'.1 b j = v.1 b j := h.2 b j hn
theorem Of.rr {D : Nat → Nat → Prop} {v0 v v' : pmV} (h : Of D v v') (h0 : v.2.2 = v0.2.2) : v'.2.2 = v0.2.2 := (congrArg Prod.snd h.1).trans h0
theorem Ag.o {S D : Nat → Nat → Prop} {v0 v v' : pmV} (h : Ag S v0 v) (hw : Of D v v') (hn : ∀ b j, S b j → D b j → False) : Ag S v0 v' := fun b j q => (hw.2 b j (hn b j q)).trans (h b j q)
def sumN (f : Nat → Int32) : Nat → Int32
  | 0 => 0
  | n + 1 => sumN f n + f n
theorem sumN_cg {f g : Nat → Int32} : ∀ n, (∀ i, i < n → f i = g i) → sumN f n = sumN g n
  | 0, _ => rfl
  | n + 1, h => by show sumN f n + f n = sumN g n + g n; rw [sumN_cg n (fun i hi => h i (by omega)), h n (by omega)]
theorem cTxt_ix {t : Nat} {x : Int32} (ht : t ≤ 6) (h : 0 ≤ x ∧ x ≤ nI t - 1) : ∃ i, i < t ∧ x = nI i := by
  obtain ⟨j, hj, rfl⟩ := nI_of (Int32.not_lt.mpr h.1)
  refine ⟨j, ?_, rfl⟩
  cases t with
  | zero => exact absurd (Int32.le_trans h.1 h.2) (by decide)
  | succ k => have h2 := h.2; rw [nI_pred] at h2; have := (nI_leI (by omega) (by omega)).mp h2; omega
theorem Wr.two {v v' : pmV} {a1 a2 s1 s2 n : Nat} (h2 : v'.2 = v.2) (h12 : s2 ≠ a1) (ha : a1 ≠ a2) (h : ∀ b j, v'.1 b j = if b = a1 ∧ j < n then v.1 s1 j else if b = a2 ∧ j < n then v.1 s2 j else v.1 b j) : ∃ w, Wr v w a1 0 n (v.1 s1) ∧ Wr w v' a2 0 n (w.1 s2) := by
  refine ⟨uA v a1 (va_cpy (v.1 s1) (v.1 a1) 0 0 n), ?_, ?_⟩
  · have := Wr.cpy v a1 0 0 n (v.1 s1)
    rw [Nat.zero_add] at this
    exact this.cg (fun j _ _ => congrArg (v.1 s1) (show 0 + (j - 0) = j by omega))
  · refine ⟨h2, fun b j => ?_⟩
    rw [h b j]
    by_cases hb : b = a2 ∧ 0 ≤ j ∧ j < n
    · rw [if_pos hb, if_neg (fun e => ha (e.1.symm.trans hb.1)), if_pos ⟨hb.1, hb.2.2⟩]
      exact (if_neg h12).symm
    · rw [if_neg hb, if_neg (c := b = a2 ∧ j < n) (fun e => hb ⟨e.1, by omega, e.2⟩)]
      by_cases e : b = a1
      · subst e
        show _ = (if b = b then va_cpy (v.1 s1) (v.1 b) 0 0 n j else v.1 b j)
        rw [if_pos rfl]
        unfold va_cpy
        by_cases hj : j < n
        · rw [if_pos ⟨rfl, hj⟩, if_pos ⟨by omega, by omega⟩]; exact congrArg (v.1 s1) (show j = 0 + (j - 0) by omega)
        · rw [if_neg (fun e => hj e.2), if_neg (fun e => by omega)]
      · rw [if_neg (fun q => e q.1)]; exact (if_neg e).symm
set_option maxHeartbeats 4000000 in
theorem op_force {X : pmX} {d n tx z : Nat} {LT : pmT} {v : pmV} {l : Int32} (hC : Cpl n tx z LT v) : EvP X (d + 9) MX11_force 0 [.ref 32, .int l, pmJ] [] (pmT0 ++ LT) v (Aft X (d + 9) MX12_force [.ref 100, .int l, pmJ]) := by
  obtain ⟨hX, hL, hS, hR, hI, hT, hTa, hSh, hF⟩ := hC
  obtain ⟨r0, hr0, hr1, hr2⟩ := id hR
  refine ev_iload_n 0 dX11_force_0 rfl ?_
  refine ev_iconst 1 dX11_force_1 kI_0 ?_
  refine ev_aload_n 2 dX11_force_2 rfl (by decide) ?_
  refine gf_11_71 (x := nI tx) (pc := 3) rfl dX11_force_3 kd_32 hT.2.2.1 ?_
  refine ev_iconst 6 dX11_force_6 kI_1 ?_
  refine ev_isub 7 dX11_force_7 ?_
  refine cs_11_74 (pc := 8) rfl dX11_force_8 (Nat.le_of_ble_eq_true rfl) ?_
  refine c_X11_isIn (fun h_8 => ?_) (fun h_8 => ?_)
  · refine ev_ifT 11 17 dX11_force_11 rfl (by decide) ?_
    refine ev_aload_n 17 dX11_force_17 rfl (by decide) ?_
    refine gf_11_18 (pc := 18) rfl dX11_force_18 kd_32 (rf_32_2 hX) ?_
    refine gf_11_153 (x := nI r0) (pc := 21) rfl dX11_force_21 kd_34 hr1 ?_
    refine ev_istore_n (ls' := [.ref 32, .int l, .int (nI r0)]) 24 dX11_force_24 (Nat.le_of_ble_eq_true rfl) rfl ?_
    refine ev_aload_n 25 dX11_force_25 rfl (by decide) ?_
    refine gf_11_18 (pc := 26) rfl dX11_force_26 kd_32 (rf_32_2 hX) ?_
    refine ev_iload_n 29 dX11_force_29 rfl ?_
    refine pf_11_153 (pc := 30) rfl dX11_force_30 kd_34 ?_
    refine ev_iload_n 33 dX11_force_33 rfl ?_
    refine ev_ireturn 34 dX11_force_34 rfl rfl ?_
    show EvP X (d + 9) MX12_force 0 [.ref 100, .int l, pmJ] [] (pmT0 ++ LT) (uI v 34 6 l) _
    refine ev_aload_n 0 dX12_force_0 rfl (by decide) ?_
    refine ev_iload_n 1 dX12_force_1 rfl ?_
    refine ev_iconst 2 dX12_force_2 kI_0 ?_
    refine ev_aload_n 3 dX12_force_3 rfl (by decide) ?_
    refine gf_12_83 (x := nI tx) (pc := 4) rfl dX12_force_4 kd_100 ((uI_off (by omega)).trans hT.2.2.2.1) ?_
    refine ev_iconst 7 dX12_force_7 kI_1 ?_
    refine ev_isub 8 dX12_force_8 ?_
    refine cv_12_7_12 (pc := 9) rfl dX12_force_9 kd_100 (Nat.le_of_ble_eq_true rfl) ?_
    refine c_X12_in (fun g_9 => ?_) (fun g_9 => by exfalso; grind)
    refine ev_ifT 12 18 dX12_force_12 rfl (by decide) ?_
    refine ev_aload_n 18 dX12_force_18 rfl (by decide) ?_
    refine gf_12_86 (x := nI r0) (pc := 19) rfl dX12_force_19 kd_100 ((uI_off (by omega)).trans hr2) ?_
    refine ev_istore_n (ls' := [.ref 100, .int l, .int (nI r0)]) 22 dX12_force_22 (Nat.le_of_ble_eq_true rfl) rfl ?_
    refine ev_aload_n 23 dX12_force_23 rfl (by decide) ?_
    refine ev_iload_n 24 dX12_force_24 rfl ?_
    refine pf_12_86 (pc := 25) rfl dX12_force_25 kd_100 ?_
    refine ev_iload_n 28 dX12_force_28 rfl ?_
    refine ev_ireturn 29 dX12_force_29 rfl rfl ?_
    refine ⟨rfl, n, tx, z, LT, rfl, ?_⟩
    refine ⟨hX.ag (rfl), hL.ag ((Ag.rf.i (by unfold sLan; omega)).i (by unfold sLan; omega)) (fun j => congrFun (congrFun (rfl) 33) j), hS.ag ((Ag.rf.i (by unfold sSet; omega)).i (by unfold sSet; omega)), ?_, hI.ag ((Ag.rf.i (by unfold sImg; omega)).i (by unfold sImg; omega)), hT.ag ((Ag.rf.i (by unfold sTxt; omega)).i (by unfold sTxt; omega)), hTa.ag ((Ag.rf.i (by unfold sTape; omega)).i (by unfold sTape; omega)), hSh.ag ((Ag.rf.i (by unfold sShe; omega)).i (by unfold sShe; omega)), hF.ag ((Ag.rf.i (by unfold sFix; omega)).i (by unfold sFix; omega))⟩
    obtain ⟨r, hr, rfl⟩ := cTxt_ix hT.2.1 h_8
    exact ⟨r, hr, rfl, rfl⟩
  · refine ev_ifF 11 17 dX11_force_11 rfl (by decide) ?_
    refine ev_bipush 14 dX11_force_14 kB_m2 ?_
    refine ev_ireturn 16 dX11_force_16 rfl rfl ?_
    show EvP X (d + 9) MX12_force 0 [.ref 100, .int l, pmJ] [] (pmT0 ++ LT) v _
    refine ev_aload_n 0 dX12_force_0 rfl (by decide) ?_
    refine ev_iload_n 1 dX12_force_1 rfl ?_
    refine ev_iconst 2 dX12_force_2 kI_0 ?_
    refine ev_aload_n 3 dX12_force_3 rfl (by decide) ?_
    refine gf_12_83 (x := nI tx) (pc := 4) rfl dX12_force_4 kd_100 hT.2.2.2.1 ?_
    refine ev_iconst 7 dX12_force_7 kI_1 ?_
    refine ev_isub 8 dX12_force_8 ?_
    refine cv_12_7_12 (pc := 9) rfl dX12_force_9 kd_100 (Nat.le_of_ble_eq_true rfl) ?_
    refine c_X12_in (fun g_9 => by exfalso; grind) (fun g_9 => ?_)
    refine ev_ifF 12 18 dX12_force_12 rfl (by decide) ?_
    refine ev_bipush 15 dX12_force_15 kB_m2 ?_
    refine ev_ireturn 17 dX12_force_17 rfl rfl ?_
    refine ⟨rfl, n, tx, z, LT, rfl, ?_⟩
    refine ⟨hX.ag (rfl), hL.ag Ag.rf (fun j => congrFun (congrFun (rfl) 33) j), hS.ag Ag.rf, hR.ag Ag.rf, hI.ag Ag.rf, hT.ag Ag.rf, hTa.ag Ag.rf, hSh.ag Ag.rf, hF.ag Ag.rf⟩

theorem lp_image {X : pmX} {d : Nat} {P : Option Value → pmT → pmV → Prop} {LT : pmT} {n : Nat}  : ∀ (k : Nat) (i : Nat) (v : pmV), i + k = 120 → pmRf v → v.1 100 0 = nI n → (∀ v', pmRf v' → v'.2 = v.2 → (∀ b j, v'.1 b j = if b = 118 ∧ i ≤ j ∧ j < 120 then v.1 104 j else if b = 119 ∧ i ≤ j ∧ j < 120 then v.1 105 j else v.1 b j) → P (some (.int (nI n))) (pmT0 ++ LT) v') → EvP X d MX12_image 47 [.ref 100, .int (nI i)] [] (pmT0 ++ LT) v P := by
  intro k
  induction k with
  | zero => 
    intro i v hi hX hn K
    have hi2 : 120 = i := by omega
    subst hi2
    refine ev_iload_n 47 dX12_image_47 rfl ?_
    refine ev_bipush 48 dX12_image_48 kB_120 ?_
    refine ev_icT 50 83 dX12_image_50 rfl (nge_t (n := 120)) ?_
    refine ev_aload_n 83 dX12_image_83 rfl (by decide) ?_
    refine gf_12_1 (x := nI n) (pc := 84) rfl dX12_image_84 kd_100 hn ?_
    refine ev_ireturn 87 dX12_image_87 rfl rfl ?_
    exact K v hX rfl (fun b j => by rw [if_neg (fun e => by omega), if_neg (fun e => by omega)])
  | succ k ih => 
    intro i v hi hX hn K
    refine ev_iload_n 47 dX12_image_47 rfl ?_
    refine ev_bipush 48 dX12_image_48 kB_120 ?_
    refine ev_icF 50 83 dX12_image_50 rfl (nge_f (n := 120) (by omega) (by omega)) ?_
    refine ev_aload_n 53 dX12_image_53 rfl (by decide) ?_
    refine gf_12_196 (pc := 54) rfl dX12_image_54 kd_100 (rf_100_47 hX) ?_
    refine ev_iload_n 57 dX12_image_57 rfl ?_
    refine ev_aload_n 58 dX12_image_58 rfl (by decide) ?_
    refine gf_12_31 (pc := 59) rfl dX12_image_59 kd_100 (rf_100_8 hX) ?_
    refine ev_iload_n 62 dX12_image_62 rfl ?_
    refine ev_iald (x := v.1 104 i) 63 dX12_image_63 (Nat.le_of_ble_eq_true rfl) ty_104 (pm_inI (by omega) (by omega)) (by rw [nI_clamp (by omega)] <;> exact rfl) ?_
    refine ev_iast 64 dX12_image_64 (Nat.le_of_ble_eq_true rfl) ty_118 (pm_inI (by omega) (by omega)) ?_
    rw [show (nI i).toNatClampNeg = i from nI_clamp (by omega)]
    refine ev_aload_n 65 dX12_image_65 rfl (by decide) ?_
    refine gf_12_199 (pc := 66) rfl dX12_image_66 kd_100 (rf_100_48 hX) ?_
    refine ev_iload_n 69 dX12_image_69 rfl ?_
    refine ev_aload_n 70 dX12_image_70 rfl (by decide) ?_
    refine gf_12_34 (pc := 71) rfl dX12_image_71 kd_100 (rf_100_9 hX) ?_
    refine ev_iload_n 74 dX12_image_74 rfl ?_
    refine ev_iald (x := v.1 105 i) 75 dX12_image_75 (Nat.le_of_ble_eq_true rfl) ty_105 (pm_inI (by omega) (by omega)) (by rw [nI_clamp (by omega)] <;> exact (uI_off (by omega))) ?_
    refine ev_iast 76 dX12_image_76 (Nat.le_of_ble_eq_true rfl) ty_119 (pm_inI (by omega) (by omega)) ?_
    rw [show (nI i).toNatClampNeg = i from nI_clamp (by omega)]
    refine ev_iinc (y := nI (i + 1)) (ls' := [.ref 100, .int (nI (i + 1))]) 77 dX12_image_77 rfl (nI_1 i) rfl ?_
    refine ev_goto 80 47 dX12_image_80 rfl ?_
    refine ih (i + 1) _ (by omega) (hX.ag rfl) hn (fun v2 h1 h2 h3 => K v2 h1 h2 (fun b j => ?_))
    rw [h3 b j]
    by_cases h1 : b = 118
    · subst h1
      by_cases hj : i + 1 ≤ j ∧ j < 120
      · rw [if_pos ⟨rfl, hj⟩, if_pos ⟨rfl, by omega, hj.2⟩]; rw [uI_off (by omega), uI_off (by omega)]
      · rw [if_neg (fun e => hj e.2), if_neg (fun e => by omega), uI_off (by omega)]
        by_cases e : j = i
        · subst e; rw [uI_on, if_pos ⟨rfl, by omega, by omega⟩]
        · rw [uI_off (by omega), if_neg (fun q => by omega), if_neg (fun q => by omega)]
    · by_cases h2 : b = 119
      · subst h2
        by_cases hj : i + 1 ≤ j ∧ j < 120
        · rw [if_neg (fun e => h1 e.1), if_pos ⟨rfl, hj⟩, if_neg (fun e => h1 e.1), if_pos ⟨rfl, by omega, hj.2⟩, uI_off (by omega), uI_off (by omega)]
        · rw [if_neg (fun e => h1 e.1), if_neg (fun e => hj e.2), if_neg (fun e => h1 e.1)]
          by_cases e : j = i
          · subst e; rw [uI_on, if_pos ⟨rfl, by omega, by omega⟩]; try exact uI_off (by omega)
          · rw [uI_off (by omega), uI_off (by omega), if_neg (fun q => by omega)]
      · rw [if_neg (fun e => h1 e.1), if_neg (fun e => h2 e.1), if_neg (fun e => h1 e.1), if_neg (fun e => h2 e.1), uI_off (fun e => h2 e.1), uI_off (fun e => h1 e.1)]
theorem lp_back {X : pmX} {d : Nat} {P : Option Value → pmT → pmV → Prop} {LT : pmT} {n : Nat}  : ∀ (k : Nat) (i : Nat) (v : pmV), i + k = 120 → pmRf v → v.1 100 0 = nI n → (∀ v', pmRf v' → v'.2 = v.2 → (∀ b j, v'.1 b j = if b = 104 ∧ i ≤ j ∧ j < 120 then v.1 118 j else if b = 105 ∧ i ≤ j ∧ j < 120 then v.1 119 j else v.1 b j) → P (some (.int (nI n))) (pmT0 ++ LT) v') → EvP X d MX12_back 52 [.ref 100, .int (nI i)] [] (pmT0 ++ LT) v P := by
  intro k
  induction k with
  | zero => 
    intro i v hi hX hn K
    have hi2 : 120 = i := by omega
    subst hi2
    refine ev_iload_n 52 dX12_back_52 rfl ?_
    refine ev_bipush 53 dX12_back_53 kB_120 ?_
    refine ev_icT 55 88 dX12_back_55 rfl (nge_t (n := 120)) ?_
    refine ev_aload_n 88 dX12_back_88 rfl (by decide) ?_
    refine gf_12_1 (x := nI n) (pc := 89) rfl dX12_back_89 kd_100 hn ?_
    refine ev_ireturn 92 dX12_back_92 rfl rfl ?_
    exact K v hX rfl (fun b j => by rw [if_neg (fun e => by omega), if_neg (fun e => by omega)])
  | succ k ih => 
    intro i v hi hX hn K
    refine ev_iload_n 52 dX12_back_52 rfl ?_
    refine ev_bipush 53 dX12_back_53 kB_120 ?_
    refine ev_icF 55 88 dX12_back_55 rfl (nge_f (n := 120) (by omega) (by omega)) ?_
    refine ev_aload_n 58 dX12_back_58 rfl (by decide) ?_
    refine gf_12_31 (pc := 59) rfl dX12_back_59 kd_100 (rf_100_8 hX) ?_
    refine ev_iload_n 62 dX12_back_62 rfl ?_
    refine ev_aload_n 63 dX12_back_63 rfl (by decide) ?_
    refine gf_12_196 (pc := 64) rfl dX12_back_64 kd_100 (rf_100_47 hX) ?_
    refine ev_iload_n 67 dX12_back_67 rfl ?_
    refine ev_iald (x := v.1 118 i) 68 dX12_back_68 (Nat.le_of_ble_eq_true rfl) ty_118 (pm_inI (by omega) (by omega)) (by rw [nI_clamp (by omega)] <;> exact rfl) ?_
    refine ev_iast 69 dX12_back_69 (Nat.le_of_ble_eq_true rfl) ty_104 (pm_inI (by omega) (by omega)) ?_
    rw [show (nI i).toNatClampNeg = i from nI_clamp (by omega)]
    refine ev_aload_n 70 dX12_back_70 rfl (by decide) ?_
    refine gf_12_34 (pc := 71) rfl dX12_back_71 kd_100 (rf_100_9 hX) ?_
    refine ev_iload_n 74 dX12_back_74 rfl ?_
    refine ev_aload_n 75 dX12_back_75 rfl (by decide) ?_
    refine gf_12_199 (pc := 76) rfl dX12_back_76 kd_100 (rf_100_48 hX) ?_
    refine ev_iload_n 79 dX12_back_79 rfl ?_
    refine ev_iald (x := v.1 119 i) 80 dX12_back_80 (Nat.le_of_ble_eq_true rfl) ty_119 (pm_inI (by omega) (by omega)) (by rw [nI_clamp (by omega)] <;> exact (uI_off (by omega))) ?_
    refine ev_iast 81 dX12_back_81 (Nat.le_of_ble_eq_true rfl) ty_105 (pm_inI (by omega) (by omega)) ?_
    rw [show (nI i).toNatClampNeg = i from nI_clamp (by omega)]
    refine ev_iinc (y := nI (i + 1)) (ls' := [.ref 100, .int (nI (i + 1))]) 82 dX12_back_82 rfl (nI_1 i) rfl ?_
    refine ev_goto 85 52 dX12_back_85 rfl ?_
    refine ih (i + 1) _ (by omega) (hX.ag rfl) hn (fun v2 h1 h2 h3 => K v2 h1 h2 (fun b j => ?_))
    rw [h3 b j]
    by_cases h1 : b = 104
    · subst h1
      by_cases hj : i + 1 ≤ j ∧ j < 120
      · rw [if_pos ⟨rfl, hj⟩, if_pos ⟨rfl, by omega, hj.2⟩]; rw [uI_off (by omega), uI_off (by omega)]
      · rw [if_neg (fun e => hj e.2), if_neg (fun e => by omega), uI_off (by omega)]
        by_cases e : j = i
        · subst e; rw [uI_on, if_pos ⟨rfl, by omega, by omega⟩]
        · rw [uI_off (by omega), if_neg (fun q => by omega), if_neg (fun q => by omega)]
    · by_cases h2 : b = 105
      · subst h2
        by_cases hj : i + 1 ≤ j ∧ j < 120
        · rw [if_neg (fun e => h1 e.1), if_pos ⟨rfl, hj⟩, if_neg (fun e => h1 e.1), if_pos ⟨rfl, by omega, hj.2⟩, uI_off (by omega), uI_off (by omega)]
        · rw [if_neg (fun e => h1 e.1), if_neg (fun e => hj e.2), if_neg (fun e => h1 e.1)]
          by_cases e : j = i
          · subst e; rw [uI_on, if_pos ⟨rfl, by omega, by omega⟩]; try exact uI_off (by omega)
          · rw [uI_off (by omega), uI_off (by omega), if_neg (fun q => by omega)]
      · rw [if_neg (fun e => h1 e.1), if_neg (fun e => h2 e.1), if_neg (fun e => h1 e.1), if_neg (fun e => h2 e.1), uI_off (fun e => h2 e.1), uI_off (fun e => h1 e.1)]
set_option maxHeartbeats 4000000 in
theorem op_image {X : pmX} {d n tx z : Nat} {LT : pmT} {v : pmV}  (hC : Cpl n tx z LT v) : EvP X (d + 9) MX11_image 0 [.ref 32] [] (pmT0 ++ LT) v (Aft X (d + 9) MX12_image [.ref 100, pmJ]) := by
  obtain ⟨hX, hL, hS, hR, hI, hT, hTa, hSh, hF⟩ := hC
  obtain ⟨r0, hr0, hr1, hr2⟩ := id hR
  refine ev_aload_n 0 dX11_image_0 rfl (by decide) ?_
  refine gf_11_22 (pc := 1) rfl dX11_image_1 kd_32 (rf_32_3 hX) ?_
  refine ev_aload_n 4 dX11_image_4 rfl (by decide) ?_
  refine gf_11_18 (pc := 5) rfl dX11_image_5 kd_32 (rf_32_2 hX) ?_
  refine cv_11_227_5 (pc := 8) rfl dX11_image_8 kd_37 (Nat.le_of_ble_eq_true rfl) ?_
  refine ev_aload_n 0 dX5_become_0 rfl (by decide) ?_
  refine gf_5_9 (pc := 1) rfl dX5_become_1 kd_34 (rf_34_0 hX) ?_
  refine ev_iconst 4 dX5_become_4 kI_0 ?_
  refine ev_aload_n 5 dX5_become_5 rfl (by decide) ?_
  refine gf_5_9 (pc := 6) rfl dX5_become_6 kd_37 (rf_37_0 hX) ?_
  refine ev_iconst 9 dX5_become_9 kI_0 ?_
  refine ev_aload_n 10 dX5_become_10 rfl (by decide) ?_
  refine gf_5_9 (pc := 11) rfl dX5_become_11 kd_37 (rf_37_0 hX) ?_
  refine ev_alen (x := 120) 14 dX5_become_14 (Nat.le_of_ble_eq_true rfl) ty_38 (by decide) (by decide) ?_
  refine ev_copy (pc := 15) dX5_become_15 ac0_5_25 ac1_5_25 ac_5_25 (by decide) (by decide) ty_38 ty_35 (by decide) (by decide) (by decide) (by decide) (by decide) (Nat.le_of_ble_eq_true rfl) ?_
  have hb1 := Wr.cpy v 38 0 0 120 (v.1 35)
  rw [show (0 : Int32).toNatClampNeg = 0 from rfl, show (120 : Int32).toNatClampNeg = 120 from rfl]
  generalize uA v 38 (va_cpy (v.1 35) (v.1 38) 0 0 120) = b1 at hb1 ⊢
  replace hb1 := hb1.cg (g := v.1 35) (fun j _ _ => congrArg (v.1 35) (show 0 + (j - 0) = j by omega))
  refine ev_aload_n 18 dX5_become_18 rfl (by decide) ?_
  refine gf_5_15 (pc := 19) rfl dX5_become_19 kd_34 (rf_34_1 (hX.ag (v' := b1) (Wr.rr hb1 (rfl) :))) ?_
  refine ev_iconst 22 dX5_become_22 kI_0 ?_
  refine ev_aload_n 23 dX5_become_23 rfl (by decide) ?_
  refine gf_5_15 (pc := 24) rfl dX5_become_24 kd_37 (rf_37_1 (hX.ag (v' := b1) (Wr.rr hb1 (rfl) :))) ?_
  refine ev_iconst 27 dX5_become_27 kI_0 ?_
  refine ev_aload_n 28 dX5_become_28 rfl (by decide) ?_
  refine gf_5_15 (pc := 29) rfl dX5_become_29 kd_37 (rf_37_1 (hX.ag (v' := b1) (Wr.rr hb1 (rfl) :))) ?_
  refine ev_alen (x := 120) 32 dX5_become_32 (Nat.le_of_ble_eq_true rfl) ty_39 (by decide) (by decide) ?_
  refine ev_copy (pc := 33) dX5_become_33 ac0_5_25 ac1_5_25 ac_5_25 (by decide) (by decide) ty_39 ty_36 (by decide) (by decide) (by decide) (by decide) (by decide) (Nat.le_of_ble_eq_true rfl) ?_
  have hb2 := Wr.cpy b1 39 0 0 120 (b1.1 36)
  rw [show (0 : Int32).toNatClampNeg = 0 from rfl, show (120 : Int32).toNatClampNeg = 120 from rfl]
  generalize uA b1 39 (va_cpy (b1.1 36) (b1.1 39) 0 0 120) = b2 at hb2 ⊢
  replace hb2 := hb2.cg (g := b1.1 36) (fun j _ _ => congrArg (b1.1 36) (show 0 + (j - 0) = j by omega))
  refine ev_aload_n 36 dX5_become_36 rfl (by decide) ?_
  refine ev_aload_n 37 dX5_become_37 rfl (by decide) ?_
  refine gf_5_18 (x := v.1 34 2) (pc := 38) rfl dX5_become_38 kd_34 ((hb2.off (by omega)).trans (hb1.off (by omega))) ?_
  refine pf_5_18 (pc := 41) rfl dX5_become_41 kd_37 ?_
  refine ev_aload_n 44 dX5_become_44 rfl (by decide) ?_
  refine ev_aload_n 45 dX5_become_45 rfl (by decide) ?_
  refine gf_5_22 (x := v.1 34 3) (pc := 46) rfl dX5_become_46 kd_34 ((uI_off (by omega)).trans ((hb2.off (by omega)).trans (hb1.off (by omega)))) ?_
  refine pf_5_22 (pc := 49) rfl dX5_become_49 kd_37 ?_
  refine ev_aload_n 52 dX5_become_52 rfl (by decide) ?_
  refine ev_aload_n 53 dX5_become_53 rfl (by decide) ?_
  refine gf_5_31 (x := v.1 34 4) (pc := 54) rfl dX5_become_54 kd_34 ((uI_off (by omega)).trans ((uI_off (by omega)).trans ((hb2.off (by omega)).trans (hb1.off (by omega))))) ?_
  refine pf_5_31 (pc := 57) rfl dX5_become_57 kd_37 ?_
  refine ev_aload_n 60 dX5_become_60 rfl (by decide) ?_
  refine ev_aload_n 61 dX5_become_61 rfl (by decide) ?_
  refine gf_5_34 (x := v.1 34 5) (pc := 62) rfl dX5_become_62 kd_34 ((uI_off (by omega)).trans ((uI_off (by omega)).trans ((uI_off (by omega)).trans ((hb2.off (by omega)).trans (hb1.off (by omega)))))) ?_
  refine pf_5_34 (pc := 65) rfl dX5_become_65 kd_37 ?_
  refine ev_aload_n 68 dX5_become_68 rfl (by decide) ?_
  refine ev_aload_n 69 dX5_become_69 rfl (by decide) ?_
  refine gf_5_37 (x := nI r0) (pc := 70) rfl dX5_become_70 kd_34 ((uI_off (by omega)).trans ((uI_off (by omega)).trans ((uI_off (by omega)).trans ((uI_off (by omega)).trans ((hb2.off (by omega)).trans ((hb1.off (by omega)).trans hr1)))))) ?_
  refine pf_5_37 (pc := 73) rfl dX5_become_73 kd_37 ?_
  refine ev_return 76 dX5_become_76 rfl ?_
  refine ev_aload_n 11 dX11_image_11 rfl (by decide) ?_
  refine ev_iconst 12 dX11_image_12 kI_1 ?_
  refine pf_11_231 (pc := 13) rfl dX11_image_13 kd_32 (Or.inr rfl) ?_
  refine ev_aload_n 16 dX11_image_16 rfl (by decide) ?_
  refine gf_11_78 (x := nI n) (pc := 17) rfl dX11_image_17 kd_32 ((uI_off (by omega)).trans ((uI_off (by omega)).trans ((uI_off (by omega)).trans ((uI_off (by omega)).trans ((uI_off (by omega)).trans ((uI_off (by omega)).trans ((hb2.off (by omega)).trans ((hb1.off (by omega)).trans hL.2.2.1)))))))) ?_
  refine ev_ireturn 20 dX11_image_20 rfl rfl ?_
  show EvP X (d + 9) MX12_image 0 [.ref 100, pmJ] [] (pmT0 ++ LT) (uI (uI (uI (uI (uI (uI b2 37 2 (v.1 34 2)) 37 3 (v.1 34 3)) 37 4 (v.1 34 4)) 37 5 (v.1 34 5)) 37 6 (nI r0)) 32 4 1) _
  refine ev_aload_n 0 dX12_image_0 rfl (by decide) ?_
  refine ev_iconst 1 dX12_image_1 kI_1 ?_
  refine pf_12_177 (pc := 2) rfl dX12_image_2 kd_100 (Or.inr rfl) ?_
  refine ev_aload_n 5 dX12_image_5 rfl (by decide) ?_
  refine ev_aload_n 6 dX12_image_6 rfl (by decide) ?_
  refine gf_12_28 (x := v.1 100 1) (pc := 7) rfl dX12_image_7 kd_100 ((uI_off (by omega)).trans ((uI_off (by omega)).trans ((uI_off (by omega)).trans ((uI_off (by omega)).trans ((uI_off (by omega)).trans ((uI_off (by omega)).trans ((uI_off (by omega)).trans ((hb2.off (by omega)).trans (hb1.off (by omega)))))))))) ?_
  refine pf_12_181 (pc := 10) rfl dX12_image_10 kd_100 ?_
  refine ev_aload_n 13 dX12_image_13 rfl (by decide) ?_
  refine ev_aload_n 14 dX12_image_14 rfl (by decide) ?_
  refine gf_12_50 (x := v.1 100 2) (pc := 15) rfl dX12_image_15 kd_100 ((uI_off (by omega)).trans ((uI_off (by omega)).trans ((uI_off (by omega)).trans ((uI_off (by omega)).trans ((uI_off (by omega)).trans ((uI_off (by omega)).trans ((uI_off (by omega)).trans ((uI_off (by omega)).trans ((hb2.off (by omega)).trans (hb1.off (by omega))))))))))) ?_
  refine pf_12_184 (pc := 18) rfl dX12_image_18 kd_100 ?_
  refine ev_aload_n 21 dX12_image_21 rfl (by decide) ?_
  refine ev_aload_n 22 dX12_image_22 rfl (by decide) ?_
  refine gf_12_59 (x := v.1 100 3) (pc := 23) rfl dX12_image_23 kd_100 ((uI_off (by omega)).trans ((uI_off (by omega)).trans ((uI_off (by omega)).trans ((uI_off (by omega)).trans ((uI_off (by omega)).trans ((uI_off (by omega)).trans ((uI_off (by omega)).trans ((uI_off (by omega)).trans ((uI_off (by omega)).trans ((hb2.off (by omega)).trans (hb1.off (by omega)))))))))))) ?_
  refine pf_12_187 (pc := 26) rfl dX12_image_26 kd_100 ?_
  refine ev_aload_n 29 dX12_image_29 rfl (by decide) ?_
  refine ev_aload_n 30 dX12_image_30 rfl (by decide) ?_
  refine gf_12_62 (x := v.1 100 4) (pc := 31) rfl dX12_image_31 kd_100 ((uI_off (by omega)).trans ((uI_off (by omega)).trans ((uI_off (by omega)).trans ((uI_off (by omega)).trans ((uI_off (by omega)).trans ((uI_off (by omega)).trans ((uI_off (by omega)).trans ((uI_off (by omega)).trans ((uI_off (by omega)).trans ((uI_off (by omega)).trans ((hb2.off (by omega)).trans (hb1.off (by omega))))))))))))) ?_
  refine pf_12_190 (pc := 34) rfl dX12_image_34 kd_100 ?_
  refine ev_aload_n 37 dX12_image_37 rfl (by decide) ?_
  refine ev_aload_n 38 dX12_image_38 rfl (by decide) ?_
  refine gf_12_86 (x := nI r0) (pc := 39) rfl dX12_image_39 kd_100 ((uI_off (by omega)).trans ((uI_off (by omega)).trans ((uI_off (by omega)).trans ((uI_off (by omega)).trans ((uI_off (by omega)).trans ((uI_off (by omega)).trans ((uI_off (by omega)).trans ((uI_off (by omega)).trans ((uI_off (by omega)).trans ((uI_off (by omega)).trans ((uI_off (by omega)).trans ((hb2.off (by omega)).trans ((hb1.off (by omega)).trans hr2))))))))))))) ?_
  refine pf_12_193 (pc := 42) rfl dX12_image_42 kd_100 ?_
  refine ev_iconst 45 dX12_image_45 kI_0 ?_
  refine ev_istore_n (ls' := [.ref 100, .int 0]) 46 dX12_image_46 (Nat.le_of_ble_eq_true rfl) rfl ?_
  refine lp_image 120 0 _ rfl (hX.ag (v' := b2) (Wr.rr hb2 (Wr.rr hb1 (rfl) :) :)) ((hb2.off (by omega)).trans ((hb1.off (by omega)).trans hL.2.2.2.1)) (fun f2 hf0 hf1 hf2 => ?_)
  obtain ⟨f1, hf3, hf4⟩ := Wr.two (a1 := 118) (a2 := 119) (s1 := 104) (s2 := 105) (n := 120) hf1 (by decide) (by decide) (fun b j => by rw [hf2 b j]; congr 1; exact propext ⟨fun e => ⟨e.1, e.2.2⟩, fun e => ⟨e.1, by omega, e.2⟩⟩; congr 1; exact propext ⟨fun e => ⟨e.1, e.2.2⟩, fun e => ⟨e.1, by omega, e.2⟩⟩)
  refine ⟨rfl, n, tx, z, LT, rfl, ?_⟩
  refine ⟨hX.ag (Wr.rr hf4 (Wr.rr hf3 (Wr.rr hb2 (Wr.rr hb1 (rfl) :) :) :) :), hL.ag ((((((((((((((((Ag.rf.w hb1 (fun j _ _ => by unfold sLan; omega)).w hb2 (fun j _ _ => by unfold sLan; omega)).i (by unfold sLan; omega)).i (by unfold sLan; omega)).i (by unfold sLan; omega)).i (by unfold sLan; omega)).i (by unfold sLan; omega)).i (by unfold sLan; omega)).i (by unfold sLan; omega)).i (by unfold sLan; omega)).i (by unfold sLan; omega)).i (by unfold sLan; omega)).i (by unfold sLan; omega)).i (by unfold sLan; omega)).w hf3 (fun j _ _ => by unfold sLan; omega)).w hf4 (fun j _ _ => by unfold sLan; omega)) (fun j => congrFun (congrFun (Wr.rr hf4 (Wr.rr hf3 (Wr.rr hb2 (Wr.rr hb1 (rfl) :) :) :) :) 33) j), hS.ag ((((((((((((((((Ag.rf.w hb1 (fun j _ _ => by unfold sSet; omega)).w hb2 (fun j _ _ => by unfold sSet; omega)).i (by unfold sSet; omega)).i (by unfold sSet; omega)).i (by unfold sSet; omega)).i (by unfold sSet; omega)).i (by unfold sSet; omega)).i (by unfold sSet; omega)).i (by unfold sSet; omega)).i (by unfold sSet; omega)).i (by unfold sSet; omega)).i (by unfold sSet; omega)).i (by unfold sSet; omega)).i (by unfold sSet; omega)).w hf3 (fun j _ _ => by unfold sSet; omega)).w hf4 (fun j _ _ => by unfold sSet; omega)), hR.ag ((((((((((((((((Ag.rf.w hb1 (fun j _ _ => by unfold sRule; omega)).w hb2 (fun j _ _ => by unfold sRule; omega)).i (by unfold sRule; omega)).i (by unfold sRule; omega)).i (by unfold sRule; omega)).i (by unfold sRule; omega)).i (by unfold sRule; omega)).i (by unfold sRule; omega)).i (by unfold sRule; omega)).i (by unfold sRule; omega)).i (by unfold sRule; omega)).i (by unfold sRule; omega)).i (by unfold sRule; omega)).i (by unfold sRule; omega)).w hf3 (fun j _ _ => by unfold sRule; omega)).w hf4 (fun j _ _ => by unfold sRule; omega)), ?_, hT.ag ((((((((((((((((Ag.rf.w hb1 (fun j _ _ => by unfold sTxt; omega)).w hb2 (fun j _ _ => by unfold sTxt; omega)).i (by unfold sTxt; omega)).i (by unfold sTxt; omega)).i (by unfold sTxt; omega)).i (by unfold sTxt; omega)).i (by unfold sTxt; omega)).i (by unfold sTxt; omega)).i (by unfold sTxt; omega)).i (by unfold sTxt; omega)).i (by unfold sTxt; omega)).i (by unfold sTxt; omega)).i (by unfold sTxt; omega)).i (by unfold sTxt; omega)).w hf3 (fun j _ _ => by unfold sTxt; omega)).w hf4 (fun j _ _ => by unfold sTxt; omega)), hTa.ag ((((((((((((((((Ag.rf.w hb1 (fun j _ _ => by unfold sTape; omega)).w hb2 (fun j _ _ => by unfold sTape; omega)).i (by unfold sTape; omega)).i (by unfold sTape; omega)).i (by unfold sTape; omega)).i (by unfold sTape; omega)).i (by unfold sTape; omega)).i (by unfold sTape; omega)).i (by unfold sTape; omega)).i (by unfold sTape; omega)).i (by unfold sTape; omega)).i (by unfold sTape; omega)).i (by unfold sTape; omega)).i (by unfold sTape; omega)).w hf3 (fun j _ _ => by unfold sTape; omega)).w hf4 (fun j _ _ => by unfold sTape; omega)), hSh.ag ((((((((((((((((Ag.rf.w hb1 (fun j _ _ => by unfold sShe; omega)).w hb2 (fun j _ _ => by unfold sShe; omega)).i (by unfold sShe; omega)).i (by unfold sShe; omega)).i (by unfold sShe; omega)).i (by unfold sShe; omega)).i (by unfold sShe; omega)).i (by unfold sShe; omega)).i (by unfold sShe; omega)).i (by unfold sShe; omega)).i (by unfold sShe; omega)).i (by unfold sShe; omega)).i (by unfold sShe; omega)).i (by unfold sShe; omega)).w hf3 (fun j _ _ => by unfold sShe; omega)).w hf4 (fun j _ _ => by unfold sShe; omega)), hF.ag ((((((((((((((((Ag.rf.w hb1 (fun j _ _ => by unfold sFix; omega)).w hb2 (fun j _ _ => by unfold sFix; omega)).i (by unfold sFix; omega)).i (by unfold sFix; omega)).i (by unfold sFix; omega)).i (by unfold sFix; omega)).i (by unfold sFix; omega)).i (by unfold sFix; omega)).i (by unfold sFix; omega)).i (by unfold sFix; omega)).i (by unfold sFix; omega)).i (by unfold sFix; omega)).i (by unfold sFix; omega)).i (by unfold sFix; omega)).w hf3 (fun j _ _ => by unfold sFix; omega)).w hf4 (fun j _ _ => by unfold sFix; omega))⟩
  obtain ⟨s1, s2, s3, s4, s5, s6⟩ := hS
  refine ⟨by rw [(show f2.1 100 41 = 1 from ((hf4.off (by omega)).trans ((hf3.off (by omega)).trans ((uI_off (by omega)).trans ((uI_off (by omega)).trans ((uI_off (by omega)).trans ((uI_off (by omega)).trans ((uI_off (by omega)).trans uI_on)))))))), (show f2.1 32 4 = 1 from ((hf4.off (by omega)).trans ((hf3.off (by omega)).trans ((uI_off (by omega)).trans ((uI_off (by omega)).trans ((uI_off (by omega)).trans ((uI_off (by omega)).trans ((uI_off (by omega)).trans ((uI_off (by omega)).trans uI_on)))))))))], Or.inr ⟨(show f2.1 32 4 = 1 from ((hf4.off (by omega)).trans ((hf3.off (by omega)).trans ((uI_off (by omega)).trans ((uI_off (by omega)).trans ((uI_off (by omega)).trans ((uI_off (by omega)).trans ((uI_off (by omega)).trans ((uI_off (by omega)).trans uI_on))))))))), ?_, ?_, ?_, ?_, ?_, ?_, r0, hr0, ?_, ?_⟩⟩
  · exact fun j hj => by rw [(show f2.1 118 j = v.1 104 j from ((hf4.off (by omega)).trans ((hf3.on (by omega) (by omega)).trans ((uI_off (by omega)).trans ((uI_off (by omega)).trans ((uI_off (by omega)).trans ((uI_off (by omega)).trans ((uI_off (by omega)).trans ((uI_off (by omega)).trans ((uI_off (by omega)).trans ((uI_off (by omega)).trans ((uI_off (by omega)).trans ((uI_off (by omega)).trans ((uI_off (by omega)).trans ((uI_off (by omega)).trans ((hb2.off (by omega)).trans (hb1.off (by omega)))))))))))))))))), (show f2.1 38 j = v.1 35 j from ((hf4.off (by omega)).trans ((hf3.off (by omega)).trans ((uI_off (by omega)).trans ((uI_off (by omega)).trans ((uI_off (by omega)).trans ((uI_off (by omega)).trans ((uI_off (by omega)).trans ((uI_off (by omega)).trans ((uI_off (by omega)).trans ((uI_off (by omega)).trans ((uI_off (by omega)).trans ((uI_off (by omega)).trans ((uI_off (by omega)).trans ((uI_off (by omega)).trans ((hb2.off (by omega)).trans (hb1.on (by omega) (by omega))))))))))))))))))]; exact s1 j hj
  · exact fun j hj => by rw [(show f2.1 119 j = v.1 105 j from ((hf4.on (by omega) (by omega)).trans ((hf3.off (by omega)).trans ((uI_off (by omega)).trans ((uI_off (by omega)).trans ((uI_off (by omega)).trans ((uI_off (by omega)).trans ((uI_off (by omega)).trans ((uI_off (by omega)).trans ((uI_off (by omega)).trans ((uI_off (by omega)).trans ((uI_off (by omega)).trans ((uI_off (by omega)).trans ((uI_off (by omega)).trans ((uI_off (by omega)).trans ((hb2.off (by omega)).trans (hb1.off (by omega)))))))))))))))))), (show f2.1 39 j = v.1 36 j from ((hf4.off (by omega)).trans ((hf3.off (by omega)).trans ((uI_off (by omega)).trans ((uI_off (by omega)).trans ((uI_off (by omega)).trans ((uI_off (by omega)).trans ((uI_off (by omega)).trans ((uI_off (by omega)).trans ((uI_off (by omega)).trans ((uI_off (by omega)).trans ((uI_off (by omega)).trans ((uI_off (by omega)).trans ((uI_off (by omega)).trans ((uI_off (by omega)).trans ((hb2.on (by omega) (by omega)).trans (hb1.off (by omega))))))))))))))))))]; exact s2 j hj
  · rw [(show f2.1 100 42 = v.1 100 1 from ((hf4.off (by omega)).trans ((hf3.off (by omega)).trans ((uI_off (by omega)).trans ((uI_off (by omega)).trans ((uI_off (by omega)).trans ((uI_off (by omega)).trans uI_on))))))), (show f2.1 37 2 = v.1 34 2 from ((hf4.off (by omega)).trans ((hf3.off (by omega)).trans ((uI_off (by omega)).trans ((uI_off (by omega)).trans ((uI_off (by omega)).trans ((uI_off (by omega)).trans ((uI_off (by omega)).trans ((uI_off (by omega)).trans ((uI_off (by omega)).trans ((uI_off (by omega)).trans ((uI_off (by omega)).trans ((uI_off (by omega)).trans ((uI_off (by omega)).trans uI_on))))))))))))))]; exact s3
  · rw [(show f2.1 100 43 = v.1 100 2 from ((hf4.off (by omega)).trans ((hf3.off (by omega)).trans ((uI_off (by omega)).trans ((uI_off (by omega)).trans ((uI_off (by omega)).trans uI_on)))))), (show f2.1 37 3 = v.1 34 3 from ((hf4.off (by omega)).trans ((hf3.off (by omega)).trans ((uI_off (by omega)).trans ((uI_off (by omega)).trans ((uI_off (by omega)).trans ((uI_off (by omega)).trans ((uI_off (by omega)).trans ((uI_off (by omega)).trans ((uI_off (by omega)).trans ((uI_off (by omega)).trans ((uI_off (by omega)).trans ((uI_off (by omega)).trans uI_on)))))))))))))]; exact s4
  · rw [(show f2.1 100 44 = v.1 100 3 from ((hf4.off (by omega)).trans ((hf3.off (by omega)).trans ((uI_off (by omega)).trans ((uI_off (by omega)).trans uI_on))))), (show f2.1 37 4 = v.1 34 4 from ((hf4.off (by omega)).trans ((hf3.off (by omega)).trans ((uI_off (by omega)).trans ((uI_off (by omega)).trans ((uI_off (by omega)).trans ((uI_off (by omega)).trans ((uI_off (by omega)).trans ((uI_off (by omega)).trans ((uI_off (by omega)).trans ((uI_off (by omega)).trans ((uI_off (by omega)).trans uI_on))))))))))))]; exact s5
  · rw [(show f2.1 100 45 = v.1 100 4 from ((hf4.off (by omega)).trans ((hf3.off (by omega)).trans ((uI_off (by omega)).trans uI_on)))), (show f2.1 37 5 = v.1 34 5 from ((hf4.off (by omega)).trans ((hf3.off (by omega)).trans ((uI_off (by omega)).trans ((uI_off (by omega)).trans ((uI_off (by omega)).trans ((uI_off (by omega)).trans ((uI_off (by omega)).trans ((uI_off (by omega)).trans ((uI_off (by omega)).trans ((uI_off (by omega)).trans uI_on)))))))))))]; exact s6
  · rw [(show f2.1 37 6 = nI r0 from ((hf4.off (by omega)).trans ((hf3.off (by omega)).trans ((uI_off (by omega)).trans ((uI_off (by omega)).trans ((uI_off (by omega)).trans ((uI_off (by omega)).trans ((uI_off (by omega)).trans ((uI_off (by omega)).trans ((uI_off (by omega)).trans uI_on))))))))))]
  · rw [(show f2.1 100 46 = nI r0 from ((hf4.off (by omega)).trans ((hf3.off (by omega)).trans uI_on)))]

