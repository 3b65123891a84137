/-! TEXTS: takesE, its pieces -/
theorem LKP.om {B : Nat → Int32} {z p bs : Nat} {v v' : pmV} (h : LKP B z p v) (ho : Of (mC bs) v v') : LKP B z p v' := by
  unfold LKP at *
  rw [ho.off (b := 100) (j := 13) (by unfold mC; omega), ho.off (b := 100) (j := 14) (by unfold mC; omega), ho.off (b := 100) (j := 15) (by unfold mC; omega), ho.off (b := 100) (j := 16) (by unfold mC; omega)]
  exact h
theorem MS.lk {bs op : Nat} {W cs : List Int32} {v v' : pmV} (h : MS bs W cs op v) (ho : Of lkC v v') : MS bs W cs op v' := by
  obtain ⟨a1, a2, a3, a4, a5, a6, a7, a8, a9⟩ := h
  exact ⟨(ho.off (by unfold lkC; omega)).trans a1, (ho.off (by unfold lkC; omega)).trans a2, (ho.off (by unfold lkC; omega)).trans a3, fun i hi => (ho.off (by unfold lkC; omega)).trans (a4 i hi), fun i hi => by rw [ho.off (by unfold lkC; omega), ho.off (by unfold lkC; omega)]; exact a5 i hi, a6, a7, a8, a9⟩
def eC (bs a j : Nat) : Prop := mC bs a j ∨ lkC a j
theorem rOne_lt {B : Nat → Int32} {z p : Nat} {x : Int32} {m : Bool} {q : rS} {r : rS × Bool} (h : rOne (cP B z p) x m q = some r) : p < z := by
  rcases Nat.lt_or_ge p z with a | a
  · exact a
  · unfold cP at h; rw [if_neg (by omega)] at h; cases h
theorem rSgn_lt {B : Nat → Int32} {z p : Nat} {q : rS} {r : rS × Bool} (h : rSgn (cP B z p) q = some r) : p < z := by
  rcases Nat.lt_or_ge p z with a | a
  · exact a
  · unfold cP at h; rw [if_neg (by omega), rSgn_no (by decide) (by decide)] at h; cases h
theorem may_a {a b : Prop} [Decidable a] [Decidable b] {x : Int32} (e : x = if a then 1 else 0) (h : ¬ x = 0) : (1 : Int32) = if (decide a || decide b) = true then 1 else 0 := by
  by_cases ha : a
  · simp [ha]
  · rw [if_neg ha] at e; exact absurd e h
theorem may_b {a b : Prop} [Decidable a] [Decidable b] {x : Int32} (e : x = if b then 1 else 0) (h : ¬ x = 0) : (1 : Int32) = if (decide a || decide b) = true then 1 else 0 := by
  by_cases ha : b
  · simp [ha]
  · rw [if_neg ha] at e; exact absurd e h
theorem may_n {a b : Prop} [Decidable a] [Decidable b] {x y : Int32} (e : x = if a then 1 else 0) (e2 : y = if b then 1 else 0) (h : x = 0) (h2 : y = 0) : (0 : Int32) = if (decide a || decide b) = true then 1 else 0 := by
  have ha : ¬ a := fun q => by rw [if_pos q, h] at e; exact absurd e (by decide)
  have hb : ¬ b := fun q => by rw [if_pos q, h2] at e2; exact absurd e2 (by decide)
  simp [ha, hb]
theorem te_pre {X : pmX} {d : Nat} {v : pmV} {P : Option Value → pmT → pmV → Prop} {LT : pmT} {a1 a2 a3 : Int32} {a4 a5 a6 a7 : Value} (K : ∀ y4 y5 y6 : Int32, (y4 = if v.1 100 14 = 2 ∧ v.1 100 15 = 14836 then 1 else 0) → (y5 = if v.1 100 14 = 40 then 1 else 0) → (y6 = if v.1 100 14 = 2 then 1 else 0) → EvP X (d + 4) MX12_takesE 115 [.ref 100, .int a1, .int a2, .int a3, .int y4, .int y5, .int y6, a7] [] (pmT0 ++ LT) v P) : EvP X (d + 4) MX12_takesE 75 [.ref 100, .int a1, .int a2, .int a3, a4, a5, a6, a7] [] (pmT0 ++ LT) v P := by
  refine ev_aload_n 75 dX12_takesE_75 rfl (by decide) ?_
  refine ev_sipush 76 dX12_takesE_76 kS_14836 ?_
  refine cv_12_254_12 (pc := 79) rfl dX12_takesE_79 kd_100 (Nat.le_of_ble_eq_true rfl) ?_
  refine c_X12_isWord (fun h_79 => ?_) (fun h_79 => ?_)
  · refine ev_istore (ls' := [.ref 100, .int a1, .int a2, .int a3, .int 1, a5, a6, a7]) 82 dX12_takesE_82 (Nat.le_of_ble_eq_true rfl) rfl ?_
    refine ev_aload_n 84 dX12_takesE_84 rfl (by decide) ?_
    refine gf_12_95 (x := v.1 100 14) (pc := 85) rfl dX12_takesE_85 kd_100 rfl ?_
    refine ev_bipush 88 dX12_takesE_88 kB_40 ?_
    refine ev_ic_ne 90 97 dX12_takesE_90 rfl (fun c_90 => ?_) (fun c_90 => ?_)
    · refine ev_iconst 97 dX12_takesE_97 kI_0 ?_
      refine ev_istore (ls' := [.ref 100, .int a1, .int a2, .int a3, .int 1, .int 0, a6, a7]) 98 dX12_takesE_98 (Nat.le_of_ble_eq_true rfl) rfl ?_
      refine ev_aload_n 100 dX12_takesE_100 rfl (by decide) ?_
      refine gf_12_95 (x := v.1 100 14) (pc := 101) rfl dX12_takesE_101 kd_100 rfl ?_
      refine ev_iconst 104 dX12_takesE_104 kI_2 ?_
      refine ev_ic_ne 105 112 dX12_takesE_105 rfl (fun c_105 => ?_) (fun c_105 => ?_)
      · refine ev_iconst 112 dX12_takesE_112 kI_0 ?_
        refine ev_istore (ls' := [.ref 100, .int a1, .int a2, .int a3, .int 1, .int 0, .int 0, a7]) 113 dX12_takesE_113 (Nat.le_of_ble_eq_true rfl) rfl ?_
        exact K _ _ _ (if_pos h_79).symm (if_neg c_90).symm (if_neg c_105).symm
      · refine ev_iconst 108 dX12_takesE_108 kI_1 ?_
        refine ev_goto 109 113 dX12_takesE_109 rfl ?_
        refine ev_istore (ls' := [.ref 100, .int a1, .int a2, .int a3, .int 1, .int 0, .int 1, a7]) 113 dX12_takesE_113 (Nat.le_of_ble_eq_true rfl) rfl ?_
        exact K _ _ _ (if_pos h_79).symm (if_neg c_90).symm (if_pos (by simpa using c_105)).symm
    · refine ev_iconst 93 dX12_takesE_93 kI_1 ?_
      refine ev_goto 94 98 dX12_takesE_94 rfl ?_
      refine ev_istore (ls' := [.ref 100, .int a1, .int a2, .int a3, .int 1, .int 1, a6, a7]) 98 dX12_takesE_98 (Nat.le_of_ble_eq_true rfl) rfl ?_
      refine ev_aload_n 100 dX12_takesE_100 rfl (by decide) ?_
      refine gf_12_95 (x := v.1 100 14) (pc := 101) rfl dX12_takesE_101 kd_100 rfl ?_
      refine ev_iconst 104 dX12_takesE_104 kI_2 ?_
      refine ev_ic_ne 105 112 dX12_takesE_105 rfl (fun c_105 => ?_) (fun c_105 => ?_)
      · refine ev_iconst 112 dX12_takesE_112 kI_0 ?_
        refine ev_istore (ls' := [.ref 100, .int a1, .int a2, .int a3, .int 1, .int 1, .int 0, a7]) 113 dX12_takesE_113 (Nat.le_of_ble_eq_true rfl) rfl ?_
        exact K _ _ _ (if_pos h_79).symm (if_pos (by simpa using c_90)).symm (if_neg c_105).symm
      · refine ev_iconst 108 dX12_takesE_108 kI_1 ?_
        refine ev_goto 109 113 dX12_takesE_109 rfl ?_
        refine ev_istore (ls' := [.ref 100, .int a1, .int a2, .int a3, .int 1, .int 1, .int 1, a7]) 113 dX12_takesE_113 (Nat.le_of_ble_eq_true rfl) rfl ?_
        exact K _ _ _ (if_pos h_79).symm (if_pos (by simpa using c_90)).symm (if_pos (by simpa using c_105)).symm
  · refine ev_istore (ls' := [.ref 100, .int a1, .int a2, .int a3, .int 0, a5, a6, a7]) 82 dX12_takesE_82 (Nat.le_of_ble_eq_true rfl) rfl ?_
    refine ev_aload_n 84 dX12_takesE_84 rfl (by decide) ?_
    refine gf_12_95 (x := v.1 100 14) (pc := 85) rfl dX12_takesE_85 kd_100 rfl ?_
    refine ev_bipush 88 dX12_takesE_88 kB_40 ?_
    refine ev_ic_ne 90 97 dX12_takesE_90 rfl (fun c_90 => ?_) (fun c_90 => ?_)
    · refine ev_iconst 97 dX12_takesE_97 kI_0 ?_
      refine ev_istore (ls' := [.ref 100, .int a1, .int a2, .int a3, .int 0, .int 0, a6, a7]) 98 dX12_takesE_98 (Nat.le_of_ble_eq_true rfl) rfl ?_
      refine ev_aload_n 100 dX12_takesE_100 rfl (by decide) ?_
      refine gf_12_95 (x := v.1 100 14) (pc := 101) rfl dX12_takesE_101 kd_100 rfl ?_
      refine ev_iconst 104 dX12_takesE_104 kI_2 ?_
      refine ev_ic_ne 105 112 dX12_takesE_105 rfl (fun c_105 => ?_) (fun c_105 => ?_)
      · refine ev_iconst 112 dX12_takesE_112 kI_0 ?_
        refine ev_istore (ls' := [.ref 100, .int a1, .int a2, .int a3, .int 0, .int 0, .int 0, a7]) 113 dX12_takesE_113 (Nat.le_of_ble_eq_true rfl) rfl ?_
        exact K _ _ _ (if_neg h_79).symm (if_neg c_90).symm (if_neg c_105).symm
      · refine ev_iconst 108 dX12_takesE_108 kI_1 ?_
        refine ev_goto 109 113 dX12_takesE_109 rfl ?_
        refine ev_istore (ls' := [.ref 100, .int a1, .int a2, .int a3, .int 0, .int 0, .int 1, a7]) 113 dX12_takesE_113 (Nat.le_of_ble_eq_true rfl) rfl ?_
        exact K _ _ _ (if_neg h_79).symm (if_neg c_90).symm (if_pos (by simpa using c_105)).symm
    · refine ev_iconst 93 dX12_takesE_93 kI_1 ?_
      refine ev_goto 94 98 dX12_takesE_94 rfl ?_
      refine ev_istore (ls' := [.ref 100, .int a1, .int a2, .int a3, .int 0, .int 1, a6, a7]) 98 dX12_takesE_98 (Nat.le_of_ble_eq_true rfl) rfl ?_
      refine ev_aload_n 100 dX12_takesE_100 rfl (by decide) ?_
      refine gf_12_95 (x := v.1 100 14) (pc := 101) rfl dX12_takesE_101 kd_100 rfl ?_
      refine ev_iconst 104 dX12_takesE_104 kI_2 ?_
      refine ev_ic_ne 105 112 dX12_takesE_105 rfl (fun c_105 => ?_) (fun c_105 => ?_)
      · refine ev_iconst 112 dX12_takesE_112 kI_0 ?_
        refine ev_istore (ls' := [.ref 100, .int a1, .int a2, .int a3, .int 0, .int 1, .int 0, a7]) 113 dX12_takesE_113 (Nat.le_of_ble_eq_true rfl) rfl ?_
        exact K _ _ _ (if_neg h_79).symm (if_pos (by simpa using c_90)).symm (if_neg c_105).symm
      · refine ev_iconst 108 dX12_takesE_108 kI_1 ?_
        refine ev_goto 109 113 dX12_takesE_109 rfl ?_
        refine ev_istore (ls' := [.ref 100, .int a1, .int a2, .int a3, .int 0, .int 1, .int 1, a7]) 113 dX12_takesE_113 (Nat.le_of_ble_eq_true rfl) rfl ?_
        exact K _ _ _ (if_neg h_79).symm (if_pos (by simpa using c_90)).symm (if_pos (by simpa using c_105)).symm

theorem te_one {X : pmX} {d : Nat} {v : pmV} {P : Option Value → pmT → pmV → Prop} {LT : pmT} {B : Nat → Int32} {z : Nat} (hX : pmRf v) (hz160 : z ≤ 160) (hz : v.1 100 12 = nI z) (hB : ∀ j, j < z → v.1 106 j = B j) (h255 : ∀ j, j < z → 0 ≤ B j ∧ B j ≤ 255) {p bs op : Nat} {W cs : List Int32} {a7 : Value} {a1 y y4 y5 y6 : Int32} (hM : MS bs W cs op v) (hL : LKP B z p v) (h5 : op ≤ 5) (hl : W.length + cs.length < 160) {m : Bool} (hy : y = if m then 1 else 0) {cA cB : Prop} [Decidable cA] [Decidable cB] (e4 : y4 = if cA then 1 else 0) (e5 : y5 = if cB then 1 else 0) (k0 : rOne (cP B z p) (xP B z p) m (W, cs, op) = none → ∀ v', Of (mC bs) v v' → P (some (.int 0)) (pmT0 ++ LT) v') (k1 : ∀ (q : rS) (w : Bool) (v' : pmV) (y' : Int32), rOne (cP B z p) (xP B z p) m (W, cs, op) = some (q, w) → Of (eC bs) v v' → MS bs q.1 q.2.1 q.2.2 v' → LKP B z (sk B z (eT B z p)) v' → (y' = if (decide cA || decide cB) = true then 1 else 0) → EvP X (d + 4) MX12_takesE 19 [.ref 100, .int a1, .int (if w then 1 else 0), .int y', .int y4, .int y5, .int y6, .int (if w then 1 else 2)] [] (pmT0 ++ LT) v' P) : EvP X (d + 4) MX12_takesE 115 [.ref 100, .int a1, .int 1, .int y, .int y4, .int y5, .int y6, a7] [] (pmT0 ++ LT) v P := by
  refine ev_iload_n 115 dX12_takesE_115 rfl ?_
  refine ev_ifF 116 127 dX12_takesE_116 rfl (by decide) ?_
  refine ev_aload_n 119 dX12_takesE_119 rfl (by decide) ?_
  refine ev_iload_n 120 dX12_takesE_120 rfl ?_
  refine cv_12_257_12 (pc := 121) rfl dX12_takesE_121 kd_100 (Nat.le_of_ble_eq_true rfl) ?_
  refine c_X12_takesOne (m := m) hy hX hM hL h5 hl (fun h0 => ?_) (fun q w v1 h1 hO1 hM1 => ?_)
  · refine ev_goto 124 131 dX12_takesE_124 rfl ?_
    refine ev_istore (ls' := [.ref 100, .int a1, .int 1, .int y, .int y4, .int y5, .int y6, .int 0]) 131 dX12_takesE_131 (Nat.le_of_ble_eq_true rfl) rfl ?_
    refine ev_iload 133 dX12_takesE_133 rfl ?_
    refine ev_ifF 135 140 dX12_takesE_135 rfl (by decide) ?_
    refine ev_iconst 138 dX12_takesE_138 kI_0 ?_
    refine ev_ireturn 139 dX12_takesE_139 rfl rfl ?_
    exact k0 h0 _ Of.nil
  · have hX1 : pmRf v1 := hX.ag (congrArg Prod.snd hO1.1)
    have hp := rOne_lt h1
    cases w
    · refine ev_cst (y := 2) rfl ?_
      refine ev_goto 124 131 dX12_takesE_124 rfl ?_
      refine ev_istore (ls' := [.ref 100, .int a1, .int 1, .int y, .int y4, .int y5, .int y6, .int 2]) 131 dX12_takesE_131 (Nat.le_of_ble_eq_true rfl) rfl ?_
      refine ev_iload 133 dX12_takesE_133 rfl ?_
      refine ev_ifT 135 140 dX12_takesE_135 rfl (by decide) ?_
      refine ev_iload_n 140 dX12_takesE_140 rfl ?_
      refine ev_ifF 141 162 dX12_takesE_141 rfl (by decide) ?_
      refine ev_iload 144 dX12_takesE_144 rfl ?_
      refine ev_if_ne 146 154 dX12_takesE_146 rfl (fun c_146 => ?_) (fun c_146 => ?_)
      · refine ev_iconst 154 dX12_takesE_154 kI_1 ?_
        refine ev_goto 155 164 dX12_takesE_155 rfl ?_
        refine ev_istore_n (ls' := [.ref 100, .int a1, .int 1, .int 1, .int y4, .int y5, .int y6, .int 2]) 164 dX12_takesE_164 (Nat.le_of_ble_eq_true rfl) rfl ?_
        refine ev_iload 165 dX12_takesE_165 rfl ?_
        refine ev_iconst 167 dX12_takesE_167 kI_1 ?_
        refine ev_icT 168 175 dX12_takesE_168 rfl (by decide) ?_
        refine ev_iconst 175 dX12_takesE_175 kI_0 ?_
        refine ev_istore_n (ls' := [.ref 100, .int a1, .int 0, .int 1, .int y4, .int y5, .int y6, .int 2]) 176 dX12_takesE_176 (Nat.le_of_ble_eq_true rfl) rfl ?_
        refine ev_aload_n 177 dX12_takesE_177 rfl (by decide) ?_
        refine cv_12_264_12 (pc := 178) rfl dX12_takesE_178 kd_100 (Nat.le_of_ble_eq_true rfl) ?_
        refine c_X12_goOn (B := B) hX1 hz160 ((hO1.off (by unfold mC; omega)).trans hz) (fun j hj => (hO1.off (by unfold mC; omega)).trans (hB j hj)) h255 (hL.om hO1) hp (fun v2 hO2 hL2 => ?_)
        refine ev_goto 181 19 dX12_takesE_181 rfl ?_
        exact k1 q false v2 _ h1 ((hO1.wd (fun a j h => Or.inl h)).tr (hO2.wd (fun a j h => Or.inr h))) (hM1.lk hO2) hL2 (may_a e4 c_146)
      · refine ev_iload 149 dX12_takesE_149 rfl ?_
        refine ev_if_eq 151 158 dX12_takesE_151 rfl (fun c_151 => ?_) (fun c_151 => ?_)
        · refine ev_iconst 158 dX12_takesE_158 kI_0 ?_
          refine ev_goto 159 164 dX12_takesE_159 rfl ?_
          refine ev_istore_n (ls' := [.ref 100, .int a1, .int 1, .int 0, .int y4, .int y5, .int y6, .int 2]) 164 dX12_takesE_164 (Nat.le_of_ble_eq_true rfl) rfl ?_
          refine ev_iload 165 dX12_takesE_165 rfl ?_
          refine ev_iconst 167 dX12_takesE_167 kI_1 ?_
          refine ev_icT 168 175 dX12_takesE_168 rfl (by decide) ?_
          refine ev_iconst 175 dX12_takesE_175 kI_0 ?_
          refine ev_istore_n (ls' := [.ref 100, .int a1, .int 0, .int 0, .int y4, .int y5, .int y6, .int 2]) 176 dX12_takesE_176 (Nat.le_of_ble_eq_true rfl) rfl ?_
          refine ev_aload_n 177 dX12_takesE_177 rfl (by decide) ?_
          refine cv_12_264_12 (pc := 178) rfl dX12_takesE_178 kd_100 (Nat.le_of_ble_eq_true rfl) ?_
          refine c_X12_goOn (B := B) hX1 hz160 ((hO1.off (by unfold mC; omega)).trans hz) (fun j hj => (hO1.off (by unfold mC; omega)).trans (hB j hj)) h255 (hL.om hO1) hp (fun v2 hO2 hL2 => ?_)
          refine ev_goto 181 19 dX12_takesE_181 rfl ?_
          exact k1 q false v2 _ h1 ((hO1.wd (fun a j h => Or.inl h)).tr (hO2.wd (fun a j h => Or.inr h))) (hM1.lk hO2) hL2 (may_n e4 e5 c_146 c_151)
        · refine ev_iconst 154 dX12_takesE_154 kI_1 ?_
          refine ev_goto 155 164 dX12_takesE_155 rfl ?_
          refine ev_istore_n (ls' := [.ref 100, .int a1, .int 1, .int 1, .int y4, .int y5, .int y6, .int 2]) 164 dX12_takesE_164 (Nat.le_of_ble_eq_true rfl) rfl ?_
          refine ev_iload 165 dX12_takesE_165 rfl ?_
          refine ev_iconst 167 dX12_takesE_167 kI_1 ?_
          refine ev_icT 168 175 dX12_takesE_168 rfl (by decide) ?_
          refine ev_iconst 175 dX12_takesE_175 kI_0 ?_
          refine ev_istore_n (ls' := [.ref 100, .int a1, .int 0, .int 1, .int y4, .int y5, .int y6, .int 2]) 176 dX12_takesE_176 (Nat.le_of_ble_eq_true rfl) rfl ?_
          refine ev_aload_n 177 dX12_takesE_177 rfl (by decide) ?_
          refine cv_12_264_12 (pc := 178) rfl dX12_takesE_178 kd_100 (Nat.le_of_ble_eq_true rfl) ?_
          refine c_X12_goOn (B := B) hX1 hz160 ((hO1.off (by unfold mC; omega)).trans hz) (fun j hj => (hO1.off (by unfold mC; omega)).trans (hB j hj)) h255 (hL.om hO1) hp (fun v2 hO2 hL2 => ?_)
          refine ev_goto 181 19 dX12_takesE_181 rfl ?_
          exact k1 q false v2 _ h1 ((hO1.wd (fun a j h => Or.inl h)).tr (hO2.wd (fun a j h => Or.inr h))) (hM1.lk hO2) hL2 (may_b e5 c_151)
    · refine ev_cst (y := 1) rfl ?_
      refine ev_goto 124 131 dX12_takesE_124 rfl ?_
      refine ev_istore (ls' := [.ref 100, .int a1, .int 1, .int y, .int y4, .int y5, .int y6, .int 1]) 131 dX12_takesE_131 (Nat.le_of_ble_eq_true rfl) rfl ?_
      refine ev_iload 133 dX12_takesE_133 rfl ?_
      refine ev_ifT 135 140 dX12_takesE_135 rfl (by decide) ?_
      refine ev_iload_n 140 dX12_takesE_140 rfl ?_
      refine ev_ifF 141 162 dX12_takesE_141 rfl (by decide) ?_
      refine ev_iload 144 dX12_takesE_144 rfl ?_
      refine ev_if_ne 146 154 dX12_takesE_146 rfl (fun c_146 => ?_) (fun c_146 => ?_)
      · refine ev_iconst 154 dX12_takesE_154 kI_1 ?_
        refine ev_goto 155 164 dX12_takesE_155 rfl ?_
        refine ev_istore_n (ls' := [.ref 100, .int a1, .int 1, .int 1, .int y4, .int y5, .int y6, .int 1]) 164 dX12_takesE_164 (Nat.le_of_ble_eq_true rfl) rfl ?_
        refine ev_iload 165 dX12_takesE_165 rfl ?_
        refine ev_iconst 167 dX12_takesE_167 kI_1 ?_
        refine ev_icF 168 175 dX12_takesE_168 rfl (by decide) ?_
        refine ev_iconst 171 dX12_takesE_171 kI_1 ?_
        refine ev_goto 172 176 dX12_takesE_172 rfl ?_
        refine ev_istore_n (ls' := [.ref 100, .int a1, .int 1, .int 1, .int y4, .int y5, .int y6, .int 1]) 176 dX12_takesE_176 (Nat.le_of_ble_eq_true rfl) rfl ?_
        refine ev_aload_n 177 dX12_takesE_177 rfl (by decide) ?_
        refine cv_12_264_12 (pc := 178) rfl dX12_takesE_178 kd_100 (Nat.le_of_ble_eq_true rfl) ?_
        refine c_X12_goOn (B := B) hX1 hz160 ((hO1.off (by unfold mC; omega)).trans hz) (fun j hj => (hO1.off (by unfold mC; omega)).trans (hB j hj)) h255 (hL.om hO1) hp (fun v2 hO2 hL2 => ?_)
        refine ev_goto 181 19 dX12_takesE_181 rfl ?_
        exact k1 q true v2 _ h1 ((hO1.wd (fun a j h => Or.inl h)).tr (hO2.wd (fun a j h => Or.inr h))) (hM1.lk hO2) hL2 (may_a e4 c_146)
      · refine ev_iload 149 dX12_takesE_149 rfl ?_
        refine ev_if_eq 151 158 dX12_takesE_151 rfl (fun c_151 => ?_) (fun c_151 => ?_)
        · refine ev_iconst 158 dX12_takesE_158 kI_0 ?_
          refine ev_goto 159 164 dX12_takesE_159 rfl ?_
          refine ev_istore_n (ls' := [.ref 100, .int a1, .int 1, .int 0, .int y4, .int y5, .int y6, .int 1]) 164 dX12_takesE_164 (Nat.le_of_ble_eq_true rfl) rfl ?_
          refine ev_iload 165 dX12_takesE_165 rfl ?_
          refine ev_iconst 167 dX12_takesE_167 kI_1 ?_
          refine ev_icF 168 175 dX12_takesE_168 rfl (by decide) ?_
          refine ev_iconst 171 dX12_takesE_171 kI_1 ?_
          refine ev_goto 172 176 dX12_takesE_172 rfl ?_
          refine ev_istore_n (ls' := [.ref 100, .int a1, .int 1, .int 0, .int y4, .int y5, .int y6, .int 1]) 176 dX12_takesE_176 (Nat.le_of_ble_eq_true rfl) rfl ?_
          refine ev_aload_n 177 dX12_takesE_177 rfl (by decide) ?_
          refine cv_12_264_12 (pc := 178) rfl dX12_takesE_178 kd_100 (Nat.le_of_ble_eq_true rfl) ?_
          refine c_X12_goOn (B := B) hX1 hz160 ((hO1.off (by unfold mC; omega)).trans hz) (fun j hj => (hO1.off (by unfold mC; omega)).trans (hB j hj)) h255 (hL.om hO1) hp (fun v2 hO2 hL2 => ?_)
          refine ev_goto 181 19 dX12_takesE_181 rfl ?_
          exact k1 q true v2 _ h1 ((hO1.wd (fun a j h => Or.inl h)).tr (hO2.wd (fun a j h => Or.inr h))) (hM1.lk hO2) hL2 (may_n e4 e5 c_146 c_151)
        · refine ev_iconst 154 dX12_takesE_154 kI_1 ?_
          refine ev_goto 155 164 dX12_takesE_155 rfl ?_
          refine ev_istore_n (ls' := [.ref 100, .int a1, .int 1, .int 1, .int y4, .int y5, .int y6, .int 1]) 164 dX12_takesE_164 (Nat.le_of_ble_eq_true rfl) rfl ?_
          refine ev_iload 165 dX12_takesE_165 rfl ?_
          refine ev_iconst 167 dX12_takesE_167 kI_1 ?_
          refine ev_icF 168 175 dX12_takesE_168 rfl (by decide) ?_
          refine ev_iconst 171 dX12_takesE_171 kI_1 ?_
          refine ev_goto 172 176 dX12_takesE_172 rfl ?_
          refine ev_istore_n (ls' := [.ref 100, .int a1, .int 1, .int 1, .int y4, .int y5, .int y6, .int 1]) 176 dX12_takesE_176 (Nat.le_of_ble_eq_true rfl) rfl ?_
          refine ev_aload_n 177 dX12_takesE_177 rfl (by decide) ?_
          refine cv_12_264_12 (pc := 178) rfl dX12_takesE_178 kd_100 (Nat.le_of_ble_eq_true rfl) ?_
          refine c_X12_goOn (B := B) hX1 hz160 ((hO1.off (by unfold mC; omega)).trans hz) (fun j hj => (hO1.off (by unfold mC; omega)).trans (hB j hj)) h255 (hL.om hO1) hp (fun v2 hO2 hL2 => ?_)
          refine ev_goto 181 19 dX12_takesE_181 rfl ?_
          exact k1 q true v2 _ h1 ((hO1.wd (fun a j h => Or.inl h)).tr (hO2.wd (fun a j h => Or.inr h))) (hM1.lk hO2) hL2 (may_b e5 c_151)

theorem te_sgn {X : pmX} {d : Nat} {v : pmV} {P : Option Value → pmT → pmV → Prop} {LT : pmT} {B : Nat → Int32} {z : Nat} (hX : pmRf v) (hz160 : z ≤ 160) (hz : v.1 100 12 = nI z) (hB : ∀ j, j < z → v.1 106 j = B j) (h255 : ∀ j, j < z → 0 ≤ B j ∧ B j ≤ 255) {p bs op : Nat} {W cs : List Int32} {a7 : Value} {a1 y y4 y5 y6 : Int32} (hM : MS bs W cs op v) (hL : LKP B z p v) (h5 : op ≤ 5) (hl : W.length + cs.length < 160) (k0 : rSgn (cP B z p) (W, cs, op) = none → ∀ v', Of (mC bs) v v' → P (some (.int 0)) (pmT0 ++ LT) v') (k1 : ∀ (q : rS) (w : Bool) (v' : pmV) (y' : Int32), rSgn (cP B z p) (W, cs, op) = some (q, w) → Of (eC bs) v v' → MS bs q.1 q.2.1 q.2.2 v' → LKP B z (sk B z (eT B z p)) v' → y' = y6 → EvP X (d + 4) MX12_takesE 19 [.ref 100, .int a1, .int (if w then 1 else 0), .int y', .int y4, .int y5, .int y6, .int (if w then 1 else 2)] [] (pmT0 ++ LT) v' P) : EvP X (d + 4) MX12_takesE 115 [.ref 100, .int a1, .int 0, .int y, .int y4, .int y5, .int y6, a7] [] (pmT0 ++ LT) v P := by
  refine ev_iload_n 115 dX12_takesE_115 rfl ?_
  refine ev_ifT 116 127 dX12_takesE_116 rfl (by decide) ?_
  refine ev_aload_n 127 dX12_takesE_127 rfl (by decide) ?_
  refine cv_12_261_12 (pc := 128) rfl dX12_takesE_128 kd_100 (Nat.le_of_ble_eq_true rfl) ?_
  refine c_X12_takesSign hX hM hL h5 hl (fun h0 v0 hO0 => ?_) (fun q w v1 h1 hO1 hM1 => ?_)
  · refine ev_istore (ls' := [.ref 100, .int a1, .int 0, .int y, .int y4, .int y5, .int y6, .int 0]) 131 dX12_takesE_131 (Nat.le_of_ble_eq_true rfl) rfl ?_
    refine ev_iload 133 dX12_takesE_133 rfl ?_
    refine ev_ifF 135 140 dX12_takesE_135 rfl (by decide) ?_
    refine ev_iconst 138 dX12_takesE_138 kI_0 ?_
    refine ev_ireturn 139 dX12_takesE_139 rfl rfl ?_
    exact k0 h0 _ hO0
  · have hX1 : pmRf v1 := hX.ag (congrArg Prod.snd hO1.1)
    have hp := rSgn_lt h1
    cases w
    · refine ev_cst (y := 2) rfl ?_
      refine ev_istore (ls' := [.ref 100, .int a1, .int 0, .int y, .int y4, .int y5, .int y6, .int 2]) 131 dX12_takesE_131 (Nat.le_of_ble_eq_true rfl) rfl ?_
      refine ev_iload 133 dX12_takesE_133 rfl ?_
      refine ev_ifT 135 140 dX12_takesE_135 rfl (by decide) ?_
      refine ev_iload_n 140 dX12_takesE_140 rfl ?_
      refine ev_ifT 141 162 dX12_takesE_141 rfl (by decide) ?_
      refine ev_iload 162 dX12_takesE_162 rfl ?_
      refine ev_istore_n (ls' := [.ref 100, .int a1, .int 0, .int y6, .int y4, .int y5, .int y6, .int 2]) 164 dX12_takesE_164 (Nat.le_of_ble_eq_true rfl) rfl ?_
      refine ev_iload 165 dX12_takesE_165 rfl ?_
      refine ev_iconst 167 dX12_takesE_167 kI_1 ?_
      refine ev_icT 168 175 dX12_takesE_168 rfl (by decide) ?_
      refine ev_iconst 175 dX12_takesE_175 kI_0 ?_
      refine ev_istore_n (ls' := [.ref 100, .int a1, .int 0, .int y6, .int y4, .int y5, .int y6, .int 2]) 176 dX12_takesE_176 (Nat.le_of_ble_eq_true rfl) rfl ?_
      refine ev_aload_n 177 dX12_takesE_177 rfl (by decide) ?_
      refine cv_12_264_12 (pc := 178) rfl dX12_takesE_178 kd_100 (Nat.le_of_ble_eq_true rfl) ?_
      refine c_X12_goOn (B := B) hX1 hz160 ((hO1.off (by unfold mC; omega)).trans hz) (fun j hj => (hO1.off (by unfold mC; omega)).trans (hB j hj)) h255 (hL.om hO1) hp (fun v2 hO2 hL2 => ?_)
      refine ev_goto 181 19 dX12_takesE_181 rfl ?_
      exact k1 q false v2 _ h1 ((hO1.wd (fun a j h => Or.inl h)).tr (hO2.wd (fun a j h => Or.inr h))) (hM1.lk hO2) hL2 rfl
    · refine ev_cst (y := 1) rfl ?_
      refine ev_istore (ls' := [.ref 100, .int a1, .int 0, .int y, .int y4, .int y5, .int y6, .int 1]) 131 dX12_takesE_131 (Nat.le_of_ble_eq_true rfl) rfl ?_
      refine ev_iload 133 dX12_takesE_133 rfl ?_
      refine ev_ifT 135 140 dX12_takesE_135 rfl (by decide) ?_
      refine ev_iload_n 140 dX12_takesE_140 rfl ?_
      refine ev_ifT 141 162 dX12_takesE_141 rfl (by decide) ?_
      refine ev_iload 162 dX12_takesE_162 rfl ?_
      refine ev_istore_n (ls' := [.ref 100, .int a1, .int 0, .int y6, .int y4, .int y5, .int y6, .int 1]) 164 dX12_takesE_164 (Nat.le_of_ble_eq_true rfl) rfl ?_
      refine ev_iload 165 dX12_takesE_165 rfl ?_
      refine ev_iconst 167 dX12_takesE_167 kI_1 ?_
      refine ev_icF 168 175 dX12_takesE_168 rfl (by decide) ?_
      refine ev_iconst 171 dX12_takesE_171 kI_1 ?_
      refine ev_goto 172 176 dX12_takesE_172 rfl ?_
      refine ev_istore_n (ls' := [.ref 100, .int a1, .int 1, .int y6, .int y4, .int y5, .int y6, .int 1]) 176 dX12_takesE_176 (Nat.le_of_ble_eq_true rfl) rfl ?_
      refine ev_aload_n 177 dX12_takesE_177 rfl (by decide) ?_
      refine cv_12_264_12 (pc := 178) rfl dX12_takesE_178 kd_100 (Nat.le_of_ble_eq_true rfl) ?_
      refine c_X12_goOn (B := B) hX1 hz160 ((hO1.off (by unfold mC; omega)).trans hz) (fun j hj => (hO1.off (by unfold mC; omega)).trans (hB j hj)) h255 (hL.om hO1) hp (fun v2 hO2 hL2 => ?_)
      refine ev_goto 181 19 dX12_takesE_181 rfl ?_
      exact k1 q true v2 _ h1 ((hO1.wd (fun a j h => Or.inl h)).tr (hO2.wd (fun a j h => Or.inr h))) (hM1.lk hO2) hL2 rfl

theorem te_end {X : pmX} {d : Nat} {v : pmV} {P : Option Value → pmT → pmV → Prop} {LT : pmT} {bs op : Nat} {W cs : List Int32} {t a1 a3 : Int32} {a4 a5 a6 a7 : Value} (hX : pmRf v) (hM : MS bs W cs op v) (h5 : op ≤ 5) (h14 : v.1 100 14 = t) (ke1 : t = 59 → (stl 1 W cs op).1 = [] → ∀ v', Of (mC bs) v v' → MS bs (stl 1 W cs op).1 (stl 1 W cs op).2.1 (stl 1 W cs op).2.2 v' → P (some (.int 1)) (pmT0 ++ LT) v') (ke0 : t ≠ 41 ∧ (t = 59 ∨ t < 0) → ¬ ((stl 1 W cs op).1 = [] ∧ t = 59) → ∀ v', Of (mC bs) v v' → P (some (.int 0)) (pmT0 ++ LT) v') (kc : ¬ (t ≠ 41 ∧ (t = 59 ∨ t < 0)) → EvP X (d + 4) MX12_takesE 75 [.ref 100, .int a1, .int 0, .int a3, a4, a5, a6, a7] [] (pmT0 ++ LT) v P) : EvP X (d + 4) MX12_takesE 19 [.ref 100, .int a1, .int 0, .int a3, a4, a5, a6, a7] [] (pmT0 ++ LT) v P := by
  refine ev_iload_n 19 dX12_takesE_19 rfl ?_
  refine ev_ifF 20 75 dX12_takesE_20 rfl (by decide) ?_
  refine ev_aload_n 23 dX12_takesE_23 rfl (by decide) ?_
  refine gf_12_95 (x := t) (pc := 24) rfl dX12_takesE_24 kd_100 h14 ?_
  refine ev_bipush 27 dX12_takesE_27 kB_41 ?_
  refine ev_ic_eq 29 75 dX12_takesE_29 rfl (fun c_29 => ?_) (fun c_29 => ?_)
  · exact kc (fun h => h.1 c_29)
  · refine ev_aload_n 32 dX12_takesE_32 rfl (by decide) ?_
    refine gf_12_95 (x := t) (pc := 33) rfl dX12_takesE_33 kd_100 h14 ?_
    refine ev_bipush 36 dX12_takesE_36 kB_59 ?_
    refine ev_ic_eq 38 48 dX12_takesE_38 rfl (fun c_38 => ?_) (fun c_38 => ?_)
    · refine ev_aload_n 48 dX12_takesE_48 rfl (by decide) ?_
      refine ev_iconst 49 dX12_takesE_49 kI_1 ?_
      refine cv_12_248_12 (pc := 50) rfl dX12_takesE_50 kd_100 (Nat.le_of_ble_eq_true rfl) ?_
      refine c_X12_settle (L := 1) hX ⟨by decide, by decide⟩ hM (by omega) (fun v1 hO1 hM1 => ?_)
      have h8 := hM1.2.2.2.2.2.2.2.1
      refine ev_aload_n 53 dX12_takesE_53 rfl (by decide) ?_
      refine gf_12_107 (x := nI (stl 1 W cs op).1.length) (pc := 54) rfl dX12_takesE_54 kd_100 hM1.2.1 ?_
      refine ev_if_neN (a := ((stl 1 W cs op).1.length)) 57 73 dX12_takesE_57 rfl (by omega) (fun c_57 => ?_) (fun c_57 => ?_)
      · refine ev_iconst 73 dX12_takesE_73 kI_0 ?_
        refine ev_ireturn 74 dX12_takesE_74 rfl rfl ?_
        exact ke0 ⟨c_29, Or.inl c_38⟩ (fun h => c_57 (by rw [h.1]; rfl)) v1 hO1
      · refine ev_aload_n 60 dX12_takesE_60 rfl (by decide) ?_
        refine gf_12_95 (x := t) (pc := 61) rfl dX12_takesE_61 kd_100 ((hO1.off (by unfold mC; omega)).trans h14) ?_
        refine ev_bipush 64 dX12_takesE_64 kB_59 ?_
        refine ev_ic_ne 66 73 dX12_takesE_66 rfl (fun c_66 => ?_) (fun c_66 => ?_)
        · refine ev_iconst 73 dX12_takesE_73 kI_0 ?_
          refine ev_ireturn 74 dX12_takesE_74 rfl rfl ?_
          exact ke0 ⟨c_29, Or.inl c_38⟩ (fun h => c_66 h.2) v1 hO1
        · refine ev_iconst 69 dX12_takesE_69 kI_1 ?_
          refine ev_goto 70 74 dX12_takesE_70 rfl ?_
          refine ev_ireturn 74 dX12_takesE_74 rfl rfl ?_
          exact ke1 (by simpa using c_66) (List.eq_nil_of_length_eq_zero c_57) v1 hO1 hM1
    · refine ev_aload_n 41 dX12_takesE_41 rfl (by decide) ?_
      refine gf_12_95 (x := t) (pc := 42) rfl dX12_takesE_42 kd_100 h14 ?_
      refine ev_if_ge 45 75 dX12_takesE_45 rfl (fun c_45 => ?_) (fun c_45 => ?_)
      · exact kc (fun h => h.2.elim c_38 (fun q => absurd q (Int32.not_lt.mpr c_45)))
      · refine ev_aload_n 48 dX12_takesE_48 rfl (by decide) ?_
        refine ev_iconst 49 dX12_takesE_49 kI_1 ?_
        refine cv_12_248_12 (pc := 50) rfl dX12_takesE_50 kd_100 (Nat.le_of_ble_eq_true rfl) ?_
        refine c_X12_settle (L := 1) hX ⟨by decide, by decide⟩ hM (by omega) (fun v1 hO1 hM1 => ?_)
        have h8 := hM1.2.2.2.2.2.2.2.1
        refine ev_aload_n 53 dX12_takesE_53 rfl (by decide) ?_
        refine gf_12_107 (x := nI (stl 1 W cs op).1.length) (pc := 54) rfl dX12_takesE_54 kd_100 hM1.2.1 ?_
        refine ev_if_neN (a := ((stl 1 W cs op).1.length)) 57 73 dX12_takesE_57 rfl (by omega) (fun c_57 => ?_) (fun c_57 => ?_)
        · refine ev_iconst 73 dX12_takesE_73 kI_0 ?_
          refine ev_ireturn 74 dX12_takesE_74 rfl rfl ?_
          exact ke0 ⟨c_29, Or.inr (Int32.not_le.mp c_45)⟩ (fun h => c_57 (by rw [h.1]; rfl)) v1 hO1
        · refine ev_aload_n 60 dX12_takesE_60 rfl (by decide) ?_
          refine gf_12_95 (x := t) (pc := 61) rfl dX12_takesE_61 kd_100 ((hO1.off (by unfold mC; omega)).trans h14) ?_
          refine ev_bipush 64 dX12_takesE_64 kB_59 ?_
          refine ev_ic_ne 66 73 dX12_takesE_66 rfl (fun c_66 => ?_) (fun c_66 => ?_)
          · refine ev_iconst 73 dX12_takesE_73 kI_0 ?_
            refine ev_ireturn 74 dX12_takesE_74 rfl rfl ?_
            exact ke0 ⟨c_29, Or.inr (Int32.not_le.mp c_45)⟩ (fun h => c_66 h.2) v1 hO1
          · refine ev_iconst 69 dX12_takesE_69 kI_1 ?_
            refine ev_goto 70 74 dX12_takesE_70 rfl ?_
            refine ev_ireturn 74 dX12_takesE_74 rfl rfl ?_
            exact ke1 (by simpa using c_66) (List.eq_nil_of_length_eq_zero c_57) v1 hO1 hM1

