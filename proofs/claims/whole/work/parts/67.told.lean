/-! come, told, taken: both sides -/
theorem op_come {X : pmX} {d n tx z : Nat} {LT : pmT} {v : pmV} {a b : Int32} (hC : Cpl n tx z LT v) : EvP X (d + 20) MX11_come 0 [.ref 32, .int a, .int b, pmJ, pmJ] [] (pmT0 ++ LT) v (Aft X (d + 20) MX12_come [.ref 100, .int a, .int b, pmJ]) := by
  obtain ⟨hX, hL, hS, hR, hI, hT, hTa, hSh, hF⟩ := id hC
  by_cases hb : 0 ≤ b ∧ b ≤ 3
  · obtain ⟨t, rfl, _, ht⟩ := nI_rng (a := 0) (b := 3) (by omega) (by omega) hb
    obtain ⟨⟨s1, s2, s3⟩, ⟨q, hq60, q1, q2⟩, hit⟩ := hSh t (by omega)
    by_cases ha : 0 ≤ a ∧ a ≤ 1
    · by_cases h2 : v.1 (92 + 2 * t) 0 = -1
      · refine c_X11_come_3 (d := d + 18) hX (by omega) ha h2 ?_
        refine c_X12_come_3 (d := d + 18) hX (by omega) ha (s1.trans h2) ?_
        exact ⟨rfl, n, tx, z, LT, rfl, hC⟩
      · obtain ⟨w, rfl, _, hw⟩ := nI_rng (a := 0) (b := 1) (by omega) (by omega) ha
        obtain ⟨M, hM, hok, hst⟩ := come_stop (v.1 (93 + 2 * t)) q
        refine c_X11_come_ok (d := d + 18) hC (by omega) (by omega) hq60 q1 hM hok hst ha h2 (fun v1 h1 => ?_)
        have hE : Of (fun a _ => a = 35) v v1 := ⟨h1.1, fun b j hn => h1.off (fun e => hn e.1)⟩
        refine c_X12_come_ok (d := d + 18) hC hE (hX.ag (congrArg Prod.snd h1.1)) (by omega) (by omega) hq60 q2 hit hM hok hst ha (by rw [s1]; grind) (fun v2 h3 => ?_)
        refine ⟨rfl, n, tx, z, LT, rfl, hC.of (E := fun a _ => a = 35 ∨ a = 104) ?_ (fun a j h => by unfold sSet; omega) ?_⟩
        · exact (hE.wd fun a j h => Or.inl h).tr ⟨h3.1, fun b j hn => h3.off (fun e => hn (Or.inr e.1))⟩
        · refine hS.com (q := fun j => 60 * w ≤ j ∧ j < 60 * w + M) (fun j => v.1 (93 + 2 * t) (j - 60 * w)) (fun j hj => hok _ (by omega)) (fun j hj => ?_) (fun x j e1 e2 => (h3.off (fun e => e2 e.1)).trans (h1.off (fun e => e1 e.1)))
          by_cases hj2 : 60 * w ≤ j ∧ j < 60 * w + M
          · exact Or.inr ⟨hj2, (h3.off (by omega)).trans (h1.on hj2.1 hj2.2), h3.on hj2.1 hj2.2⟩
          · exact Or.inl ⟨(h3.off (by omega)).trans (h1.off (fun e => hj2 e.2)), (h3.off (fun e => hj2 e.2)).trans (h1.off (by omega))⟩
    · refine c_X11_come_2 (d := d + 18) hX (by omega) ha ?_
      refine c_X12_come_1 (d := d + 18) ha ?_
      exact ⟨rfl, n, tx, z, LT, rfl, hC⟩
  · refine c_X11_come_1 (d := d + 18) hX hb ?_
    by_cases ha : 0 ≤ a ∧ a ≤ 1
    · refine c_X12_come_2 (d := d + 18) ha hb ?_
      exact ⟨rfl, n, tx, z, LT, rfl, hC⟩
    · refine c_X12_come_1 (d := d + 18) ha ?_
      exact ⟨rfl, n, tx, z, LT, rfl, hC⟩
/-- what told() answers of a lane -/
def tlA (e : pmV) (l q : Nat) (c : Int32) : Int32 := if q = 0 then pK e l else if q = 1 then pNb e l else if q = 2 then e.1 (124 + l) 2 else if q = 3 then pRes e l (e.1 34 2) else if q = 4 then (if 0 ≤ c ∧ c ≤ 59 then (if pMay e l c = true then 1 else 0) else -2) else (if 0 ≤ c ∧ c ≤ 9999 then pCar e l c else -2)
theorem c_X11_told_1 {X : pmX} {d : Nat} {v : pmV} {P : Option Value → pmT → pmV → Prop} {LT : pmT} {n tx z : Nat} {a b c : Int32} (hC : Cpl n tx z LT v) (h2 : ¬ (0 ≤ a ∧ a ≤ nI n - 1)) (k : P (some (.int (-2))) (pmT0 ++ LT) v) : EvP X (d + 10) MX11_told 0 [.ref 32, .int a, .int b, .int c, pmJ] [] (pmT0 ++ LT) v P := by
  refine ev_aload_n 0 dX11_told_0 rfl (by decide) ?_
  refine ev_iload_n 1 dX11_told_1 rfl ?_
  refine cv_11_118_11 (pc := 2) rfl dX11_told_2 kd_32 (Nat.le_of_ble_eq_true rfl) ?_
  refine c_X11_laneOf (n := n) hC.2.1 hC.1 (fun i hi hq => absurd (hq ▸ lane_in hC.2.1.1 hi) h2) (fun _ => ?_)
  refine ev_astoreN (ls' := [.ref 32, .int a, .int b, .int c, .null]) 5 dX11_told_5 (Nat.le_of_ble_eq_true rfl) rfl ?_
  refine ev_aloadN 7 dX11_told_7 rfl ?_
  refine ev_ifnonnullN 9 dX11_told_9 ?_
  refine ev_bipush 12 dX11_told_12 kB_m2 ?_
  refine ev_ireturn 14 dX11_told_14 rfl rfl ?_
  exact k

theorem c_X11_told_2 {X : pmX} {d : Nat} {v : pmV} {P : Option Value → pmT → pmV → Prop} {LT : pmT} {n tx z l : Nat} {b c : Int32} (hC : Cpl n tx z LT v) (hl : l < n) (hb : ¬ (0 ≤ b ∧ b ≤ 5)) (k : P (some (.int (-2))) (pmT0 ++ LT) v) : EvP X (d + 10) MX11_told 0 [.ref 32, .int (nI l), .int b, .int c, pmJ] [] (pmT0 ++ LT) v P := by
  have hn8 := hC.2.1.1
  refine ev_aload_n 0 dX11_told_0 rfl (by decide) ?_
  refine ev_iload_n 1 dX11_told_1 rfl ?_
  refine cv_11_118_11 (pc := 2) rfl dX11_told_2 kd_32 (Nat.le_of_ble_eq_true rfl) ?_
  refine c_X11_laneOf (n := n) hC.2.1 hC.1 (fun i hi hq => ?_) (fun hq => absurd (lane_in hC.2.1.1 hl) hq)
  obtain rfl : l = i := (nI_eq (by omega) (by omega)).mp hq
  refine ev_astore (ls' := [.ref 32, .int (nI l), .int b, .int c, .ref (124 + l)]) 5 dX11_told_5 (Nat.le_of_ble_eq_true rfl) (by omega) rfl ?_
  refine ev_aload 7 dX11_told_7 rfl (by omega) ?_
  refine ev_ifnonnull 9 15 dX11_told_9 (by omega) rfl ?_
  refine ev_iload_n 15 dX11_told_15 rfl ?_
  refine ev_swOut 16 140 dX11_told_16 (sw_out (lo := 0) (hi := 5) rfl rfl hb) rfl ?_
  refine ev_bipush 140 dX11_told_140 kB_m2 ?_
  refine ev_ireturn 142 dX11_told_142 rfl rfl ?_
  exact k

theorem c_X11_told_ok {X : pmX} {d : Nat} {v : pmV} {P : Option Value → pmT → pmV → Prop} {LT : pmT} {n tx z l q : Nat} {c : Int32} (hC : Cpl n tx z LT v) (hl : l < n) (hq : q ≤ 5) (k : P (some (.int (tlA v l q c))) (pmT0 ++ LT) v) : EvP X (d + 10) MX11_told 0 [.ref 32, .int (nI l), .int (nI q), .int c, pmJ] [] (pmT0 ++ LT) v P := by
  have hn8 := hC.2.1.1
  have : q = 0 ∨ q = 1 ∨ q = 2 ∨ q = 3 ∨ q = 4 ∨ q = 5 := by omega
  rcases this with rfl | rfl | rfl | rfl | rfl | rfl
  · refine ev_aload_n 0 dX11_told_0 rfl (by decide) ?_
    refine ev_iload_n 1 dX11_told_1 rfl ?_
    refine cv_11_118_11 (pc := 2) rfl dX11_told_2 kd_32 (Nat.le_of_ble_eq_true rfl) ?_
    refine c_X11_laneOf (n := n) hC.2.1 hC.1 (fun i hi hq => ?_) (fun hq => absurd (lane_in hC.2.1.1 hl) hq)
    obtain rfl : l = i := (nI_eq (by omega) (by omega)).mp hq
    refine ev_astore (ls' := [.ref 32, .int (nI l), .int 0, .int c, .ref (124 + l)]) 5 dX11_told_5 (Nat.le_of_ble_eq_true rfl) (by omega) rfl ?_
    refine ev_aload 7 dX11_told_7 rfl (by omega) ?_
    refine ev_ifnonnull 9 15 dX11_told_9 (by omega) rfl ?_
    refine ev_iload_n 15 dX11_told_15 rfl ?_
    refine ev_swIn 16 56 dX11_told_16 (by decide) rfl rfl ?_
    refine ev_aload 56 dX11_told_56 rfl (by omega) ?_
    refine gl_11_128 (pc := 58) rfl dX11_told_58 (kd_lane hC.2.1 (by omega)) kcl_mem ?_
    refine ev_ireturn 61 dX11_told_61 rfl rfl ?_
    exact k
  · refine ev_aload_n 0 dX11_told_0 rfl (by decide) ?_
    refine ev_iload_n 1 dX11_told_1 rfl ?_
    refine cv_11_118_11 (pc := 2) rfl dX11_told_2 kd_32 (Nat.le_of_ble_eq_true rfl) ?_
    refine c_X11_laneOf (n := n) hC.2.1 hC.1 (fun i hi hq => ?_) (fun hq => absurd (lane_in hC.2.1.1 hl) hq)
    obtain rfl : l = i := (nI_eq (by omega) (by omega)).mp hq
    refine ev_astore (ls' := [.ref 32, .int (nI l), .int 1, .int c, .ref (124 + l)]) 5 dX11_told_5 (Nat.le_of_ble_eq_true rfl) (by omega) rfl ?_
    refine ev_aload 7 dX11_told_7 rfl (by omega) ?_
    refine ev_ifnonnull 9 15 dX11_told_9 (by omega) rfl ?_
    refine ev_iload_n 15 dX11_told_15 rfl ?_
    refine ev_swIn 16 62 dX11_told_16 (by decide) rfl rfl ?_
    refine ev_aload 62 dX11_told_62 rfl (by omega) ?_
    refine gl_11_131 (pc := 64) rfl dX11_told_64 (kd_lane hC.2.1 (by omega)) kcl_mem ?_
    refine ev_ireturn 67 dX11_told_67 rfl rfl ?_
    exact k
  · refine ev_aload_n 0 dX11_told_0 rfl (by decide) ?_
    refine ev_iload_n 1 dX11_told_1 rfl ?_
    refine cv_11_118_11 (pc := 2) rfl dX11_told_2 kd_32 (Nat.le_of_ble_eq_true rfl) ?_
    refine c_X11_laneOf (n := n) hC.2.1 hC.1 (fun i hi hq => ?_) (fun hq => absurd (lane_in hC.2.1.1 hl) hq)
    obtain rfl : l = i := (nI_eq (by omega) (by omega)).mp hq
    refine ev_astore (ls' := [.ref 32, .int (nI l), .int 2, .int c, .ref (124 + l)]) 5 dX11_told_5 (Nat.le_of_ble_eq_true rfl) (by omega) rfl ?_
    refine ev_aload 7 dX11_told_7 rfl (by omega) ?_
    refine ev_ifnonnull 9 15 dX11_told_9 (by omega) rfl ?_
    refine ev_iload_n 15 dX11_told_15 rfl ?_
    refine ev_swIn 16 68 dX11_told_16 (by decide) rfl rfl ?_
    refine ev_aload 68 dX11_told_68 rfl (by omega) ?_
    refine gl_11_134 (pc := 70) rfl dX11_told_70 (kd_lane hC.2.1 (by omega)) kcl_mem ?_
    refine ev_ireturn 73 dX11_told_73 rfl rfl ?_
    exact k
  · refine ev_aload_n 0 dX11_told_0 rfl (by decide) ?_
    refine ev_iload_n 1 dX11_told_1 rfl ?_
    refine cv_11_118_11 (pc := 2) rfl dX11_told_2 kd_32 (Nat.le_of_ble_eq_true rfl) ?_
    refine c_X11_laneOf (n := n) hC.2.1 hC.1 (fun i hi hq => ?_) (fun hq => absurd (lane_in hC.2.1.1 hl) hq)
    obtain rfl : l = i := (nI_eq (by omega) (by omega)).mp hq
    refine ev_astore (ls' := [.ref 32, .int (nI l), .int 3, .int c, .ref (124 + l)]) 5 dX11_told_5 (Nat.le_of_ble_eq_true rfl) (by omega) rfl ?_
    refine ev_aload 7 dX11_told_7 rfl (by omega) ?_
    refine ev_ifnonnull 9 15 dX11_told_9 (by omega) rfl ?_
    refine ev_iload_n 15 dX11_told_15 rfl ?_
    refine ev_swIn 16 74 dX11_told_16 (by decide) rfl rfl ?_
    refine ev_aload 74 dX11_told_74 rfl (by omega) ?_
    refine ev_aload_n 76 dX11_told_76 rfl (by decide) ?_
    refine gf_11_18 (pc := 77) rfl dX11_told_77 kd_32 (rf_32_2 hC.1) ?_
    refine gf_11_137 (x := v.1 34 2) (pc := 80) rfl dX11_told_80 kd_34 rfl ?_
    refine vc_11_140 (pc := 83) rfl dX11_told_83 hC.2.1 (i := l) (by omega) rfl (Nat.le_of_ble_eq_true rfl) ?_
    refine ev_ireturn 86 dX11_told_86 rfl rfl ?_
    exact k
  · refine ev_aload_n 0 dX11_told_0 rfl (by decide) ?_
    refine ev_iload_n 1 dX11_told_1 rfl ?_
    refine cv_11_118_11 (pc := 2) rfl dX11_told_2 kd_32 (Nat.le_of_ble_eq_true rfl) ?_
    refine c_X11_laneOf (n := n) hC.2.1 hC.1 (fun i hi hq => ?_) (fun hq => absurd (lane_in hC.2.1.1 hl) hq)
    obtain rfl : l = i := (nI_eq (by omega) (by omega)).mp hq
    refine ev_astore (ls' := [.ref 32, .int (nI l), .int 4, .int c, .ref (124 + l)]) 5 dX11_told_5 (Nat.le_of_ble_eq_true rfl) (by omega) rfl ?_
    refine ev_aload 7 dX11_told_7 rfl (by omega) ?_
    refine ev_ifnonnull 9 15 dX11_told_9 (by omega) rfl ?_
    refine ev_iload_n 15 dX11_told_15 rfl ?_
    refine ev_swIn 16 87 dX11_told_16 (by decide) rfl rfl ?_
    refine ev_iload_n 87 dX11_told_87 rfl ?_
    refine ev_iconst 88 dX11_told_88 kI_0 ?_
    refine ev_bipush 89 dX11_told_89 kB_59 ?_
    refine cs_11_74 (pc := 91) rfl dX11_told_91 (Nat.le_of_ble_eq_true rfl) ?_
    refine c_X11_isIn (fun h_91 => ?_) (fun h_91 => ?_)
    · refine ev_ifT 94 102 dX11_told_94 rfl (by decide) ?_
      refine ev_aload 102 dX11_told_102 rfl (by omega) ?_
      refine ev_iload_n 104 dX11_told_104 rfl ?_
      refine vc_11_143 (pc := 105) rfl dX11_told_105 hC.2.1 (i := l) (by omega) rfl (Nat.le_of_ble_eq_true rfl) (fun h_105 => ?_) (fun h_105 => ?_)
      · refine ev_ifF 108 115 dX11_told_108 rfl (by decide) ?_
        refine ev_iconst 111 dX11_told_111 kI_1 ?_
        refine ev_goto 112 116 dX11_told_112 rfl ?_
        refine ev_ireturn 116 dX11_told_116 rfl rfl ?_
        rw [show tlA v l 4 c = 1 by simp [tlA, h_91, h_105]] at k
        exact k
      · refine ev_ifT 108 115 dX11_told_108 rfl (by decide) ?_
        refine ev_iconst 115 dX11_told_115 kI_0 ?_
        refine ev_ireturn 116 dX11_told_116 rfl rfl ?_
        rw [show tlA v l 4 c = 0 by simp [tlA, h_91, h_105]] at k
        exact k
    · refine ev_ifF 94 102 dX11_told_94 rfl (by decide) ?_
      refine ev_bipush 97 dX11_told_97 kB_m2 ?_
      refine ev_goto 99 116 dX11_told_99 rfl ?_
      refine ev_ireturn 116 dX11_told_116 rfl rfl ?_
      rw [show tlA v l 4 c = (-2) by simp [tlA, h_91]] at k
      exact k
  · refine ev_aload_n 0 dX11_told_0 rfl (by decide) ?_
    refine ev_iload_n 1 dX11_told_1 rfl ?_
    refine cv_11_118_11 (pc := 2) rfl dX11_told_2 kd_32 (Nat.le_of_ble_eq_true rfl) ?_
    refine c_X11_laneOf (n := n) hC.2.1 hC.1 (fun i hi hq => ?_) (fun hq => absurd (lane_in hC.2.1.1 hl) hq)
    obtain rfl : l = i := (nI_eq (by omega) (by omega)).mp hq
    refine ev_astore (ls' := [.ref 32, .int (nI l), .int 5, .int c, .ref (124 + l)]) 5 dX11_told_5 (Nat.le_of_ble_eq_true rfl) (by omega) rfl ?_
    refine ev_aload 7 dX11_told_7 rfl (by omega) ?_
    refine ev_ifnonnull 9 15 dX11_told_9 (by omega) rfl ?_
    refine ev_iload_n 15 dX11_told_15 rfl ?_
    refine ev_swIn 16 117 dX11_told_16 (by decide) rfl rfl ?_
    refine ev_iload_n 117 dX11_told_117 rfl ?_
    refine ev_iconst 118 dX11_told_118 kI_0 ?_
    refine ev_sipush 119 dX11_told_119 kS_9999 ?_
    refine cs_11_74 (pc := 122) rfl dX11_told_122 (Nat.le_of_ble_eq_true rfl) ?_
    refine c_X11_isIn (fun h_122 => ?_) (fun h_122 => ?_)
    · refine ev_ifF 125 137 dX11_told_125 rfl (by decide) ?_
      refine ev_aload 128 dX11_told_128 rfl (by omega) ?_
      refine ev_iload_n 130 dX11_told_130 rfl ?_
      refine vc_11_146 (pc := 131) rfl dX11_told_131 hC.2.1 (i := l) (by omega) rfl (Nat.le_of_ble_eq_true rfl) ?_
      refine ev_goto 134 139 dX11_told_134 rfl ?_
      refine ev_ireturn 139 dX11_told_139 rfl rfl ?_
      rw [show tlA v l 5 c = pCar v l c by simp [tlA, h_122]] at k
      exact k
    · refine ev_ifT 125 137 dX11_told_125 rfl (by decide) ?_
      refine ev_bipush 137 dX11_told_137 kB_m2 ?_
      refine ev_ireturn 139 dX11_told_139 rfl rfl ?_
      rw [show tlA v l 5 c = (-2) by simp [tlA, h_122]] at k
      exact k
theorem c_X12_told_1 {X : pmX} {d : Nat} {v : pmV} {P : Option Value → pmT → pmV → Prop} {LT : pmT} {n : Nat} {a b c : Int32} (hLn : cLan n LT v) (h2 : ¬ (0 ≤ a ∧ a ≤ nI n - 1)) (k : P (some (.int (-2))) (pmT0 ++ LT) v) : EvP X (d + 2) MX12_told 0 [.ref 100, .int a, .int b, .int c] [] (pmT0 ++ LT) v P := by
  refine ev_aload_n 0 dX12_told_0 rfl (by decide) ?_
  refine ev_iload_n 1 dX12_told_1 rfl ?_
  refine cv_12_53_12 (pc := 2) rfl dX12_told_2 kd_100 (Nat.le_of_ble_eq_true rfl) ?_
  refine c_X12_isLane hLn (fun h_2 => absurd h_2 h2) (fun h_2 => ?_)
  refine ev_ifF 5 11 dX12_told_5 rfl (by decide) ?_
  refine ev_bipush 8 dX12_told_8 kB_m2 ?_
  refine ev_ireturn 10 dX12_told_10 rfl rfl ?_
  exact k

theorem c_X12_told_2 {X : pmX} {d : Nat} {v : pmV} {P : Option Value → pmT → pmV → Prop} {LT : pmT} {n l : Nat} {b c : Int32} (hLn : cLan n LT v) (hl : l < n) (hb : ¬ (0 ≤ b ∧ b ≤ 5)) (k : P (some (.int (-2))) (pmT0 ++ LT) v) : EvP X (d + 2) MX12_told 0 [.ref 100, .int (nI l), .int b, .int c] [] (pmT0 ++ LT) v P := by
  refine ev_aload_n 0 dX12_told_0 rfl (by decide) ?_
  refine ev_iload_n 1 dX12_told_1 rfl ?_
  refine cv_12_53_12 (pc := 2) rfl dX12_told_2 kd_100 (Nat.le_of_ble_eq_true rfl) ?_
  refine c_X12_isLane hLn (fun h_2 => ?_) (fun h_2 => absurd (lane_in hLn.1 hl) h_2)
  refine ev_ifT 5 11 dX12_told_5 rfl (by decide) ?_
  refine ev_iload_n 11 dX12_told_11 rfl ?_
  refine ev_swOut 12 131 dX12_told_12 (sw_out (lo := 0) (hi := 5) rfl rfl hb) rfl ?_
  refine ev_bipush 131 dX12_told_131 kB_m2 ?_
  refine ev_ireturn 133 dX12_told_133 rfl rfl ?_
  exact k

theorem c_X12_told_ok {X : pmX} {d : Nat} {v : pmV} {P : Option Value → pmT → pmV → Prop} {LT : pmT} {e : pmV} {n tx z l q : Nat} {c : Int32} {g : Nat → Int32} {s : dT} {p : Int64} (hC : Cpl n tx z LT e) (hD : DM e n g s p v) (hl : l < n) (hq : q ≤ 5) (k : P (some (.int (tlA e l q c))) (pmT0 ++ LT) v) : EvP X (d + 2) MX12_told 0 [.ref 100, .int (nI l), .int (nI q), .int c] [] (pmT0 ++ LT) v P := by
  have hn8 := hC.2.1.1
  have hLn := hD.lan hC
  have : q = 0 ∨ q = 1 ∨ q = 2 ∨ q = 3 ∨ q = 4 ∨ q = 5 := by omega
  rcases this with rfl | rfl | rfl | rfl | rfl | rfl
  · refine ev_aload_n 0 dX12_told_0 rfl (by decide) ?_
    refine ev_iload_n 1 dX12_told_1 rfl ?_
    refine cv_12_53_12 (pc := 2) rfl dX12_told_2 kd_100 (Nat.le_of_ble_eq_true rfl) ?_
    refine c_X12_isLane hLn (fun h_2 => ?_) (fun h_2 => absurd (lane_in hn8 hl) h_2)
    refine ev_ifT 5 11 dX12_told_5 rfl (by decide) ?_
    refine ev_iload_n 11 dX12_told_11 rfl ?_
    refine ev_swIn 12 52 dX12_told_12 (by decide) rfl rfl ?_
    refine ev_aload_n 52 dX12_told_52 rfl (by decide) ?_
    refine gf_12_11 (pc := 53) rfl dX12_told_53 kd_100 (rf_100_5 hD.1) ?_
    refine ev_iload_n 56 dX12_told_56 rfl ?_
    refine ev_ialdJ (x := e.1 (124 + l) 0) (j := l) 57 dX12_told_57 (Nat.le_of_ble_eq_true rfl) ty_101 (pm_inI (by omega) (by omega)) (nI_clamp (by omega)) ((hD.c (by unfold DcA DcX; omega)).trans (hC.2.1.2.2.2.2 l (by omega)).2.2.1) ?_
    refine ev_ireturn 58 dX12_told_58 rfl rfl ?_
    exact k
  · refine ev_aload_n 0 dX12_told_0 rfl (by decide) ?_
    refine ev_iload_n 1 dX12_told_1 rfl ?_
    refine cv_12_53_12 (pc := 2) rfl dX12_told_2 kd_100 (Nat.le_of_ble_eq_true rfl) ?_
    refine c_X12_isLane hLn (fun h_2 => ?_) (fun h_2 => absurd (lane_in hn8 hl) h_2)
    refine ev_ifT 5 11 dX12_told_5 rfl (by decide) ?_
    refine ev_iload_n 11 dX12_told_11 rfl ?_
    refine ev_swIn 12 59 dX12_told_12 (by decide) rfl rfl ?_
    refine ev_aload_n 59 dX12_told_59 rfl (by decide) ?_
    refine gf_12_15 (pc := 60) rfl dX12_told_60 kd_100 (rf_100_6 hD.1) ?_
    refine ev_iload_n 63 dX12_told_63 rfl ?_
    refine ev_ialdJ (x := e.1 (124 + l) 1) (j := l) 64 dX12_told_64 (Nat.le_of_ble_eq_true rfl) ty_102 (pm_inI (by omega) (by omega)) (nI_clamp (by omega)) ((hD.c (by unfold DcA DcX; omega)).trans (hC.2.1.2.2.2.2 l (by omega)).2.2.2.1) ?_
    refine ev_ireturn 65 dX12_told_65 rfl rfl ?_
    exact k
  · refine ev_aload_n 0 dX12_told_0 rfl (by decide) ?_
    refine ev_iload_n 1 dX12_told_1 rfl ?_
    refine cv_12_53_12 (pc := 2) rfl dX12_told_2 kd_100 (Nat.le_of_ble_eq_true rfl) ?_
    refine c_X12_isLane hLn (fun h_2 => ?_) (fun h_2 => absurd (lane_in hn8 hl) h_2)
    refine ev_ifT 5 11 dX12_told_5 rfl (by decide) ?_
    refine ev_iload_n 11 dX12_told_11 rfl ?_
    refine ev_swIn 12 66 dX12_told_12 (by decide) rfl rfl ?_
    refine ev_aload_n 66 dX12_told_66 rfl (by decide) ?_
    refine gf_12_18 (pc := 67) rfl dX12_told_67 kd_100 (rf_100_7 hD.1) ?_
    refine ev_iload_n 70 dX12_told_70 rfl ?_
    refine ev_ialdJ (x := e.1 (124 + l) 2) (j := l) 71 dX12_told_71 (Nat.le_of_ble_eq_true rfl) ty_103 (pm_inI (by omega) (by omega)) (nI_clamp (by omega)) ((hD.c (by unfold DcA DcX; omega)).trans (hC.2.1.2.2.2.2 l (by omega)).2.2.2.2.1) ?_
    refine ev_ireturn 72 dX12_told_72 rfl rfl ?_
    exact k
  · refine ev_aload_n 0 dX12_told_0 rfl (by decide) ?_
    refine ev_iload_n 1 dX12_told_1 rfl ?_
    refine cv_12_53_12 (pc := 2) rfl dX12_told_2 kd_100 (Nat.le_of_ble_eq_true rfl) ?_
    refine c_X12_isLane hLn (fun h_2 => ?_) (fun h_2 => absurd (lane_in hn8 hl) h_2)
    refine ev_ifT 5 11 dX12_told_5 rfl (by decide) ?_
    refine ev_iload_n 11 dX12_told_11 rfl ?_
    refine ev_swIn 12 73 dX12_told_12 (by decide) rfl rfl ?_
    refine ev_aload_n 73 dX12_told_73 rfl (by decide) ?_
    refine ev_iload_n 74 dX12_told_74 rfl ?_
    refine cv_12_65_12 (pc := 75) rfl dX12_told_75 kd_100 (Nat.le_of_ble_eq_true rfl) ?_
    refine c_X12_restsOf (l := l) hC hD (by omega) ?_
    refine ev_ireturn 78 dX12_told_78 rfl rfl ?_
    exact k
  · refine ev_aload_n 0 dX12_told_0 rfl (by decide) ?_
    refine ev_iload_n 1 dX12_told_1 rfl ?_
    refine cv_12_53_12 (pc := 2) rfl dX12_told_2 kd_100 (Nat.le_of_ble_eq_true rfl) ?_
    refine c_X12_isLane hLn (fun h_2 => ?_) (fun h_2 => absurd (lane_in hn8 hl) h_2)
    refine ev_ifT 5 11 dX12_told_5 rfl (by decide) ?_
    refine ev_iload_n 11 dX12_told_11 rfl ?_
    refine ev_swIn 12 79 dX12_told_12 (by decide) rfl rfl ?_
    refine ev_aload_n 79 dX12_told_79 rfl (by decide) ?_
    refine ev_iload_n 80 dX12_told_80 rfl ?_
    refine cv_12_56_12 (pc := 81) rfl dX12_told_81 kd_100 (Nat.le_of_ble_eq_true rfl) ?_
    refine c_X12_isMinute (fun h_81 => ?_) (fun h_81 => ?_)
    · refine ev_ifT 84 92 dX12_told_84 rfl (by decide) ?_
      refine ev_aload_n 92 dX12_told_92 rfl (by decide) ?_
      refine ev_iload_n 93 dX12_told_93 rfl ?_
      refine ev_iload_n 94 dX12_told_94 rfl ?_
      refine cv_12_69_12 (pc := 95) rfl dX12_told_95 kd_100 (Nat.le_of_ble_eq_true rfl) ?_
      refine c_X12_mayTurn (l := l) hC hD (by omega) (fun h_95 => ?_) (fun h_95 => ?_)
      · refine ev_ifF 98 105 dX12_told_98 rfl (by decide) ?_
        refine ev_iconst 101 dX12_told_101 kI_1 ?_
        refine ev_goto 102 106 dX12_told_102 rfl ?_
        refine ev_ireturn 106 dX12_told_106 rfl rfl ?_
        rw [show tlA e l 4 c = 1 by simp [tlA, h_81, h_95]] at k
        exact k
      · refine ev_ifT 98 105 dX12_told_98 rfl (by decide) ?_
        refine ev_iconst 105 dX12_told_105 kI_0 ?_
        refine ev_ireturn 106 dX12_told_106 rfl rfl ?_
        rw [show tlA e l 4 c = 0 by simp [tlA, h_81, h_95]] at k
        exact k
    · refine ev_ifF 84 92 dX12_told_84 rfl (by decide) ?_
      refine ev_bipush 87 dX12_told_87 kB_m2 ?_
      refine ev_goto 89 106 dX12_told_89 rfl ?_
      refine ev_ireturn 106 dX12_told_106 rfl rfl ?_
      rw [show tlA e l 4 c = (-2) by simp [tlA, h_81]] at k
      exact k
  · refine ev_aload_n 0 dX12_told_0 rfl (by decide) ?_
    refine ev_iload_n 1 dX12_told_1 rfl ?_
    refine cv_12_53_12 (pc := 2) rfl dX12_told_2 kd_100 (Nat.le_of_ble_eq_true rfl) ?_
    refine c_X12_isLane hLn (fun h_2 => ?_) (fun h_2 => absurd (lane_in hn8 hl) h_2)
    refine ev_ifT 5 11 dX12_told_5 rfl (by decide) ?_
    refine ev_iload_n 11 dX12_told_11 rfl ?_
    refine ev_swIn 12 107 dX12_told_12 (by decide) rfl rfl ?_
    refine ev_aload_n 107 dX12_told_107 rfl (by decide) ?_
    refine ev_iload_n 108 dX12_told_108 rfl ?_
    refine ev_iconst 109 dX12_told_109 kI_0 ?_
    refine ev_sipush 110 dX12_told_110 kS_9999 ?_
    refine cv_12_7_12 (pc := 113) rfl dX12_told_113 kd_100 (Nat.le_of_ble_eq_true rfl) ?_
    refine c_X12_in (fun h_113 => ?_) (fun h_113 => ?_)
    · refine ev_ifF 116 128 dX12_told_116 rfl (by decide) ?_
      refine ev_aload_n 119 dX12_told_119 rfl (by decide) ?_
      refine ev_iload_n 120 dX12_told_120 rfl ?_
      refine ev_iload_n 121 dX12_told_121 rfl ?_
      refine cv_12_73_12 (pc := 122) rfl dX12_told_122 kd_100 (Nat.le_of_ble_eq_true rfl) ?_
      obtain ⟨a, rfl, _, ha⟩ := nI_rng (a := 0) (b := 9999) (by omega) (by omega) h_113
      refine c_X12_carries (l := l) (a := a) hC hD (by omega) (by omega) ?_
      refine ev_goto 125 130 dX12_told_125 rfl ?_
      refine ev_ireturn 130 dX12_told_130 rfl rfl ?_
      rw [show tlA e l 5 (nI a) = pCar e l (nI a) by simp [tlA, h_113]] at k
      exact k
    · refine ev_ifT 116 128 dX12_told_116 rfl (by decide) ?_
      refine ev_bipush 128 dX12_told_128 kB_m2 ?_
      refine ev_ireturn 130 dX12_told_130 rfl rfl ?_
      rw [show tlA e l 5 c = (-2) by simp [tlA, h_113]] at k
      exact k
theorem op_told {X : pmX} {d n tx z : Nat} {LT : pmT} {v : pmV} {a b c : Int32} (hC : Cpl n tx z LT v) : EvP X (d + 20) MX11_told 0 [.ref 32, .int a, .int b, .int c, pmJ] [] (pmT0 ++ LT) v (Aft X (d + 20) MX12_told [.ref 100, .int a, .int b, .int c]) := by
  obtain ⟨hX, hL, hS, hR, hI, hT, hTa, hSh, hF⟩ := id hC
  by_cases h2 : 0 ≤ a ∧ a ≤ nI n - 1
  · obtain ⟨l, hl, rfl⟩ := lane_ix hL.1 h2
    by_cases hb : 0 ≤ b ∧ b ≤ 5
    · obtain ⟨q, rfl, _, hq⟩ := nI_rng (a := 0) (b := 5) (by omega) (by omega) hb
      refine c_X11_told_ok (d := d + 10) hC hl hq ?_
      refine c_X12_told_ok (d := d + 18) hC (DM.any n hX dFr.rfl) hl hq ?_
      exact ⟨rfl, n, tx, z, LT, rfl, hC⟩
    · refine c_X11_told_2 (d := d + 10) hC hl hb ?_
      refine c_X12_told_2 (d := d + 18) hL hl hb ?_
      exact ⟨rfl, n, tx, z, LT, rfl, hC⟩
  · refine c_X11_told_1 (d := d + 10) hC h2 ?_
    refine c_X12_told_1 (d := d + 18) hL h2 ?_
    exact ⟨rfl, n, tx, z, LT, rfl, hC⟩
def pIs (K : Int32) (q : Nat) : Int32 := if q = 0 then 1 else if K = nI q then 1 else if q = 1 ∧ K = 3 then 1 else if q = 2 ∧ K = 4 then 1 else 0
def tkA (e : pmV) (l q : Nat) : Int32 := if pIs (pK e l) q = 1 then pNb e l else -13
theorem c_X11_isOfKind {X : pmX} {d : Nat} {v : pmV} {P : Option Value → pmT → pmV → Prop} {LT : pmT} {e : pmV} {n l q : Nat} (hL : cLan n LT e) (hl : l < n) (hq : q ≤ 5) (k : P (some (.int (pIs (pK e l) q))) (pmT0 ++ LT) v) : EvP X d MX11_isOfKind 0 [.ref (124 + l), .int (nI q)] [] (pmT0 ++ LT) v P := by
  have hkd := kd_lane hL hl
  rcases kd6 (hL.2.2.2.2 l hl).2.2.2.2.2.1 with h | h | h | h | h | h
  · rw [h] at hkd
    have : q = 0 ∨ q = 1 ∨ q = 2 ∨ q = 3 ∨ q = 4 ∨ q = 5 := by omega
    rcases this with rfl | rfl | rfl | rfl | rfl | rfl
    · refine ev_iload_n 0 dX11_isOfKind_0 rfl ?_
      refine ev_swOut 1 61 dX11_isOfKind_1 (by decide) rfl ?_
      refine ev_iconst 61 dX11_isOfKind_61 kI_1 ?_
      refine ev_ireturn 62 dX11_isOfKind_62 rfl rfl ?_
      rw [show pIs (pK e l) 0 = 1 by unfold pK; rw [h]; decide] at k
      exact k
    · refine ev_iload_n 0 dX11_isOfKind_0 rfl ?_
      refine ev_swIn 1 36 dX11_isOfKind_1 (by decide) rfl rfl ?_
      refine ev_aload_n 36 dX11_isOfKind_36 rfl (by omega) ?_
      refine ev_isN 37 dX11_isOfKind_37 rfl hkd (by decide) (by decide) (by decide) ?_
      refine ev_ireturn 40 dX11_isOfKind_40 rfl rfl ?_
      rw [show pIs (pK e l) 1 = 0 by unfold pK; rw [h]; decide] at k
      exact k
    · refine ev_iload_n 0 dX11_isOfKind_0 rfl ?_
      refine ev_swIn 1 41 dX11_isOfKind_1 (by decide) rfl rfl ?_
      refine ev_aload_n 41 dX11_isOfKind_41 rfl (by omega) ?_
      refine ev_isN 42 dX11_isOfKind_42 rfl hkd (by decide) (by decide) (by decide) ?_
      refine ev_ireturn 45 dX11_isOfKind_45 rfl rfl ?_
      rw [show pIs (pK e l) 2 = 0 by unfold pK; rw [h]; decide] at k
      exact k
    · refine ev_iload_n 0 dX11_isOfKind_0 rfl ?_
      refine ev_swIn 1 46 dX11_isOfKind_1 (by decide) rfl rfl ?_
      refine ev_aload_n 46 dX11_isOfKind_46 rfl (by omega) ?_
      refine ev_isN 47 dX11_isOfKind_47 rfl hkd (by decide) (by decide) (by decide) ?_
      refine ev_ireturn 50 dX11_isOfKind_50 rfl rfl ?_
      rw [show pIs (pK e l) 3 = 0 by unfold pK; rw [h]; decide] at k
      exact k
    · refine ev_iload_n 0 dX11_isOfKind_0 rfl ?_
      refine ev_swIn 1 51 dX11_isOfKind_1 (by decide) rfl rfl ?_
      refine ev_aload_n 51 dX11_isOfKind_51 rfl (by omega) ?_
      refine ev_isN 52 dX11_isOfKind_52 rfl hkd (by decide) (by decide) (by decide) ?_
      refine ev_ireturn 55 dX11_isOfKind_55 rfl rfl ?_
      rw [show pIs (pK e l) 4 = 0 by unfold pK; rw [h]; decide] at k
      exact k
    · refine ev_iload_n 0 dX11_isOfKind_0 rfl ?_
      refine ev_swIn 1 56 dX11_isOfKind_1 (by decide) rfl rfl ?_
      refine ev_aload_n 56 dX11_isOfKind_56 rfl (by omega) ?_
      refine ev_isN 57 dX11_isOfKind_57 rfl hkd (by decide) (by decide) (by decide) ?_
      refine ev_ireturn 60 dX11_isOfKind_60 rfl rfl ?_
      rw [show pIs (pK e l) 5 = 0 by unfold pK; rw [h]; decide] at k
      exact k
  · rw [h] at hkd
    have : q = 0 ∨ q = 1 ∨ q = 2 ∨ q = 3 ∨ q = 4 ∨ q = 5 := by omega
    rcases this with rfl | rfl | rfl | rfl | rfl | rfl
    · refine ev_iload_n 0 dX11_isOfKind_0 rfl ?_
      refine ev_swOut 1 61 dX11_isOfKind_1 (by decide) rfl ?_
      refine ev_iconst 61 dX11_isOfKind_61 kI_1 ?_
      refine ev_ireturn 62 dX11_isOfKind_62 rfl rfl ?_
      rw [show pIs (pK e l) 0 = 1 by unfold pK; rw [h]; decide] at k
      exact k
    · refine ev_iload_n 0 dX11_isOfKind_0 rfl ?_
      refine ev_swIn 1 36 dX11_isOfKind_1 (by decide) rfl rfl ?_
      refine ev_aload_n 36 dX11_isOfKind_36 rfl (by omega) ?_
      refine ev_isY 37 dX11_isOfKind_37 rfl hkd (by decide) (by decide) ?_
      refine ev_ireturn 40 dX11_isOfKind_40 rfl rfl ?_
      rw [show pIs (pK e l) 1 = 1 by unfold pK; rw [h]; decide] at k
      exact k
    · refine ev_iload_n 0 dX11_isOfKind_0 rfl ?_
      refine ev_swIn 1 41 dX11_isOfKind_1 (by decide) rfl rfl ?_
      refine ev_aload_n 41 dX11_isOfKind_41 rfl (by omega) ?_
      refine ev_isN 42 dX11_isOfKind_42 rfl hkd (by decide) (by decide) (by decide) ?_
      refine ev_ireturn 45 dX11_isOfKind_45 rfl rfl ?_
      rw [show pIs (pK e l) 2 = 0 by unfold pK; rw [h]; decide] at k
      exact k
    · refine ev_iload_n 0 dX11_isOfKind_0 rfl ?_
      refine ev_swIn 1 46 dX11_isOfKind_1 (by decide) rfl rfl ?_
      refine ev_aload_n 46 dX11_isOfKind_46 rfl (by omega) ?_
      refine ev_isN 47 dX11_isOfKind_47 rfl hkd (by decide) (by decide) (by decide) ?_
      refine ev_ireturn 50 dX11_isOfKind_50 rfl rfl ?_
      rw [show pIs (pK e l) 3 = 0 by unfold pK; rw [h]; decide] at k
      exact k
    · refine ev_iload_n 0 dX11_isOfKind_0 rfl ?_
      refine ev_swIn 1 51 dX11_isOfKind_1 (by decide) rfl rfl ?_
      refine ev_aload_n 51 dX11_isOfKind_51 rfl (by omega) ?_
      refine ev_isN 52 dX11_isOfKind_52 rfl hkd (by decide) (by decide) (by decide) ?_
      refine ev_ireturn 55 dX11_isOfKind_55 rfl rfl ?_
      rw [show pIs (pK e l) 4 = 0 by unfold pK; rw [h]; decide] at k
      exact k
    · refine ev_iload_n 0 dX11_isOfKind_0 rfl ?_
      refine ev_swIn 1 56 dX11_isOfKind_1 (by decide) rfl rfl ?_
      refine ev_aload_n 56 dX11_isOfKind_56 rfl (by omega) ?_
      refine ev_isN 57 dX11_isOfKind_57 rfl hkd (by decide) (by decide) (by decide) ?_
      refine ev_ireturn 60 dX11_isOfKind_60 rfl rfl ?_
      rw [show pIs (pK e l) 5 = 0 by unfold pK; rw [h]; decide] at k
      exact k
  · rw [h] at hkd
    have : q = 0 ∨ q = 1 ∨ q = 2 ∨ q = 3 ∨ q = 4 ∨ q = 5 := by omega
    rcases this with rfl | rfl | rfl | rfl | rfl | rfl
    · refine ev_iload_n 0 dX11_isOfKind_0 rfl ?_
      refine ev_swOut 1 61 dX11_isOfKind_1 (by decide) rfl ?_
      refine ev_iconst 61 dX11_isOfKind_61 kI_1 ?_
      refine ev_ireturn 62 dX11_isOfKind_62 rfl rfl ?_
      rw [show pIs (pK e l) 0 = 1 by unfold pK; rw [h]; decide] at k
      exact k
    · refine ev_iload_n 0 dX11_isOfKind_0 rfl ?_
      refine ev_swIn 1 36 dX11_isOfKind_1 (by decide) rfl rfl ?_
      refine ev_aload_n 36 dX11_isOfKind_36 rfl (by omega) ?_
      refine ev_isN 37 dX11_isOfKind_37 rfl hkd (by decide) (by decide) (by decide) ?_
      refine ev_ireturn 40 dX11_isOfKind_40 rfl rfl ?_
      rw [show pIs (pK e l) 1 = 0 by unfold pK; rw [h]; decide] at k
      exact k
    · refine ev_iload_n 0 dX11_isOfKind_0 rfl ?_
      refine ev_swIn 1 41 dX11_isOfKind_1 (by decide) rfl rfl ?_
      refine ev_aload_n 41 dX11_isOfKind_41 rfl (by omega) ?_
      refine ev_isY 42 dX11_isOfKind_42 rfl hkd (by decide) (by decide) ?_
      refine ev_ireturn 45 dX11_isOfKind_45 rfl rfl ?_
      rw [show pIs (pK e l) 2 = 1 by unfold pK; rw [h]; decide] at k
      exact k
    · refine ev_iload_n 0 dX11_isOfKind_0 rfl ?_
      refine ev_swIn 1 46 dX11_isOfKind_1 (by decide) rfl rfl ?_
      refine ev_aload_n 46 dX11_isOfKind_46 rfl (by omega) ?_
      refine ev_isN 47 dX11_isOfKind_47 rfl hkd (by decide) (by decide) (by decide) ?_
      refine ev_ireturn 50 dX11_isOfKind_50 rfl rfl ?_
      rw [show pIs (pK e l) 3 = 0 by unfold pK; rw [h]; decide] at k
      exact k
    · refine ev_iload_n 0 dX11_isOfKind_0 rfl ?_
      refine ev_swIn 1 51 dX11_isOfKind_1 (by decide) rfl rfl ?_
      refine ev_aload_n 51 dX11_isOfKind_51 rfl (by omega) ?_
      refine ev_isN 52 dX11_isOfKind_52 rfl hkd (by decide) (by decide) (by decide) ?_
      refine ev_ireturn 55 dX11_isOfKind_55 rfl rfl ?_
      rw [show pIs (pK e l) 4 = 0 by unfold pK; rw [h]; decide] at k
      exact k
    · refine ev_iload_n 0 dX11_isOfKind_0 rfl ?_
      refine ev_swIn 1 56 dX11_isOfKind_1 (by decide) rfl rfl ?_
      refine ev_aload_n 56 dX11_isOfKind_56 rfl (by omega) ?_
      refine ev_isN 57 dX11_isOfKind_57 rfl hkd (by decide) (by decide) (by decide) ?_
      refine ev_ireturn 60 dX11_isOfKind_60 rfl rfl ?_
      rw [show pIs (pK e l) 5 = 0 by unfold pK; rw [h]; decide] at k
      exact k
  · rw [h] at hkd
    have : q = 0 ∨ q = 1 ∨ q = 2 ∨ q = 3 ∨ q = 4 ∨ q = 5 := by omega
    rcases this with rfl | rfl | rfl | rfl | rfl | rfl
    · refine ev_iload_n 0 dX11_isOfKind_0 rfl ?_
      refine ev_swOut 1 61 dX11_isOfKind_1 (by decide) rfl ?_
      refine ev_iconst 61 dX11_isOfKind_61 kI_1 ?_
      refine ev_ireturn 62 dX11_isOfKind_62 rfl rfl ?_
      rw [show pIs (pK e l) 0 = 1 by unfold pK; rw [h]; decide] at k
      exact k
    · refine ev_iload_n 0 dX11_isOfKind_0 rfl ?_
      refine ev_swIn 1 36 dX11_isOfKind_1 (by decide) rfl rfl ?_
      refine ev_aload_n 36 dX11_isOfKind_36 rfl (by omega) ?_
      refine ev_isY 37 dX11_isOfKind_37 rfl hkd (by decide) (by decide) ?_
      refine ev_ireturn 40 dX11_isOfKind_40 rfl rfl ?_
      rw [show pIs (pK e l) 1 = 1 by unfold pK; rw [h]; decide] at k
      exact k
    · refine ev_iload_n 0 dX11_isOfKind_0 rfl ?_
      refine ev_swIn 1 41 dX11_isOfKind_1 (by decide) rfl rfl ?_
      refine ev_aload_n 41 dX11_isOfKind_41 rfl (by omega) ?_
      refine ev_isN 42 dX11_isOfKind_42 rfl hkd (by decide) (by decide) (by decide) ?_
      refine ev_ireturn 45 dX11_isOfKind_45 rfl rfl ?_
      rw [show pIs (pK e l) 2 = 0 by unfold pK; rw [h]; decide] at k
      exact k
    · refine ev_iload_n 0 dX11_isOfKind_0 rfl ?_
      refine ev_swIn 1 46 dX11_isOfKind_1 (by decide) rfl rfl ?_
      refine ev_aload_n 46 dX11_isOfKind_46 rfl (by omega) ?_
      refine ev_isY 47 dX11_isOfKind_47 rfl hkd (by decide) (by decide) ?_
      refine ev_ireturn 50 dX11_isOfKind_50 rfl rfl ?_
      rw [show pIs (pK e l) 3 = 1 by unfold pK; rw [h]; decide] at k
      exact k
    · refine ev_iload_n 0 dX11_isOfKind_0 rfl ?_
      refine ev_swIn 1 51 dX11_isOfKind_1 (by decide) rfl rfl ?_
      refine ev_aload_n 51 dX11_isOfKind_51 rfl (by omega) ?_
      refine ev_isN 52 dX11_isOfKind_52 rfl hkd (by decide) (by decide) (by decide) ?_
      refine ev_ireturn 55 dX11_isOfKind_55 rfl rfl ?_
      rw [show pIs (pK e l) 4 = 0 by unfold pK; rw [h]; decide] at k
      exact k
    · refine ev_iload_n 0 dX11_isOfKind_0 rfl ?_
      refine ev_swIn 1 56 dX11_isOfKind_1 (by decide) rfl rfl ?_
      refine ev_aload_n 56 dX11_isOfKind_56 rfl (by omega) ?_
      refine ev_isN 57 dX11_isOfKind_57 rfl hkd (by decide) (by decide) (by decide) ?_
      refine ev_ireturn 60 dX11_isOfKind_60 rfl rfl ?_
      rw [show pIs (pK e l) 5 = 0 by unfold pK; rw [h]; decide] at k
      exact k
  · rw [h] at hkd
    have : q = 0 ∨ q = 1 ∨ q = 2 ∨ q = 3 ∨ q = 4 ∨ q = 5 := by omega
    rcases this with rfl | rfl | rfl | rfl | rfl | rfl
    · refine ev_iload_n 0 dX11_isOfKind_0 rfl ?_
      refine ev_swOut 1 61 dX11_isOfKind_1 (by decide) rfl ?_
      refine ev_iconst 61 dX11_isOfKind_61 kI_1 ?_
      refine ev_ireturn 62 dX11_isOfKind_62 rfl rfl ?_
      rw [show pIs (pK e l) 0 = 1 by unfold pK; rw [h]; decide] at k
      exact k
    · refine ev_iload_n 0 dX11_isOfKind_0 rfl ?_
      refine ev_swIn 1 36 dX11_isOfKind_1 (by decide) rfl rfl ?_
      refine ev_aload_n 36 dX11_isOfKind_36 rfl (by omega) ?_
      refine ev_isN 37 dX11_isOfKind_37 rfl hkd (by decide) (by decide) (by decide) ?_
      refine ev_ireturn 40 dX11_isOfKind_40 rfl rfl ?_
      rw [show pIs (pK e l) 1 = 0 by unfold pK; rw [h]; decide] at k
      exact k
    · refine ev_iload_n 0 dX11_isOfKind_0 rfl ?_
      refine ev_swIn 1 41 dX11_isOfKind_1 (by decide) rfl rfl ?_
      refine ev_aload_n 41 dX11_isOfKind_41 rfl (by omega) ?_
      refine ev_isY 42 dX11_isOfKind_42 rfl hkd (by decide) (by decide) ?_
      refine ev_ireturn 45 dX11_isOfKind_45 rfl rfl ?_
      rw [show pIs (pK e l) 2 = 1 by unfold pK; rw [h]; decide] at k
      exact k
    · refine ev_iload_n 0 dX11_isOfKind_0 rfl ?_
      refine ev_swIn 1 46 dX11_isOfKind_1 (by decide) rfl rfl ?_
      refine ev_aload_n 46 dX11_isOfKind_46 rfl (by omega) ?_
      refine ev_isN 47 dX11_isOfKind_47 rfl hkd (by decide) (by decide) (by decide) ?_
      refine ev_ireturn 50 dX11_isOfKind_50 rfl rfl ?_
      rw [show pIs (pK e l) 3 = 0 by unfold pK; rw [h]; decide] at k
      exact k
    · refine ev_iload_n 0 dX11_isOfKind_0 rfl ?_
      refine ev_swIn 1 51 dX11_isOfKind_1 (by decide) rfl rfl ?_
      refine ev_aload_n 51 dX11_isOfKind_51 rfl (by omega) ?_
      refine ev_isY 52 dX11_isOfKind_52 rfl hkd (by decide) (by decide) ?_
      refine ev_ireturn 55 dX11_isOfKind_55 rfl rfl ?_
      rw [show pIs (pK e l) 4 = 1 by unfold pK; rw [h]; decide] at k
      exact k
    · refine ev_iload_n 0 dX11_isOfKind_0 rfl ?_
      refine ev_swIn 1 56 dX11_isOfKind_1 (by decide) rfl rfl ?_
      refine ev_aload_n 56 dX11_isOfKind_56 rfl (by omega) ?_
      refine ev_isN 57 dX11_isOfKind_57 rfl hkd (by decide) (by decide) (by decide) ?_
      refine ev_ireturn 60 dX11_isOfKind_60 rfl rfl ?_
      rw [show pIs (pK e l) 5 = 0 by unfold pK; rw [h]; decide] at k
      exact k
  · rw [h] at hkd
    have : q = 0 ∨ q = 1 ∨ q = 2 ∨ q = 3 ∨ q = 4 ∨ q = 5 := by omega
    rcases this with rfl | rfl | rfl | rfl | rfl | rfl
    · refine ev_iload_n 0 dX11_isOfKind_0 rfl ?_
      refine ev_swOut 1 61 dX11_isOfKind_1 (by decide) rfl ?_
      refine ev_iconst 61 dX11_isOfKind_61 kI_1 ?_
      refine ev_ireturn 62 dX11_isOfKind_62 rfl rfl ?_
      rw [show pIs (pK e l) 0 = 1 by unfold pK; rw [h]; decide] at k
      exact k
    · refine ev_iload_n 0 dX11_isOfKind_0 rfl ?_
      refine ev_swIn 1 36 dX11_isOfKind_1 (by decide) rfl rfl ?_
      refine ev_aload_n 36 dX11_isOfKind_36 rfl (by omega) ?_
      refine ev_isN 37 dX11_isOfKind_37 rfl hkd (by decide) (by decide) (by decide) ?_
      refine ev_ireturn 40 dX11_isOfKind_40 rfl rfl ?_
      rw [show pIs (pK e l) 1 = 0 by unfold pK; rw [h]; decide] at k
      exact k
    · refine ev_iload_n 0 dX11_isOfKind_0 rfl ?_
      refine ev_swIn 1 41 dX11_isOfKind_1 (by decide) rfl rfl ?_
      refine ev_aload_n 41 dX11_isOfKind_41 rfl (by omega) ?_
      refine ev_isN 42 dX11_isOfKind_42 rfl hkd (by decide) (by decide) (by decide) ?_
      refine ev_ireturn 45 dX11_isOfKind_45 rfl rfl ?_
      rw [show pIs (pK e l) 2 = 0 by unfold pK; rw [h]; decide] at k
      exact k
    · refine ev_iload_n 0 dX11_isOfKind_0 rfl ?_
      refine ev_swIn 1 46 dX11_isOfKind_1 (by decide) rfl rfl ?_
      refine ev_aload_n 46 dX11_isOfKind_46 rfl (by omega) ?_
      refine ev_isN 47 dX11_isOfKind_47 rfl hkd (by decide) (by decide) (by decide) ?_
      refine ev_ireturn 50 dX11_isOfKind_50 rfl rfl ?_
      rw [show pIs (pK e l) 3 = 0 by unfold pK; rw [h]; decide] at k
      exact k
    · refine ev_iload_n 0 dX11_isOfKind_0 rfl ?_
      refine ev_swIn 1 51 dX11_isOfKind_1 (by decide) rfl rfl ?_
      refine ev_aload_n 51 dX11_isOfKind_51 rfl (by omega) ?_
      refine ev_isN 52 dX11_isOfKind_52 rfl hkd (by decide) (by decide) (by decide) ?_
      refine ev_ireturn 55 dX11_isOfKind_55 rfl rfl ?_
      rw [show pIs (pK e l) 4 = 0 by unfold pK; rw [h]; decide] at k
      exact k
    · refine ev_iload_n 0 dX11_isOfKind_0 rfl ?_
      refine ev_swIn 1 56 dX11_isOfKind_1 (by decide) rfl rfl ?_
      refine ev_aload_n 56 dX11_isOfKind_56 rfl (by omega) ?_
      refine ev_isY 57 dX11_isOfKind_57 rfl hkd (by decide) (by decide) ?_
      refine ev_ireturn 60 dX11_isOfKind_60 rfl rfl ?_
      rw [show pIs (pK e l) 5 = 1 by unfold pK; rw [h]; decide] at k
      exact k
theorem pIs01 (K : Int32) (q : Nat) : pIs K q = 0 ∨ pIs K q = 1 := by
  unfold pIs
  split
  · exact Or.inr rfl
  · split
    · exact Or.inr rfl
    · split
      · exact Or.inr rfl
      · split
        · exact Or.inr rfl
        · exact Or.inl rfl
theorem c_X11_taken_1 {X : pmX} {d : Nat} {v : pmV} {P : Option Value → pmT → pmV → Prop} {LT : pmT} {a b : Int32} (hb : ¬ (0 ≤ b ∧ b ≤ 5)) (k : P (some (.int (-2))) (pmT0 ++ LT) v) : EvP X (d + 2) MX11_taken 0 [.ref 32, .int a, .int b, pmJ] [] (pmT0 ++ LT) v P := by
  refine ev_iload_n 0 dX11_taken_0 rfl ?_
  refine ev_iconst 1 dX11_taken_1 kI_0 ?_
  refine ev_iconst 2 dX11_taken_2 kI_5 ?_
  refine cs_11_74 (pc := 3) rfl dX11_taken_3 (Nat.le_of_ble_eq_true rfl) ?_
  refine c_X11_isIn (fun h_3 => absurd h_3 hb) (fun h_3 => ?_)
  refine ev_ifF 6 12 dX11_taken_6 rfl (by decide) ?_
  refine ev_bipush 9 dX11_taken_9 kB_m2 ?_
  refine ev_ireturn 11 dX11_taken_11 rfl rfl ?_
  exact k

theorem c_X11_taken_2 {X : pmX} {d : Nat} {v : pmV} {P : Option Value → pmT → pmV → Prop} {LT : pmT} {n tx z : Nat} {a b : Int32} (hC : Cpl n tx z LT v) (hb : 0 ≤ b ∧ b ≤ 5) (h2 : ¬ (0 ≤ a ∧ a ≤ nI n - 1)) (k : P (some (.int (-11))) (pmT0 ++ LT) v) : EvP X (d + 2) MX11_taken 0 [.ref 32, .int a, .int b, pmJ] [] (pmT0 ++ LT) v P := by
  refine ev_iload_n 0 dX11_taken_0 rfl ?_
  refine ev_iconst 1 dX11_taken_1 kI_0 ?_
  refine ev_iconst 2 dX11_taken_2 kI_5 ?_
  refine cs_11_74 (pc := 3) rfl dX11_taken_3 (Nat.le_of_ble_eq_true rfl) ?_
  refine c_X11_isIn (fun h_3 => ?_) (fun h_3 => absurd hb h_3)
  refine ev_ifT 6 12 dX11_taken_6 rfl (by decide) ?_
  refine ev_aload_n 12 dX11_taken_12 rfl (by decide) ?_
  refine ev_iload_n 13 dX11_taken_13 rfl ?_
  refine cv_11_118_11 (pc := 14) rfl dX11_taken_14 kd_32 (Nat.le_of_ble_eq_true rfl) ?_
  refine c_X11_laneOf (n := n) hC.2.1 hC.1 (fun i hi hq => absurd (hq ▸ lane_in hC.2.1.1 hi) h2) (fun _ => ?_)
  refine ev_astore_nN (ls' := [.ref 32, .int a, .int b, .null]) 17 dX11_taken_17 (Nat.le_of_ble_eq_true rfl) rfl ?_
  refine ev_aload_nN 18 dX11_taken_18 rfl ?_
  refine ev_ifnonnullN 19 dX11_taken_19 ?_
  refine ev_bipush 22 dX11_taken_22 kB_m11 ?_
  refine ev_ireturn 24 dX11_taken_24 rfl rfl ?_
  exact k

theorem c_X11_taken_ok {X : pmX} {d : Nat} {v : pmV} {P : Option Value → pmT → pmV → Prop} {LT : pmT} {n tx z l q : Nat} (hC : Cpl n tx z LT v) (hl : l < n) (hq5 : q ≤ 5) (hb : 0 ≤ nI q ∧ nI q ≤ 5) (k : P (some (.int (tkA v l q))) (pmT0 ++ LT) v) : EvP X (d + 2) MX11_taken 0 [.ref 32, .int (nI l), .int (nI q), pmJ] [] (pmT0 ++ LT) v P := by
  have hn8 := hC.2.1.1
  refine ev_iload_n 0 dX11_taken_0 rfl ?_
  refine ev_iconst 1 dX11_taken_1 kI_0 ?_
  refine ev_iconst 2 dX11_taken_2 kI_5 ?_
  refine cs_11_74 (pc := 3) rfl dX11_taken_3 (Nat.le_of_ble_eq_true rfl) ?_
  refine c_X11_isIn (fun h_3 => ?_) (fun h_3 => absurd hb h_3)
  refine ev_ifT 6 12 dX11_taken_6 rfl (by decide) ?_
  refine ev_aload_n 12 dX11_taken_12 rfl (by decide) ?_
  refine ev_iload_n 13 dX11_taken_13 rfl ?_
  refine cv_11_118_11 (pc := 14) rfl dX11_taken_14 kd_32 (Nat.le_of_ble_eq_true rfl) ?_
  refine c_X11_laneOf (n := n) hC.2.1 hC.1 (fun i hi hq => ?_) (fun hq => absurd (lane_in hC.2.1.1 hl) hq)
  obtain rfl : l = i := (nI_eq (by omega) (by omega)).mp hq
  refine ev_astore_n (ls' := [.ref 32, .int (nI l), .int (nI q), .ref (124 + l)]) 17 dX11_taken_17 (Nat.le_of_ble_eq_true rfl) (by omega) rfl ?_
  refine ev_aload_n 18 dX11_taken_18 rfl (by omega) ?_
  refine ev_ifnonnull 19 25 dX11_taken_19 (by omega) rfl ?_
  refine ev_aload_n 25 dX11_taken_25 rfl (by omega) ?_
  refine ev_iload_n 26 dX11_taken_26 rfl ?_
  refine cs_11_266 (pc := 27) rfl dX11_taken_27 (Nat.le_of_ble_eq_true rfl) ?_
  refine c_X11_isOfKind (e := v) (q := q) hC.2.1 hl hq5 ?_
  refine ev_if_eq 30 40 dX11_taken_30 rfl (fun c_30 => ?_) (fun c_30 => ?_)
  · refine ev_bipush 40 dX11_taken_40 kB_m13 ?_
    refine ev_ireturn 42 dX11_taken_42 rfl rfl ?_
    rw [show tkA v l q = -13 by unfold tkA; rw [if_neg (by rw [c_30]; decide)]] at k
    exact k
  · refine ev_aload_n 33 dX11_taken_33 rfl (by omega) ?_
    refine gl_11_131 (pc := 34) rfl dX11_taken_34 (kd_lane hC.2.1 (by omega)) kcl_mem ?_
    refine ev_goto 37 42 dX11_taken_37 rfl ?_
    refine ev_ireturn 42 dX11_taken_42 rfl rfl ?_
    rw [show tkA v l q = v.1 (124 + l) 1 by unfold tkA; rw [if_pos ((pIs01 _ _).resolve_left c_30)]; rfl] at k
    exact k

theorem c_X12_taken_1 {X : pmX} {d : Nat} {v : pmV} {P : Option Value → pmT → pmV → Prop} {LT : pmT} {a b : Int32} (hb : ¬ (0 ≤ b ∧ b ≤ 5)) (k : P (some (.int (-2))) (pmT0 ++ LT) v) : EvP X (d + 2) MX12_taken 0 [.ref 100, .int a, .int b, pmJ] [] (pmT0 ++ LT) v P := by
  refine ev_aload_n 0 dX12_taken_0 rfl (by decide) ?_
  refine ev_iload_n 1 dX12_taken_1 rfl ?_
  refine ev_iconst 2 dX12_taken_2 kI_0 ?_
  refine ev_iconst 3 dX12_taken_3 kI_5 ?_
  refine cv_12_7_12 (pc := 4) rfl dX12_taken_4 kd_100 (Nat.le_of_ble_eq_true rfl) ?_
  refine c_X12_in (fun h_4 => absurd h_4 hb) (fun h_4 => ?_)
  refine ev_ifF 7 13 dX12_taken_7 rfl (by decide) ?_
  refine ev_bipush 10 dX12_taken_10 kB_m2 ?_
  refine ev_ireturn 12 dX12_taken_12 rfl rfl ?_
  exact k

theorem c_X12_taken_2 {X : pmX} {d : Nat} {v : pmV} {P : Option Value → pmT → pmV → Prop} {LT : pmT} {n : Nat} {a b : Int32} (hLn : cLan n LT v) (hb : 0 ≤ b ∧ b ≤ 5) (h2 : ¬ (0 ≤ a ∧ a ≤ nI n - 1)) (k : P (some (.int (-11))) (pmT0 ++ LT) v) : EvP X (d + 2) MX12_taken 0 [.ref 100, .int a, .int b, pmJ] [] (pmT0 ++ LT) v P := by
  refine ev_aload_n 0 dX12_taken_0 rfl (by decide) ?_
  refine ev_iload_n 1 dX12_taken_1 rfl ?_
  refine ev_iconst 2 dX12_taken_2 kI_0 ?_
  refine ev_iconst 3 dX12_taken_3 kI_5 ?_
  refine cv_12_7_12 (pc := 4) rfl dX12_taken_4 kd_100 (Nat.le_of_ble_eq_true rfl) ?_
  refine c_X12_in (fun h_4 => ?_) (fun h_4 => absurd hb h_4)
  refine ev_ifT 7 13 dX12_taken_7 rfl (by decide) ?_
  refine ev_aload_n 13 dX12_taken_13 rfl (by decide) ?_
  refine ev_iload_n 14 dX12_taken_14 rfl ?_
  refine cv_12_53_12 (pc := 15) rfl dX12_taken_15 kd_100 (Nat.le_of_ble_eq_true rfl) ?_
  refine c_X12_isLane hLn (fun h_15 => absurd h_15 h2) (fun h_15 => ?_)
  refine ev_ifF 18 24 dX12_taken_18 rfl (by decide) ?_
  refine ev_bipush 21 dX12_taken_21 kB_m11 ?_
  refine ev_ireturn 23 dX12_taken_23 rfl rfl ?_
  exact k

theorem c_X12_taken_ok {X : pmX} {d : Nat} {v : pmV} {P : Option Value → pmT → pmV → Prop} {LT : pmT} {n l q : Nat} (hX : pmRf v) (hL : cLan n LT v) (hl : l < n) (hq : q ≤ 5) (k : P (some (.int (tkA v l q))) (pmT0 ++ LT) v) : EvP X (d + 2) MX12_taken 0 [.ref 100, .int (nI l), .int (nI q), pmJ] [] (pmT0 ++ LT) v P := by
  have hn8 := hL.1
  have hLn := hL
  rcases kd6 (hL.2.2.2.2 l hl).2.2.2.2.2.1 with h | h | h | h | h | h
  · have : q = 0 ∨ q = 1 ∨ q = 2 ∨ q = 3 ∨ q = 4 ∨ q = 5 := by omega
    rcases this with rfl | rfl | rfl | rfl | rfl | rfl
    · refine ev_aload_n 0 dX12_taken_0 rfl (by decide) ?_
      refine ev_iload_n 1 dX12_taken_1 rfl ?_
      refine ev_iconst 2 dX12_taken_2 kI_0 ?_
      refine ev_iconst 3 dX12_taken_3 kI_5 ?_
      refine cv_12_7_12 (pc := 4) rfl dX12_taken_4 kd_100 (Nat.le_of_ble_eq_true rfl) ?_
      refine c_X12_in (fun h_4 => ?_) (fun h_4 => absurd (show (0 : Int32) ≤ 0 ∧ (0 : Int32) ≤ 5 by decide) h_4)
      refine ev_ifT 7 13 dX12_taken_7 rfl (by decide) ?_
      refine ev_aload_n 13 dX12_taken_13 rfl (by decide) ?_
      refine ev_iload_n 14 dX12_taken_14 rfl ?_
      refine cv_12_53_12 (pc := 15) rfl dX12_taken_15 kd_100 (Nat.le_of_ble_eq_true rfl) ?_
      refine c_X12_isLane hLn (fun h_15 => ?_) (fun h_15 => absurd (lane_in hn8 hl) h_15)
      refine ev_ifT 18 24 dX12_taken_18 rfl (by decide) ?_
      refine ev_aload_n 24 dX12_taken_24 rfl (by decide) ?_
      refine gf_12_11 (pc := 25) rfl dX12_taken_25 kd_100 (rf_100_5 hX) ?_
      refine ev_iload_n 28 dX12_taken_28 rfl ?_
      refine ev_ialdJ (x := 0) (j := l) 29 dX12_taken_29 (Nat.le_of_ble_eq_true rfl) ty_101 (pm_inI (by omega) (by omega)) (nI_clamp (by omega)) ((hL.2.2.2.2 l hl).2.2.1.trans h) ?_
      refine ev_istore_n (ls' := [.ref 100, .int (nI l), .int 0, .int 0]) 30 dX12_taken_30 (Nat.le_of_ble_eq_true rfl) rfl ?_
      refine ev_iload_n 31 dX12_taken_31 rfl ?_
      refine ev_ifT 32 60 dX12_taken_32 rfl (by decide) ?_
      refine ev_aload_n 60 dX12_taken_60 rfl (by decide) ?_
      refine gf_12_15 (pc := 61) rfl dX12_taken_61 kd_100 (rf_100_6 hX) ?_
      refine ev_iload_n 64 dX12_taken_64 rfl ?_
      refine ev_ialdJ (x := pNb v l) (j := l) 65 dX12_taken_65 (Nat.le_of_ble_eq_true rfl) ty_102 (pm_inI (by omega) (by omega)) (nI_clamp (by omega)) (hL.2.2.2.2 l hl).2.2.2.1 ?_
      refine ev_goto 66 71 dX12_taken_66 rfl ?_
      refine ev_ireturn 71 dX12_taken_71 rfl rfl ?_
      rw [show tkA v l 0 = pNb v l by unfold tkA pK; rw [h]; exact if_pos (by decide)] at k
      exact k
    · refine ev_aload_n 0 dX12_taken_0 rfl (by decide) ?_
      refine ev_iload_n 1 dX12_taken_1 rfl ?_
      refine ev_iconst 2 dX12_taken_2 kI_0 ?_
      refine ev_iconst 3 dX12_taken_3 kI_5 ?_
      refine cv_12_7_12 (pc := 4) rfl dX12_taken_4 kd_100 (Nat.le_of_ble_eq_true rfl) ?_
      refine c_X12_in (fun h_4 => ?_) (fun h_4 => absurd (show (0 : Int32) ≤ 1 ∧ (1 : Int32) ≤ 5 by decide) h_4)
      refine ev_ifT 7 13 dX12_taken_7 rfl (by decide) ?_
      refine ev_aload_n 13 dX12_taken_13 rfl (by decide) ?_
      refine ev_iload_n 14 dX12_taken_14 rfl ?_
      refine cv_12_53_12 (pc := 15) rfl dX12_taken_15 kd_100 (Nat.le_of_ble_eq_true rfl) ?_
      refine c_X12_isLane hLn (fun h_15 => ?_) (fun h_15 => absurd (lane_in hn8 hl) h_15)
      refine ev_ifT 18 24 dX12_taken_18 rfl (by decide) ?_
      refine ev_aload_n 24 dX12_taken_24 rfl (by decide) ?_
      refine gf_12_11 (pc := 25) rfl dX12_taken_25 kd_100 (rf_100_5 hX) ?_
      refine ev_iload_n 28 dX12_taken_28 rfl ?_
      refine ev_ialdJ (x := 0) (j := l) 29 dX12_taken_29 (Nat.le_of_ble_eq_true rfl) ty_101 (pm_inI (by omega) (by omega)) (nI_clamp (by omega)) ((hL.2.2.2.2 l hl).2.2.1.trans h) ?_
      refine ev_istore_n (ls' := [.ref 100, .int (nI l), .int 1, .int 0]) 30 dX12_taken_30 (Nat.le_of_ble_eq_true rfl) rfl ?_
      refine ev_iload_n 31 dX12_taken_31 rfl ?_
      refine ev_ifF 32 60 dX12_taken_32 rfl (by decide) ?_
      refine ev_iload_n 35 dX12_taken_35 rfl ?_
      refine ev_iload_n 36 dX12_taken_36 rfl ?_
      refine ev_icF 37 60 dX12_taken_37 rfl (by decide) ?_
      refine ev_iload_n 40 dX12_taken_40 rfl ?_
      refine ev_iconst 41 dX12_taken_41 kI_1 ?_
      refine ev_icF 42 50 dX12_taken_42 rfl (by decide) ?_
      refine ev_iload_n 45 dX12_taken_45 rfl ?_
      refine ev_iconst 46 dX12_taken_46 kI_3 ?_
      refine ev_icF 47 60 dX12_taken_47 rfl (by decide) ?_
      refine ev_iload_n 50 dX12_taken_50 rfl ?_
      refine ev_iconst 51 dX12_taken_51 kI_2 ?_
      refine ev_icT 52 69 dX12_taken_52 rfl (by decide) ?_
      refine ev_bipush 69 dX12_taken_69 kB_m13 ?_
      refine ev_ireturn 71 dX12_taken_71 rfl rfl ?_
      rw [show tkA v l 1 = (-13) by unfold tkA pK; rw [h]; exact if_neg (by decide)] at k
      exact k
    · refine ev_aload_n 0 dX12_taken_0 rfl (by decide) ?_
      refine ev_iload_n 1 dX12_taken_1 rfl ?_
      refine ev_iconst 2 dX12_taken_2 kI_0 ?_
      refine ev_iconst 3 dX12_taken_3 kI_5 ?_
      refine cv_12_7_12 (pc := 4) rfl dX12_taken_4 kd_100 (Nat.le_of_ble_eq_true rfl) ?_
      refine c_X12_in (fun h_4 => ?_) (fun h_4 => absurd (show (0 : Int32) ≤ 2 ∧ (2 : Int32) ≤ 5 by decide) h_4)
      refine ev_ifT 7 13 dX12_taken_7 rfl (by decide) ?_
      refine ev_aload_n 13 dX12_taken_13 rfl (by decide) ?_
      refine ev_iload_n 14 dX12_taken_14 rfl ?_
      refine cv_12_53_12 (pc := 15) rfl dX12_taken_15 kd_100 (Nat.le_of_ble_eq_true rfl) ?_
      refine c_X12_isLane hLn (fun h_15 => ?_) (fun h_15 => absurd (lane_in hn8 hl) h_15)
      refine ev_ifT 18 24 dX12_taken_18 rfl (by decide) ?_
      refine ev_aload_n 24 dX12_taken_24 rfl (by decide) ?_
      refine gf_12_11 (pc := 25) rfl dX12_taken_25 kd_100 (rf_100_5 hX) ?_
      refine ev_iload_n 28 dX12_taken_28 rfl ?_
      refine ev_ialdJ (x := 0) (j := l) 29 dX12_taken_29 (Nat.le_of_ble_eq_true rfl) ty_101 (pm_inI (by omega) (by omega)) (nI_clamp (by omega)) ((hL.2.2.2.2 l hl).2.2.1.trans h) ?_
      refine ev_istore_n (ls' := [.ref 100, .int (nI l), .int 2, .int 0]) 30 dX12_taken_30 (Nat.le_of_ble_eq_true rfl) rfl ?_
      refine ev_iload_n 31 dX12_taken_31 rfl ?_
      refine ev_ifF 32 60 dX12_taken_32 rfl (by decide) ?_
      refine ev_iload_n 35 dX12_taken_35 rfl ?_
      refine ev_iload_n 36 dX12_taken_36 rfl ?_
      refine ev_icF 37 60 dX12_taken_37 rfl (by decide) ?_
      refine ev_iload_n 40 dX12_taken_40 rfl ?_
      refine ev_iconst 41 dX12_taken_41 kI_1 ?_
      refine ev_icT 42 50 dX12_taken_42 rfl (by decide) ?_
      refine ev_iload_n 50 dX12_taken_50 rfl ?_
      refine ev_iconst 51 dX12_taken_51 kI_2 ?_
      refine ev_icF 52 69 dX12_taken_52 rfl (by decide) ?_
      refine ev_iload_n 55 dX12_taken_55 rfl ?_
      refine ev_iconst 56 dX12_taken_56 kI_4 ?_
      refine ev_icT 57 69 dX12_taken_57 rfl (by decide) ?_
      refine ev_bipush 69 dX12_taken_69 kB_m13 ?_
      refine ev_ireturn 71 dX12_taken_71 rfl rfl ?_
      rw [show tkA v l 2 = (-13) by unfold tkA pK; rw [h]; exact if_neg (by decide)] at k
      exact k
    · refine ev_aload_n 0 dX12_taken_0 rfl (by decide) ?_
      refine ev_iload_n 1 dX12_taken_1 rfl ?_
      refine ev_iconst 2 dX12_taken_2 kI_0 ?_
      refine ev_iconst 3 dX12_taken_3 kI_5 ?_
      refine cv_12_7_12 (pc := 4) rfl dX12_taken_4 kd_100 (Nat.le_of_ble_eq_true rfl) ?_
      refine c_X12_in (fun h_4 => ?_) (fun h_4 => absurd (show (0 : Int32) ≤ 3 ∧ (3 : Int32) ≤ 5 by decide) h_4)
      refine ev_ifT 7 13 dX12_taken_7 rfl (by decide) ?_
      refine ev_aload_n 13 dX12_taken_13 rfl (by decide) ?_
      refine ev_iload_n 14 dX12_taken_14 rfl ?_
      refine cv_12_53_12 (pc := 15) rfl dX12_taken_15 kd_100 (Nat.le_of_ble_eq_true rfl) ?_
      refine c_X12_isLane hLn (fun h_15 => ?_) (fun h_15 => absurd (lane_in hn8 hl) h_15)
      refine ev_ifT 18 24 dX12_taken_18 rfl (by decide) ?_
      refine ev_aload_n 24 dX12_taken_24 rfl (by decide) ?_
      refine gf_12_11 (pc := 25) rfl dX12_taken_25 kd_100 (rf_100_5 hX) ?_
      refine ev_iload_n 28 dX12_taken_28 rfl ?_
      refine ev_ialdJ (x := 0) (j := l) 29 dX12_taken_29 (Nat.le_of_ble_eq_true rfl) ty_101 (pm_inI (by omega) (by omega)) (nI_clamp (by omega)) ((hL.2.2.2.2 l hl).2.2.1.trans h) ?_
      refine ev_istore_n (ls' := [.ref 100, .int (nI l), .int 3, .int 0]) 30 dX12_taken_30 (Nat.le_of_ble_eq_true rfl) rfl ?_
      refine ev_iload_n 31 dX12_taken_31 rfl ?_
      refine ev_ifF 32 60 dX12_taken_32 rfl (by decide) ?_
      refine ev_iload_n 35 dX12_taken_35 rfl ?_
      refine ev_iload_n 36 dX12_taken_36 rfl ?_
      refine ev_icF 37 60 dX12_taken_37 rfl (by decide) ?_
      refine ev_iload_n 40 dX12_taken_40 rfl ?_
      refine ev_iconst 41 dX12_taken_41 kI_1 ?_
      refine ev_icT 42 50 dX12_taken_42 rfl (by decide) ?_
      refine ev_iload_n 50 dX12_taken_50 rfl ?_
      refine ev_iconst 51 dX12_taken_51 kI_2 ?_
      refine ev_icT 52 69 dX12_taken_52 rfl (by decide) ?_
      refine ev_bipush 69 dX12_taken_69 kB_m13 ?_
      refine ev_ireturn 71 dX12_taken_71 rfl rfl ?_
      rw [show tkA v l 3 = (-13) by unfold tkA pK; rw [h]; exact if_neg (by decide)] at k
      exact k
    · refine ev_aload_n 0 dX12_taken_0 rfl (by decide) ?_
      refine ev_iload_n 1 dX12_taken_1 rfl ?_
      refine ev_iconst 2 dX12_taken_2 kI_0 ?_
      refine ev_iconst 3 dX12_taken_3 kI_5 ?_
      refine cv_12_7_12 (pc := 4) rfl dX12_taken_4 kd_100 (Nat.le_of_ble_eq_true rfl) ?_
      refine c_X12_in (fun h_4 => ?_) (fun h_4 => absurd (show (0 : Int32) ≤ 4 ∧ (4 : Int32) ≤ 5 by decide) h_4)
      refine ev_ifT 7 13 dX12_taken_7 rfl (by decide) ?_
      refine ev_aload_n 13 dX12_taken_13 rfl (by decide) ?_
      refine ev_iload_n 14 dX12_taken_14 rfl ?_
      refine cv_12_53_12 (pc := 15) rfl dX12_taken_15 kd_100 (Nat.le_of_ble_eq_true rfl) ?_
      refine c_X12_isLane hLn (fun h_15 => ?_) (fun h_15 => absurd (lane_in hn8 hl) h_15)
      refine ev_ifT 18 24 dX12_taken_18 rfl (by decide) ?_
      refine ev_aload_n 24 dX12_taken_24 rfl (by decide) ?_
      refine gf_12_11 (pc := 25) rfl dX12_taken_25 kd_100 (rf_100_5 hX) ?_
      refine ev_iload_n 28 dX12_taken_28 rfl ?_
      refine ev_ialdJ (x := 0) (j := l) 29 dX12_taken_29 (Nat.le_of_ble_eq_true rfl) ty_101 (pm_inI (by omega) (by omega)) (nI_clamp (by omega)) ((hL.2.2.2.2 l hl).2.2.1.trans h) ?_
      refine ev_istore_n (ls' := [.ref 100, .int (nI l), .int 4, .int 0]) 30 dX12_taken_30 (Nat.le_of_ble_eq_true rfl) rfl ?_
      refine ev_iload_n 31 dX12_taken_31 rfl ?_
      refine ev_ifF 32 60 dX12_taken_32 rfl (by decide) ?_
      refine ev_iload_n 35 dX12_taken_35 rfl ?_
      refine ev_iload_n 36 dX12_taken_36 rfl ?_
      refine ev_icF 37 60 dX12_taken_37 rfl (by decide) ?_
      refine ev_iload_n 40 dX12_taken_40 rfl ?_
      refine ev_iconst 41 dX12_taken_41 kI_1 ?_
      refine ev_icT 42 50 dX12_taken_42 rfl (by decide) ?_
      refine ev_iload_n 50 dX12_taken_50 rfl ?_
      refine ev_iconst 51 dX12_taken_51 kI_2 ?_
      refine ev_icT 52 69 dX12_taken_52 rfl (by decide) ?_
      refine ev_bipush 69 dX12_taken_69 kB_m13 ?_
      refine ev_ireturn 71 dX12_taken_71 rfl rfl ?_
      rw [show tkA v l 4 = (-13) by unfold tkA pK; rw [h]; exact if_neg (by decide)] at k
      exact k
    · refine ev_aload_n 0 dX12_taken_0 rfl (by decide) ?_
      refine ev_iload_n 1 dX12_taken_1 rfl ?_
      refine ev_iconst 2 dX12_taken_2 kI_0 ?_
      refine ev_iconst 3 dX12_taken_3 kI_5 ?_
      refine cv_12_7_12 (pc := 4) rfl dX12_taken_4 kd_100 (Nat.le_of_ble_eq_true rfl) ?_
      refine c_X12_in (fun h_4 => ?_) (fun h_4 => absurd (show (0 : Int32) ≤ 5 ∧ (5 : Int32) ≤ 5 by decide) h_4)
      refine ev_ifT 7 13 dX12_taken_7 rfl (by decide) ?_
      refine ev_aload_n 13 dX12_taken_13 rfl (by decide) ?_
      refine ev_iload_n 14 dX12_taken_14 rfl ?_
      refine cv_12_53_12 (pc := 15) rfl dX12_taken_15 kd_100 (Nat.le_of_ble_eq_true rfl) ?_
      refine c_X12_isLane hLn (fun h_15 => ?_) (fun h_15 => absurd (lane_in hn8 hl) h_15)
      refine ev_ifT 18 24 dX12_taken_18 rfl (by decide) ?_
      refine ev_aload_n 24 dX12_taken_24 rfl (by decide) ?_
      refine gf_12_11 (pc := 25) rfl dX12_taken_25 kd_100 (rf_100_5 hX) ?_
      refine ev_iload_n 28 dX12_taken_28 rfl ?_
      refine ev_ialdJ (x := 0) (j := l) 29 dX12_taken_29 (Nat.le_of_ble_eq_true rfl) ty_101 (pm_inI (by omega) (by omega)) (nI_clamp (by omega)) ((hL.2.2.2.2 l hl).2.2.1.trans h) ?_
      refine ev_istore_n (ls' := [.ref 100, .int (nI l), .int 5, .int 0]) 30 dX12_taken_30 (Nat.le_of_ble_eq_true rfl) rfl ?_
      refine ev_iload_n 31 dX12_taken_31 rfl ?_
      refine ev_ifF 32 60 dX12_taken_32 rfl (by decide) ?_
      refine ev_iload_n 35 dX12_taken_35 rfl ?_
      refine ev_iload_n 36 dX12_taken_36 rfl ?_
      refine ev_icF 37 60 dX12_taken_37 rfl (by decide) ?_
      refine ev_iload_n 40 dX12_taken_40 rfl ?_
      refine ev_iconst 41 dX12_taken_41 kI_1 ?_
      refine ev_icT 42 50 dX12_taken_42 rfl (by decide) ?_
      refine ev_iload_n 50 dX12_taken_50 rfl ?_
      refine ev_iconst 51 dX12_taken_51 kI_2 ?_
      refine ev_icT 52 69 dX12_taken_52 rfl (by decide) ?_
      refine ev_bipush 69 dX12_taken_69 kB_m13 ?_
      refine ev_ireturn 71 dX12_taken_71 rfl rfl ?_
      rw [show tkA v l 5 = (-13) by unfold tkA pK; rw [h]; exact if_neg (by decide)] at k
      exact k
  · have : q = 0 ∨ q = 1 ∨ q = 2 ∨ q = 3 ∨ q = 4 ∨ q = 5 := by omega
    rcases this with rfl | rfl | rfl | rfl | rfl | rfl
    · refine ev_aload_n 0 dX12_taken_0 rfl (by decide) ?_
      refine ev_iload_n 1 dX12_taken_1 rfl ?_
      refine ev_iconst 2 dX12_taken_2 kI_0 ?_
      refine ev_iconst 3 dX12_taken_3 kI_5 ?_
      refine cv_12_7_12 (pc := 4) rfl dX12_taken_4 kd_100 (Nat.le_of_ble_eq_true rfl) ?_
      refine c_X12_in (fun h_4 => ?_) (fun h_4 => absurd (show (0 : Int32) ≤ 0 ∧ (0 : Int32) ≤ 5 by decide) h_4)
      refine ev_ifT 7 13 dX12_taken_7 rfl (by decide) ?_
      refine ev_aload_n 13 dX12_taken_13 rfl (by decide) ?_
      refine ev_iload_n 14 dX12_taken_14 rfl ?_
      refine cv_12_53_12 (pc := 15) rfl dX12_taken_15 kd_100 (Nat.le_of_ble_eq_true rfl) ?_
      refine c_X12_isLane hLn (fun h_15 => ?_) (fun h_15 => absurd (lane_in hn8 hl) h_15)
      refine ev_ifT 18 24 dX12_taken_18 rfl (by decide) ?_
      refine ev_aload_n 24 dX12_taken_24 rfl (by decide) ?_
      refine gf_12_11 (pc := 25) rfl dX12_taken_25 kd_100 (rf_100_5 hX) ?_
      refine ev_iload_n 28 dX12_taken_28 rfl ?_
      refine ev_ialdJ (x := 1) (j := l) 29 dX12_taken_29 (Nat.le_of_ble_eq_true rfl) ty_101 (pm_inI (by omega) (by omega)) (nI_clamp (by omega)) ((hL.2.2.2.2 l hl).2.2.1.trans h) ?_
      refine ev_istore_n (ls' := [.ref 100, .int (nI l), .int 0, .int 1]) 30 dX12_taken_30 (Nat.le_of_ble_eq_true rfl) rfl ?_
      refine ev_iload_n 31 dX12_taken_31 rfl ?_
      refine ev_ifT 32 60 dX12_taken_32 rfl (by decide) ?_
      refine ev_aload_n 60 dX12_taken_60 rfl (by decide) ?_
      refine gf_12_15 (pc := 61) rfl dX12_taken_61 kd_100 (rf_100_6 hX) ?_
      refine ev_iload_n 64 dX12_taken_64 rfl ?_
      refine ev_ialdJ (x := pNb v l) (j := l) 65 dX12_taken_65 (Nat.le_of_ble_eq_true rfl) ty_102 (pm_inI (by omega) (by omega)) (nI_clamp (by omega)) (hL.2.2.2.2 l hl).2.2.2.1 ?_
      refine ev_goto 66 71 dX12_taken_66 rfl ?_
      refine ev_ireturn 71 dX12_taken_71 rfl rfl ?_
      rw [show tkA v l 0 = pNb v l by unfold tkA pK; rw [h]; exact if_pos (by decide)] at k
      exact k
    · refine ev_aload_n 0 dX12_taken_0 rfl (by decide) ?_
      refine ev_iload_n 1 dX12_taken_1 rfl ?_
      refine ev_iconst 2 dX12_taken_2 kI_0 ?_
      refine ev_iconst 3 dX12_taken_3 kI_5 ?_
      refine cv_12_7_12 (pc := 4) rfl dX12_taken_4 kd_100 (Nat.le_of_ble_eq_true rfl) ?_
      refine c_X12_in (fun h_4 => ?_) (fun h_4 => absurd (show (0 : Int32) ≤ 1 ∧ (1 : Int32) ≤ 5 by decide) h_4)
      refine ev_ifT 7 13 dX12_taken_7 rfl (by decide) ?_
      refine ev_aload_n 13 dX12_taken_13 rfl (by decide) ?_
      refine ev_iload_n 14 dX12_taken_14 rfl ?_
      refine cv_12_53_12 (pc := 15) rfl dX12_taken_15 kd_100 (Nat.le_of_ble_eq_true rfl) ?_
      refine c_X12_isLane hLn (fun h_15 => ?_) (fun h_15 => absurd (lane_in hn8 hl) h_15)
      refine ev_ifT 18 24 dX12_taken_18 rfl (by decide) ?_
      refine ev_aload_n 24 dX12_taken_24 rfl (by decide) ?_
      refine gf_12_11 (pc := 25) rfl dX12_taken_25 kd_100 (rf_100_5 hX) ?_
      refine ev_iload_n 28 dX12_taken_28 rfl ?_
      refine ev_ialdJ (x := 1) (j := l) 29 dX12_taken_29 (Nat.le_of_ble_eq_true rfl) ty_101 (pm_inI (by omega) (by omega)) (nI_clamp (by omega)) ((hL.2.2.2.2 l hl).2.2.1.trans h) ?_
      refine ev_istore_n (ls' := [.ref 100, .int (nI l), .int 1, .int 1]) 30 dX12_taken_30 (Nat.le_of_ble_eq_true rfl) rfl ?_
      refine ev_iload_n 31 dX12_taken_31 rfl ?_
      refine ev_ifF 32 60 dX12_taken_32 rfl (by decide) ?_
      refine ev_iload_n 35 dX12_taken_35 rfl ?_
      refine ev_iload_n 36 dX12_taken_36 rfl ?_
      refine ev_icT 37 60 dX12_taken_37 rfl (by decide) ?_
      refine ev_aload_n 60 dX12_taken_60 rfl (by decide) ?_
      refine gf_12_15 (pc := 61) rfl dX12_taken_61 kd_100 (rf_100_6 hX) ?_
      refine ev_iload_n 64 dX12_taken_64 rfl ?_
      refine ev_ialdJ (x := pNb v l) (j := l) 65 dX12_taken_65 (Nat.le_of_ble_eq_true rfl) ty_102 (pm_inI (by omega) (by omega)) (nI_clamp (by omega)) (hL.2.2.2.2 l hl).2.2.2.1 ?_
      refine ev_goto 66 71 dX12_taken_66 rfl ?_
      refine ev_ireturn 71 dX12_taken_71 rfl rfl ?_
      rw [show tkA v l 1 = pNb v l by unfold tkA pK; rw [h]; exact if_pos (by decide)] at k
      exact k
    · refine ev_aload_n 0 dX12_taken_0 rfl (by decide) ?_
      refine ev_iload_n 1 dX12_taken_1 rfl ?_
      refine ev_iconst 2 dX12_taken_2 kI_0 ?_
      refine ev_iconst 3 dX12_taken_3 kI_5 ?_
      refine cv_12_7_12 (pc := 4) rfl dX12_taken_4 kd_100 (Nat.le_of_ble_eq_true rfl) ?_
      refine c_X12_in (fun h_4 => ?_) (fun h_4 => absurd (show (0 : Int32) ≤ 2 ∧ (2 : Int32) ≤ 5 by decide) h_4)
      refine ev_ifT 7 13 dX12_taken_7 rfl (by decide) ?_
      refine ev_aload_n 13 dX12_taken_13 rfl (by decide) ?_
      refine ev_iload_n 14 dX12_taken_14 rfl ?_
      refine cv_12_53_12 (pc := 15) rfl dX12_taken_15 kd_100 (Nat.le_of_ble_eq_true rfl) ?_
      refine c_X12_isLane hLn (fun h_15 => ?_) (fun h_15 => absurd (lane_in hn8 hl) h_15)
      refine ev_ifT 18 24 dX12_taken_18 rfl (by decide) ?_
      refine ev_aload_n 24 dX12_taken_24 rfl (by decide) ?_
      refine gf_12_11 (pc := 25) rfl dX12_taken_25 kd_100 (rf_100_5 hX) ?_
      refine ev_iload_n 28 dX12_taken_28 rfl ?_
      refine ev_ialdJ (x := 1) (j := l) 29 dX12_taken_29 (Nat.le_of_ble_eq_true rfl) ty_101 (pm_inI (by omega) (by omega)) (nI_clamp (by omega)) ((hL.2.2.2.2 l hl).2.2.1.trans h) ?_
      refine ev_istore_n (ls' := [.ref 100, .int (nI l), .int 2, .int 1]) 30 dX12_taken_30 (Nat.le_of_ble_eq_true rfl) rfl ?_
      refine ev_iload_n 31 dX12_taken_31 rfl ?_
      refine ev_ifF 32 60 dX12_taken_32 rfl (by decide) ?_
      refine ev_iload_n 35 dX12_taken_35 rfl ?_
      refine ev_iload_n 36 dX12_taken_36 rfl ?_
      refine ev_icF 37 60 dX12_taken_37 rfl (by decide) ?_
      refine ev_iload_n 40 dX12_taken_40 rfl ?_
      refine ev_iconst 41 dX12_taken_41 kI_1 ?_
      refine ev_icT 42 50 dX12_taken_42 rfl (by decide) ?_
      refine ev_iload_n 50 dX12_taken_50 rfl ?_
      refine ev_iconst 51 dX12_taken_51 kI_2 ?_
      refine ev_icF 52 69 dX12_taken_52 rfl (by decide) ?_
      refine ev_iload_n 55 dX12_taken_55 rfl ?_
      refine ev_iconst 56 dX12_taken_56 kI_4 ?_
      refine ev_icT 57 69 dX12_taken_57 rfl (by decide) ?_
      refine ev_bipush 69 dX12_taken_69 kB_m13 ?_
      refine ev_ireturn 71 dX12_taken_71 rfl rfl ?_
      rw [show tkA v l 2 = (-13) by unfold tkA pK; rw [h]; exact if_neg (by decide)] at k
      exact k
    · refine ev_aload_n 0 dX12_taken_0 rfl (by decide) ?_
      refine ev_iload_n 1 dX12_taken_1 rfl ?_
      refine ev_iconst 2 dX12_taken_2 kI_0 ?_
      refine ev_iconst 3 dX12_taken_3 kI_5 ?_
      refine cv_12_7_12 (pc := 4) rfl dX12_taken_4 kd_100 (Nat.le_of_ble_eq_true rfl) ?_
      refine c_X12_in (fun h_4 => ?_) (fun h_4 => absurd (show (0 : Int32) ≤ 3 ∧ (3 : Int32) ≤ 5 by decide) h_4)
      refine ev_ifT 7 13 dX12_taken_7 rfl (by decide) ?_
      refine ev_aload_n 13 dX12_taken_13 rfl (by decide) ?_
      refine ev_iload_n 14 dX12_taken_14 rfl ?_
      refine cv_12_53_12 (pc := 15) rfl dX12_taken_15 kd_100 (Nat.le_of_ble_eq_true rfl) ?_
      refine c_X12_isLane hLn (fun h_15 => ?_) (fun h_15 => absurd (lane_in hn8 hl) h_15)
      refine ev_ifT 18 24 dX12_taken_18 rfl (by decide) ?_
      refine ev_aload_n 24 dX12_taken_24 rfl (by decide) ?_
      refine gf_12_11 (pc := 25) rfl dX12_taken_25 kd_100 (rf_100_5 hX) ?_
      refine ev_iload_n 28 dX12_taken_28 rfl ?_
      refine ev_ialdJ (x := 1) (j := l) 29 dX12_taken_29 (Nat.le_of_ble_eq_true rfl) ty_101 (pm_inI (by omega) (by omega)) (nI_clamp (by omega)) ((hL.2.2.2.2 l hl).2.2.1.trans h) ?_
      refine ev_istore_n (ls' := [.ref 100, .int (nI l), .int 3, .int 1]) 30 dX12_taken_30 (Nat.le_of_ble_eq_true rfl) rfl ?_
      refine ev_iload_n 31 dX12_taken_31 rfl ?_
      refine ev_ifF 32 60 dX12_taken_32 rfl (by decide) ?_
      refine ev_iload_n 35 dX12_taken_35 rfl ?_
      refine ev_iload_n 36 dX12_taken_36 rfl ?_
      refine ev_icF 37 60 dX12_taken_37 rfl (by decide) ?_
      refine ev_iload_n 40 dX12_taken_40 rfl ?_
      refine ev_iconst 41 dX12_taken_41 kI_1 ?_
      refine ev_icT 42 50 dX12_taken_42 rfl (by decide) ?_
      refine ev_iload_n 50 dX12_taken_50 rfl ?_
      refine ev_iconst 51 dX12_taken_51 kI_2 ?_
      refine ev_icT 52 69 dX12_taken_52 rfl (by decide) ?_
      refine ev_bipush 69 dX12_taken_69 kB_m13 ?_
      refine ev_ireturn 71 dX12_taken_71 rfl rfl ?_
      rw [show tkA v l 3 = (-13) by unfold tkA pK; rw [h]; exact if_neg (by decide)] at k
      exact k
    · refine ev_aload_n 0 dX12_taken_0 rfl (by decide) ?_
      refine ev_iload_n 1 dX12_taken_1 rfl ?_
      refine ev_iconst 2 dX12_taken_2 kI_0 ?_
      refine ev_iconst 3 dX12_taken_3 kI_5 ?_
      refine cv_12_7_12 (pc := 4) rfl dX12_taken_4 kd_100 (Nat.le_of_ble_eq_true rfl) ?_
      refine c_X12_in (fun h_4 => ?_) (fun h_4 => absurd (show (0 : Int32) ≤ 4 ∧ (4 : Int32) ≤ 5 by decide) h_4)
      refine ev_ifT 7 13 dX12_taken_7 rfl (by decide) ?_
      refine ev_aload_n 13 dX12_taken_13 rfl (by decide) ?_
      refine ev_iload_n 14 dX12_taken_14 rfl ?_
      refine cv_12_53_12 (pc := 15) rfl dX12_taken_15 kd_100 (Nat.le_of_ble_eq_true rfl) ?_
      refine c_X12_isLane hLn (fun h_15 => ?_) (fun h_15 => absurd (lane_in hn8 hl) h_15)
      refine ev_ifT 18 24 dX12_taken_18 rfl (by decide) ?_
      refine ev_aload_n 24 dX12_taken_24 rfl (by decide) ?_
      refine gf_12_11 (pc := 25) rfl dX12_taken_25 kd_100 (rf_100_5 hX) ?_
      refine ev_iload_n 28 dX12_taken_28 rfl ?_
      refine ev_ialdJ (x := 1) (j := l) 29 dX12_taken_29 (Nat.le_of_ble_eq_true rfl) ty_101 (pm_inI (by omega) (by omega)) (nI_clamp (by omega)) ((hL.2.2.2.2 l hl).2.2.1.trans h) ?_
      refine ev_istore_n (ls' := [.ref 100, .int (nI l), .int 4, .int 1]) 30 dX12_taken_30 (Nat.le_of_ble_eq_true rfl) rfl ?_
      refine ev_iload_n 31 dX12_taken_31 rfl ?_
      refine ev_ifF 32 60 dX12_taken_32 rfl (by decide) ?_
      refine ev_iload_n 35 dX12_taken_35 rfl ?_
      refine ev_iload_n 36 dX12_taken_36 rfl ?_
      refine ev_icF 37 60 dX12_taken_37 rfl (by decide) ?_
      refine ev_iload_n 40 dX12_taken_40 rfl ?_
      refine ev_iconst 41 dX12_taken_41 kI_1 ?_
      refine ev_icT 42 50 dX12_taken_42 rfl (by decide) ?_
      refine ev_iload_n 50 dX12_taken_50 rfl ?_
      refine ev_iconst 51 dX12_taken_51 kI_2 ?_
      refine ev_icT 52 69 dX12_taken_52 rfl (by decide) ?_
      refine ev_bipush 69 dX12_taken_69 kB_m13 ?_
      refine ev_ireturn 71 dX12_taken_71 rfl rfl ?_
      rw [show tkA v l 4 = (-13) by unfold tkA pK; rw [h]; exact if_neg (by decide)] at k
      exact k
    · refine ev_aload_n 0 dX12_taken_0 rfl (by decide) ?_
      refine ev_iload_n 1 dX12_taken_1 rfl ?_
      refine ev_iconst 2 dX12_taken_2 kI_0 ?_
      refine ev_iconst 3 dX12_taken_3 kI_5 ?_
      refine cv_12_7_12 (pc := 4) rfl dX12_taken_4 kd_100 (Nat.le_of_ble_eq_true rfl) ?_
      refine c_X12_in (fun h_4 => ?_) (fun h_4 => absurd (show (0 : Int32) ≤ 5 ∧ (5 : Int32) ≤ 5 by decide) h_4)
      refine ev_ifT 7 13 dX12_taken_7 rfl (by decide) ?_
      refine ev_aload_n 13 dX12_taken_13 rfl (by decide) ?_
      refine ev_iload_n 14 dX12_taken_14 rfl ?_
      refine cv_12_53_12 (pc := 15) rfl dX12_taken_15 kd_100 (Nat.le_of_ble_eq_true rfl) ?_
      refine c_X12_isLane hLn (fun h_15 => ?_) (fun h_15 => absurd (lane_in hn8 hl) h_15)
      refine ev_ifT 18 24 dX12_taken_18 rfl (by decide) ?_
      refine ev_aload_n 24 dX12_taken_24 rfl (by decide) ?_
      refine gf_12_11 (pc := 25) rfl dX12_taken_25 kd_100 (rf_100_5 hX) ?_
      refine ev_iload_n 28 dX12_taken_28 rfl ?_
      refine ev_ialdJ (x := 1) (j := l) 29 dX12_taken_29 (Nat.le_of_ble_eq_true rfl) ty_101 (pm_inI (by omega) (by omega)) (nI_clamp (by omega)) ((hL.2.2.2.2 l hl).2.2.1.trans h) ?_
      refine ev_istore_n (ls' := [.ref 100, .int (nI l), .int 5, .int 1]) 30 dX12_taken_30 (Nat.le_of_ble_eq_true rfl) rfl ?_
      refine ev_iload_n 31 dX12_taken_31 rfl ?_
      refine ev_ifF 32 60 dX12_taken_32 rfl (by decide) ?_
      refine ev_iload_n 35 dX12_taken_35 rfl ?_
      refine ev_iload_n 36 dX12_taken_36 rfl ?_
      refine ev_icF 37 60 dX12_taken_37 rfl (by decide) ?_
      refine ev_iload_n 40 dX12_taken_40 rfl ?_
      refine ev_iconst 41 dX12_taken_41 kI_1 ?_
      refine ev_icT 42 50 dX12_taken_42 rfl (by decide) ?_
      refine ev_iload_n 50 dX12_taken_50 rfl ?_
      refine ev_iconst 51 dX12_taken_51 kI_2 ?_
      refine ev_icT 52 69 dX12_taken_52 rfl (by decide) ?_
      refine ev_bipush 69 dX12_taken_69 kB_m13 ?_
      refine ev_ireturn 71 dX12_taken_71 rfl rfl ?_
      rw [show tkA v l 5 = (-13) by unfold tkA pK; rw [h]; exact if_neg (by decide)] at k
      exact k
  · have : q = 0 ∨ q = 1 ∨ q = 2 ∨ q = 3 ∨ q = 4 ∨ q = 5 := by omega
    rcases this with rfl | rfl | rfl | rfl | rfl | rfl
    · refine ev_aload_n 0 dX12_taken_0 rfl (by decide) ?_
      refine ev_iload_n 1 dX12_taken_1 rfl ?_
      refine ev_iconst 2 dX12_taken_2 kI_0 ?_
      refine ev_iconst 3 dX12_taken_3 kI_5 ?_
      refine cv_12_7_12 (pc := 4) rfl dX12_taken_4 kd_100 (Nat.le_of_ble_eq_true rfl) ?_
      refine c_X12_in (fun h_4 => ?_) (fun h_4 => absurd (show (0 : Int32) ≤ 0 ∧ (0 : Int32) ≤ 5 by decide) h_4)
      refine ev_ifT 7 13 dX12_taken_7 rfl (by decide) ?_
      refine ev_aload_n 13 dX12_taken_13 rfl (by decide) ?_
      refine ev_iload_n 14 dX12_taken_14 rfl ?_
      refine cv_12_53_12 (pc := 15) rfl dX12_taken_15 kd_100 (Nat.le_of_ble_eq_true rfl) ?_
      refine c_X12_isLane hLn (fun h_15 => ?_) (fun h_15 => absurd (lane_in hn8 hl) h_15)
      refine ev_ifT 18 24 dX12_taken_18 rfl (by decide) ?_
      refine ev_aload_n 24 dX12_taken_24 rfl (by decide) ?_
      refine gf_12_11 (pc := 25) rfl dX12_taken_25 kd_100 (rf_100_5 hX) ?_
      refine ev_iload_n 28 dX12_taken_28 rfl ?_
      refine ev_ialdJ (x := 2) (j := l) 29 dX12_taken_29 (Nat.le_of_ble_eq_true rfl) ty_101 (pm_inI (by omega) (by omega)) (nI_clamp (by omega)) ((hL.2.2.2.2 l hl).2.2.1.trans h) ?_
      refine ev_istore_n (ls' := [.ref 100, .int (nI l), .int 0, .int 2]) 30 dX12_taken_30 (Nat.le_of_ble_eq_true rfl) rfl ?_
      refine ev_iload_n 31 dX12_taken_31 rfl ?_
      refine ev_ifT 32 60 dX12_taken_32 rfl (by decide) ?_
      refine ev_aload_n 60 dX12_taken_60 rfl (by decide) ?_
      refine gf_12_15 (pc := 61) rfl dX12_taken_61 kd_100 (rf_100_6 hX) ?_
      refine ev_iload_n 64 dX12_taken_64 rfl ?_
      refine ev_ialdJ (x := pNb v l) (j := l) 65 dX12_taken_65 (Nat.le_of_ble_eq_true rfl) ty_102 (pm_inI (by omega) (by omega)) (nI_clamp (by omega)) (hL.2.2.2.2 l hl).2.2.2.1 ?_
      refine ev_goto 66 71 dX12_taken_66 rfl ?_
      refine ev_ireturn 71 dX12_taken_71 rfl rfl ?_
      rw [show tkA v l 0 = pNb v l by unfold tkA pK; rw [h]; exact if_pos (by decide)] at k
      exact k
    · refine ev_aload_n 0 dX12_taken_0 rfl (by decide) ?_
      refine ev_iload_n 1 dX12_taken_1 rfl ?_
      refine ev_iconst 2 dX12_taken_2 kI_0 ?_
      refine ev_iconst 3 dX12_taken_3 kI_5 ?_
      refine cv_12_7_12 (pc := 4) rfl dX12_taken_4 kd_100 (Nat.le_of_ble_eq_true rfl) ?_
      refine c_X12_in (fun h_4 => ?_) (fun h_4 => absurd (show (0 : Int32) ≤ 1 ∧ (1 : Int32) ≤ 5 by decide) h_4)
      refine ev_ifT 7 13 dX12_taken_7 rfl (by decide) ?_
      refine ev_aload_n 13 dX12_taken_13 rfl (by decide) ?_
      refine ev_iload_n 14 dX12_taken_14 rfl ?_
      refine cv_12_53_12 (pc := 15) rfl dX12_taken_15 kd_100 (Nat.le_of_ble_eq_true rfl) ?_
      refine c_X12_isLane hLn (fun h_15 => ?_) (fun h_15 => absurd (lane_in hn8 hl) h_15)
      refine ev_ifT 18 24 dX12_taken_18 rfl (by decide) ?_
      refine ev_aload_n 24 dX12_taken_24 rfl (by decide) ?_
      refine gf_12_11 (pc := 25) rfl dX12_taken_25 kd_100 (rf_100_5 hX) ?_
      refine ev_iload_n 28 dX12_taken_28 rfl ?_
      refine ev_ialdJ (x := 2) (j := l) 29 dX12_taken_29 (Nat.le_of_ble_eq_true rfl) ty_101 (pm_inI (by omega) (by omega)) (nI_clamp (by omega)) ((hL.2.2.2.2 l hl).2.2.1.trans h) ?_
      refine ev_istore_n (ls' := [.ref 100, .int (nI l), .int 1, .int 2]) 30 dX12_taken_30 (Nat.le_of_ble_eq_true rfl) rfl ?_
      refine ev_iload_n 31 dX12_taken_31 rfl ?_
      refine ev_ifF 32 60 dX12_taken_32 rfl (by decide) ?_
      refine ev_iload_n 35 dX12_taken_35 rfl ?_
      refine ev_iload_n 36 dX12_taken_36 rfl ?_
      refine ev_icF 37 60 dX12_taken_37 rfl (by decide) ?_
      refine ev_iload_n 40 dX12_taken_40 rfl ?_
      refine ev_iconst 41 dX12_taken_41 kI_1 ?_
      refine ev_icF 42 50 dX12_taken_42 rfl (by decide) ?_
      refine ev_iload_n 45 dX12_taken_45 rfl ?_
      refine ev_iconst 46 dX12_taken_46 kI_3 ?_
      refine ev_icF 47 60 dX12_taken_47 rfl (by decide) ?_
      refine ev_iload_n 50 dX12_taken_50 rfl ?_
      refine ev_iconst 51 dX12_taken_51 kI_2 ?_
      refine ev_icT 52 69 dX12_taken_52 rfl (by decide) ?_
      refine ev_bipush 69 dX12_taken_69 kB_m13 ?_
      refine ev_ireturn 71 dX12_taken_71 rfl rfl ?_
      rw [show tkA v l 1 = (-13) by unfold tkA pK; rw [h]; exact if_neg (by decide)] at k
      exact k
    · refine ev_aload_n 0 dX12_taken_0 rfl (by decide) ?_
      refine ev_iload_n 1 dX12_taken_1 rfl ?_
      refine ev_iconst 2 dX12_taken_2 kI_0 ?_
      refine ev_iconst 3 dX12_taken_3 kI_5 ?_
      refine cv_12_7_12 (pc := 4) rfl dX12_taken_4 kd_100 (Nat.le_of_ble_eq_true rfl) ?_
      refine c_X12_in (fun h_4 => ?_) (fun h_4 => absurd (show (0 : Int32) ≤ 2 ∧ (2 : Int32) ≤ 5 by decide) h_4)
      refine ev_ifT 7 13 dX12_taken_7 rfl (by decide) ?_
      refine ev_aload_n 13 dX12_taken_13 rfl (by decide) ?_
      refine ev_iload_n 14 dX12_taken_14 rfl ?_
      refine cv_12_53_12 (pc := 15) rfl dX12_taken_15 kd_100 (Nat.le_of_ble_eq_true rfl) ?_
      refine c_X12_isLane hLn (fun h_15 => ?_) (fun h_15 => absurd (lane_in hn8 hl) h_15)
      refine ev_ifT 18 24 dX12_taken_18 rfl (by decide) ?_
      refine ev_aload_n 24 dX12_taken_24 rfl (by decide) ?_
      refine gf_12_11 (pc := 25) rfl dX12_taken_25 kd_100 (rf_100_5 hX) ?_
      refine ev_iload_n 28 dX12_taken_28 rfl ?_
      refine ev_ialdJ (x := 2) (j := l) 29 dX12_taken_29 (Nat.le_of_ble_eq_true rfl) ty_101 (pm_inI (by omega) (by omega)) (nI_clamp (by omega)) ((hL.2.2.2.2 l hl).2.2.1.trans h) ?_
      refine ev_istore_n (ls' := [.ref 100, .int (nI l), .int 2, .int 2]) 30 dX12_taken_30 (Nat.le_of_ble_eq_true rfl) rfl ?_
      refine ev_iload_n 31 dX12_taken_31 rfl ?_
      refine ev_ifF 32 60 dX12_taken_32 rfl (by decide) ?_
      refine ev_iload_n 35 dX12_taken_35 rfl ?_
      refine ev_iload_n 36 dX12_taken_36 rfl ?_
      refine ev_icT 37 60 dX12_taken_37 rfl (by decide) ?_
      refine ev_aload_n 60 dX12_taken_60 rfl (by decide) ?_
      refine gf_12_15 (pc := 61) rfl dX12_taken_61 kd_100 (rf_100_6 hX) ?_
      refine ev_iload_n 64 dX12_taken_64 rfl ?_
      refine ev_ialdJ (x := pNb v l) (j := l) 65 dX12_taken_65 (Nat.le_of_ble_eq_true rfl) ty_102 (pm_inI (by omega) (by omega)) (nI_clamp (by omega)) (hL.2.2.2.2 l hl).2.2.2.1 ?_
      refine ev_goto 66 71 dX12_taken_66 rfl ?_
      refine ev_ireturn 71 dX12_taken_71 rfl rfl ?_
      rw [show tkA v l 2 = pNb v l by unfold tkA pK; rw [h]; exact if_pos (by decide)] at k
      exact k
    · refine ev_aload_n 0 dX12_taken_0 rfl (by decide) ?_
      refine ev_iload_n 1 dX12_taken_1 rfl ?_
      refine ev_iconst 2 dX12_taken_2 kI_0 ?_
      refine ev_iconst 3 dX12_taken_3 kI_5 ?_
      refine cv_12_7_12 (pc := 4) rfl dX12_taken_4 kd_100 (Nat.le_of_ble_eq_true rfl) ?_
      refine c_X12_in (fun h_4 => ?_) (fun h_4 => absurd (show (0 : Int32) ≤ 3 ∧ (3 : Int32) ≤ 5 by decide) h_4)
      refine ev_ifT 7 13 dX12_taken_7 rfl (by decide) ?_
      refine ev_aload_n 13 dX12_taken_13 rfl (by decide) ?_
      refine ev_iload_n 14 dX12_taken_14 rfl ?_
      refine cv_12_53_12 (pc := 15) rfl dX12_taken_15 kd_100 (Nat.le_of_ble_eq_true rfl) ?_
      refine c_X12_isLane hLn (fun h_15 => ?_) (fun h_15 => absurd (lane_in hn8 hl) h_15)
      refine ev_ifT 18 24 dX12_taken_18 rfl (by decide) ?_
      refine ev_aload_n 24 dX12_taken_24 rfl (by decide) ?_
      refine gf_12_11 (pc := 25) rfl dX12_taken_25 kd_100 (rf_100_5 hX) ?_
      refine ev_iload_n 28 dX12_taken_28 rfl ?_
      refine ev_ialdJ (x := 2) (j := l) 29 dX12_taken_29 (Nat.le_of_ble_eq_true rfl) ty_101 (pm_inI (by omega) (by omega)) (nI_clamp (by omega)) ((hL.2.2.2.2 l hl).2.2.1.trans h) ?_
      refine ev_istore_n (ls' := [.ref 100, .int (nI l), .int 3, .int 2]) 30 dX12_taken_30 (Nat.le_of_ble_eq_true rfl) rfl ?_
      refine ev_iload_n 31 dX12_taken_31 rfl ?_
      refine ev_ifF 32 60 dX12_taken_32 rfl (by decide) ?_
      refine ev_iload_n 35 dX12_taken_35 rfl ?_
      refine ev_iload_n 36 dX12_taken_36 rfl ?_
      refine ev_icF 37 60 dX12_taken_37 rfl (by decide) ?_
      refine ev_iload_n 40 dX12_taken_40 rfl ?_
      refine ev_iconst 41 dX12_taken_41 kI_1 ?_
      refine ev_icT 42 50 dX12_taken_42 rfl (by decide) ?_
      refine ev_iload_n 50 dX12_taken_50 rfl ?_
      refine ev_iconst 51 dX12_taken_51 kI_2 ?_
      refine ev_icT 52 69 dX12_taken_52 rfl (by decide) ?_
      refine ev_bipush 69 dX12_taken_69 kB_m13 ?_
      refine ev_ireturn 71 dX12_taken_71 rfl rfl ?_
      rw [show tkA v l 3 = (-13) by unfold tkA pK; rw [h]; exact if_neg (by decide)] at k
      exact k
    · refine ev_aload_n 0 dX12_taken_0 rfl (by decide) ?_
      refine ev_iload_n 1 dX12_taken_1 rfl ?_
      refine ev_iconst 2 dX12_taken_2 kI_0 ?_
      refine ev_iconst 3 dX12_taken_3 kI_5 ?_
      refine cv_12_7_12 (pc := 4) rfl dX12_taken_4 kd_100 (Nat.le_of_ble_eq_true rfl) ?_
      refine c_X12_in (fun h_4 => ?_) (fun h_4 => absurd (show (0 : Int32) ≤ 4 ∧ (4 : Int32) ≤ 5 by decide) h_4)
      refine ev_ifT 7 13 dX12_taken_7 rfl (by decide) ?_
      refine ev_aload_n 13 dX12_taken_13 rfl (by decide) ?_
      refine ev_iload_n 14 dX12_taken_14 rfl ?_
      refine cv_12_53_12 (pc := 15) rfl dX12_taken_15 kd_100 (Nat.le_of_ble_eq_true rfl) ?_
      refine c_X12_isLane hLn (fun h_15 => ?_) (fun h_15 => absurd (lane_in hn8 hl) h_15)
      refine ev_ifT 18 24 dX12_taken_18 rfl (by decide) ?_
      refine ev_aload_n 24 dX12_taken_24 rfl (by decide) ?_
      refine gf_12_11 (pc := 25) rfl dX12_taken_25 kd_100 (rf_100_5 hX) ?_
      refine ev_iload_n 28 dX12_taken_28 rfl ?_
      refine ev_ialdJ (x := 2) (j := l) 29 dX12_taken_29 (Nat.le_of_ble_eq_true rfl) ty_101 (pm_inI (by omega) (by omega)) (nI_clamp (by omega)) ((hL.2.2.2.2 l hl).2.2.1.trans h) ?_
      refine ev_istore_n (ls' := [.ref 100, .int (nI l), .int 4, .int 2]) 30 dX12_taken_30 (Nat.le_of_ble_eq_true rfl) rfl ?_
      refine ev_iload_n 31 dX12_taken_31 rfl ?_
      refine ev_ifF 32 60 dX12_taken_32 rfl (by decide) ?_
      refine ev_iload_n 35 dX12_taken_35 rfl ?_
      refine ev_iload_n 36 dX12_taken_36 rfl ?_
      refine ev_icF 37 60 dX12_taken_37 rfl (by decide) ?_
      refine ev_iload_n 40 dX12_taken_40 rfl ?_
      refine ev_iconst 41 dX12_taken_41 kI_1 ?_
      refine ev_icT 42 50 dX12_taken_42 rfl (by decide) ?_
      refine ev_iload_n 50 dX12_taken_50 rfl ?_
      refine ev_iconst 51 dX12_taken_51 kI_2 ?_
      refine ev_icT 52 69 dX12_taken_52 rfl (by decide) ?_
      refine ev_bipush 69 dX12_taken_69 kB_m13 ?_
      refine ev_ireturn 71 dX12_taken_71 rfl rfl ?_
      rw [show tkA v l 4 = (-13) by unfold tkA pK; rw [h]; exact if_neg (by decide)] at k
      exact k
    · refine ev_aload_n 0 dX12_taken_0 rfl (by decide) ?_
      refine ev_iload_n 1 dX12_taken_1 rfl ?_
      refine ev_iconst 2 dX12_taken_2 kI_0 ?_
      refine ev_iconst 3 dX12_taken_3 kI_5 ?_
      refine cv_12_7_12 (pc := 4) rfl dX12_taken_4 kd_100 (Nat.le_of_ble_eq_true rfl) ?_
      refine c_X12_in (fun h_4 => ?_) (fun h_4 => absurd (show (0 : Int32) ≤ 5 ∧ (5 : Int32) ≤ 5 by decide) h_4)
      refine ev_ifT 7 13 dX12_taken_7 rfl (by decide) ?_
      refine ev_aload_n 13 dX12_taken_13 rfl (by decide) ?_
      refine ev_iload_n 14 dX12_taken_14 rfl ?_
      refine cv_12_53_12 (pc := 15) rfl dX12_taken_15 kd_100 (Nat.le_of_ble_eq_true rfl) ?_
      refine c_X12_isLane hLn (fun h_15 => ?_) (fun h_15 => absurd (lane_in hn8 hl) h_15)
      refine ev_ifT 18 24 dX12_taken_18 rfl (by decide) ?_
      refine ev_aload_n 24 dX12_taken_24 rfl (by decide) ?_
      refine gf_12_11 (pc := 25) rfl dX12_taken_25 kd_100 (rf_100_5 hX) ?_
      refine ev_iload_n 28 dX12_taken_28 rfl ?_
      refine ev_ialdJ (x := 2) (j := l) 29 dX12_taken_29 (Nat.le_of_ble_eq_true rfl) ty_101 (pm_inI (by omega) (by omega)) (nI_clamp (by omega)) ((hL.2.2.2.2 l hl).2.2.1.trans h) ?_
      refine ev_istore_n (ls' := [.ref 100, .int (nI l), .int 5, .int 2]) 30 dX12_taken_30 (Nat.le_of_ble_eq_true rfl) rfl ?_
      refine ev_iload_n 31 dX12_taken_31 rfl ?_
      refine ev_ifF 32 60 dX12_taken_32 rfl (by decide) ?_
      refine ev_iload_n 35 dX12_taken_35 rfl ?_
      refine ev_iload_n 36 dX12_taken_36 rfl ?_
      refine ev_icF 37 60 dX12_taken_37 rfl (by decide) ?_
      refine ev_iload_n 40 dX12_taken_40 rfl ?_
      refine ev_iconst 41 dX12_taken_41 kI_1 ?_
      refine ev_icT 42 50 dX12_taken_42 rfl (by decide) ?_
      refine ev_iload_n 50 dX12_taken_50 rfl ?_
      refine ev_iconst 51 dX12_taken_51 kI_2 ?_
      refine ev_icT 52 69 dX12_taken_52 rfl (by decide) ?_
      refine ev_bipush 69 dX12_taken_69 kB_m13 ?_
      refine ev_ireturn 71 dX12_taken_71 rfl rfl ?_
      rw [show tkA v l 5 = (-13) by unfold tkA pK; rw [h]; exact if_neg (by decide)] at k
      exact k
  · have : q = 0 ∨ q = 1 ∨ q = 2 ∨ q = 3 ∨ q = 4 ∨ q = 5 := by omega
    rcases this with rfl | rfl | rfl | rfl | rfl | rfl
    · refine ev_aload_n 0 dX12_taken_0 rfl (by decide) ?_
      refine ev_iload_n 1 dX12_taken_1 rfl ?_
      refine ev_iconst 2 dX12_taken_2 kI_0 ?_
      refine ev_iconst 3 dX12_taken_3 kI_5 ?_
      refine cv_12_7_12 (pc := 4) rfl dX12_taken_4 kd_100 (Nat.le_of_ble_eq_true rfl) ?_
      refine c_X12_in (fun h_4 => ?_) (fun h_4 => absurd (show (0 : Int32) ≤ 0 ∧ (0 : Int32) ≤ 5 by decide) h_4)
      refine ev_ifT 7 13 dX12_taken_7 rfl (by decide) ?_
      refine ev_aload_n 13 dX12_taken_13 rfl (by decide) ?_
      refine ev_iload_n 14 dX12_taken_14 rfl ?_
      refine cv_12_53_12 (pc := 15) rfl dX12_taken_15 kd_100 (Nat.le_of_ble_eq_true rfl) ?_
      refine c_X12_isLane hLn (fun h_15 => ?_) (fun h_15 => absurd (lane_in hn8 hl) h_15)
      refine ev_ifT 18 24 dX12_taken_18 rfl (by decide) ?_
      refine ev_aload_n 24 dX12_taken_24 rfl (by decide) ?_
      refine gf_12_11 (pc := 25) rfl dX12_taken_25 kd_100 (rf_100_5 hX) ?_
      refine ev_iload_n 28 dX12_taken_28 rfl ?_
      refine ev_ialdJ (x := 3) (j := l) 29 dX12_taken_29 (Nat.le_of_ble_eq_true rfl) ty_101 (pm_inI (by omega) (by omega)) (nI_clamp (by omega)) ((hL.2.2.2.2 l hl).2.2.1.trans h) ?_
      refine ev_istore_n (ls' := [.ref 100, .int (nI l), .int 0, .int 3]) 30 dX12_taken_30 (Nat.le_of_ble_eq_true rfl) rfl ?_
      refine ev_iload_n 31 dX12_taken_31 rfl ?_
      refine ev_ifT 32 60 dX12_taken_32 rfl (by decide) ?_
      refine ev_aload_n 60 dX12_taken_60 rfl (by decide) ?_
      refine gf_12_15 (pc := 61) rfl dX12_taken_61 kd_100 (rf_100_6 hX) ?_
      refine ev_iload_n 64 dX12_taken_64 rfl ?_
      refine ev_ialdJ (x := pNb v l) (j := l) 65 dX12_taken_65 (Nat.le_of_ble_eq_true rfl) ty_102 (pm_inI (by omega) (by omega)) (nI_clamp (by omega)) (hL.2.2.2.2 l hl).2.2.2.1 ?_
      refine ev_goto 66 71 dX12_taken_66 rfl ?_
      refine ev_ireturn 71 dX12_taken_71 rfl rfl ?_
      rw [show tkA v l 0 = pNb v l by unfold tkA pK; rw [h]; exact if_pos (by decide)] at k
      exact k
    · refine ev_aload_n 0 dX12_taken_0 rfl (by decide) ?_
      refine ev_iload_n 1 dX12_taken_1 rfl ?_
      refine ev_iconst 2 dX12_taken_2 kI_0 ?_
      refine ev_iconst 3 dX12_taken_3 kI_5 ?_
      refine cv_12_7_12 (pc := 4) rfl dX12_taken_4 kd_100 (Nat.le_of_ble_eq_true rfl) ?_
      refine c_X12_in (fun h_4 => ?_) (fun h_4 => absurd (show (0 : Int32) ≤ 1 ∧ (1 : Int32) ≤ 5 by decide) h_4)
      refine ev_ifT 7 13 dX12_taken_7 rfl (by decide) ?_
      refine ev_aload_n 13 dX12_taken_13 rfl (by decide) ?_
      refine ev_iload_n 14 dX12_taken_14 rfl ?_
      refine cv_12_53_12 (pc := 15) rfl dX12_taken_15 kd_100 (Nat.le_of_ble_eq_true rfl) ?_
      refine c_X12_isLane hLn (fun h_15 => ?_) (fun h_15 => absurd (lane_in hn8 hl) h_15)
      refine ev_ifT 18 24 dX12_taken_18 rfl (by decide) ?_
      refine ev_aload_n 24 dX12_taken_24 rfl (by decide) ?_
      refine gf_12_11 (pc := 25) rfl dX12_taken_25 kd_100 (rf_100_5 hX) ?_
      refine ev_iload_n 28 dX12_taken_28 rfl ?_
      refine ev_ialdJ (x := 3) (j := l) 29 dX12_taken_29 (Nat.le_of_ble_eq_true rfl) ty_101 (pm_inI (by omega) (by omega)) (nI_clamp (by omega)) ((hL.2.2.2.2 l hl).2.2.1.trans h) ?_
      refine ev_istore_n (ls' := [.ref 100, .int (nI l), .int 1, .int 3]) 30 dX12_taken_30 (Nat.le_of_ble_eq_true rfl) rfl ?_
      refine ev_iload_n 31 dX12_taken_31 rfl ?_
      refine ev_ifF 32 60 dX12_taken_32 rfl (by decide) ?_
      refine ev_iload_n 35 dX12_taken_35 rfl ?_
      refine ev_iload_n 36 dX12_taken_36 rfl ?_
      refine ev_icF 37 60 dX12_taken_37 rfl (by decide) ?_
      refine ev_iload_n 40 dX12_taken_40 rfl ?_
      refine ev_iconst 41 dX12_taken_41 kI_1 ?_
      refine ev_icF 42 50 dX12_taken_42 rfl (by decide) ?_
      refine ev_iload_n 45 dX12_taken_45 rfl ?_
      refine ev_iconst 46 dX12_taken_46 kI_3 ?_
      refine ev_icT 47 60 dX12_taken_47 rfl (by decide) ?_
      refine ev_aload_n 60 dX12_taken_60 rfl (by decide) ?_
      refine gf_12_15 (pc := 61) rfl dX12_taken_61 kd_100 (rf_100_6 hX) ?_
      refine ev_iload_n 64 dX12_taken_64 rfl ?_
      refine ev_ialdJ (x := pNb v l) (j := l) 65 dX12_taken_65 (Nat.le_of_ble_eq_true rfl) ty_102 (pm_inI (by omega) (by omega)) (nI_clamp (by omega)) (hL.2.2.2.2 l hl).2.2.2.1 ?_
      refine ev_goto 66 71 dX12_taken_66 rfl ?_
      refine ev_ireturn 71 dX12_taken_71 rfl rfl ?_
      rw [show tkA v l 1 = pNb v l by unfold tkA pK; rw [h]; exact if_pos (by decide)] at k
      exact k
    · refine ev_aload_n 0 dX12_taken_0 rfl (by decide) ?_
      refine ev_iload_n 1 dX12_taken_1 rfl ?_
      refine ev_iconst 2 dX12_taken_2 kI_0 ?_
      refine ev_iconst 3 dX12_taken_3 kI_5 ?_
      refine cv_12_7_12 (pc := 4) rfl dX12_taken_4 kd_100 (Nat.le_of_ble_eq_true rfl) ?_
      refine c_X12_in (fun h_4 => ?_) (fun h_4 => absurd (show (0 : Int32) ≤ 2 ∧ (2 : Int32) ≤ 5 by decide) h_4)
      refine ev_ifT 7 13 dX12_taken_7 rfl (by decide) ?_
      refine ev_aload_n 13 dX12_taken_13 rfl (by decide) ?_
      refine ev_iload_n 14 dX12_taken_14 rfl ?_
      refine cv_12_53_12 (pc := 15) rfl dX12_taken_15 kd_100 (Nat.le_of_ble_eq_true rfl) ?_
      refine c_X12_isLane hLn (fun h_15 => ?_) (fun h_15 => absurd (lane_in hn8 hl) h_15)
      refine ev_ifT 18 24 dX12_taken_18 rfl (by decide) ?_
      refine ev_aload_n 24 dX12_taken_24 rfl (by decide) ?_
      refine gf_12_11 (pc := 25) rfl dX12_taken_25 kd_100 (rf_100_5 hX) ?_
      refine ev_iload_n 28 dX12_taken_28 rfl ?_
      refine ev_ialdJ (x := 3) (j := l) 29 dX12_taken_29 (Nat.le_of_ble_eq_true rfl) ty_101 (pm_inI (by omega) (by omega)) (nI_clamp (by omega)) ((hL.2.2.2.2 l hl).2.2.1.trans h) ?_
      refine ev_istore_n (ls' := [.ref 100, .int (nI l), .int 2, .int 3]) 30 dX12_taken_30 (Nat.le_of_ble_eq_true rfl) rfl ?_
      refine ev_iload_n 31 dX12_taken_31 rfl ?_
      refine ev_ifF 32 60 dX12_taken_32 rfl (by decide) ?_
      refine ev_iload_n 35 dX12_taken_35 rfl ?_
      refine ev_iload_n 36 dX12_taken_36 rfl ?_
      refine ev_icF 37 60 dX12_taken_37 rfl (by decide) ?_
      refine ev_iload_n 40 dX12_taken_40 rfl ?_
      refine ev_iconst 41 dX12_taken_41 kI_1 ?_
      refine ev_icT 42 50 dX12_taken_42 rfl (by decide) ?_
      refine ev_iload_n 50 dX12_taken_50 rfl ?_
      refine ev_iconst 51 dX12_taken_51 kI_2 ?_
      refine ev_icF 52 69 dX12_taken_52 rfl (by decide) ?_
      refine ev_iload_n 55 dX12_taken_55 rfl ?_
      refine ev_iconst 56 dX12_taken_56 kI_4 ?_
      refine ev_icT 57 69 dX12_taken_57 rfl (by decide) ?_
      refine ev_bipush 69 dX12_taken_69 kB_m13 ?_
      refine ev_ireturn 71 dX12_taken_71 rfl rfl ?_
      rw [show tkA v l 2 = (-13) by unfold tkA pK; rw [h]; exact if_neg (by decide)] at k
      exact k
    · refine ev_aload_n 0 dX12_taken_0 rfl (by decide) ?_
      refine ev_iload_n 1 dX12_taken_1 rfl ?_
      refine ev_iconst 2 dX12_taken_2 kI_0 ?_
      refine ev_iconst 3 dX12_taken_3 kI_5 ?_
      refine cv_12_7_12 (pc := 4) rfl dX12_taken_4 kd_100 (Nat.le_of_ble_eq_true rfl) ?_
      refine c_X12_in (fun h_4 => ?_) (fun h_4 => absurd (show (0 : Int32) ≤ 3 ∧ (3 : Int32) ≤ 5 by decide) h_4)
      refine ev_ifT 7 13 dX12_taken_7 rfl (by decide) ?_
      refine ev_aload_n 13 dX12_taken_13 rfl (by decide) ?_
      refine ev_iload_n 14 dX12_taken_14 rfl ?_
      refine cv_12_53_12 (pc := 15) rfl dX12_taken_15 kd_100 (Nat.le_of_ble_eq_true rfl) ?_
      refine c_X12_isLane hLn (fun h_15 => ?_) (fun h_15 => absurd (lane_in hn8 hl) h_15)
      refine ev_ifT 18 24 dX12_taken_18 rfl (by decide) ?_
      refine ev_aload_n 24 dX12_taken_24 rfl (by decide) ?_
      refine gf_12_11 (pc := 25) rfl dX12_taken_25 kd_100 (rf_100_5 hX) ?_
      refine ev_iload_n 28 dX12_taken_28 rfl ?_
      refine ev_ialdJ (x := 3) (j := l) 29 dX12_taken_29 (Nat.le_of_ble_eq_true rfl) ty_101 (pm_inI (by omega) (by omega)) (nI_clamp (by omega)) ((hL.2.2.2.2 l hl).2.2.1.trans h) ?_
      refine ev_istore_n (ls' := [.ref 100, .int (nI l), .int 3, .int 3]) 30 dX12_taken_30 (Nat.le_of_ble_eq_true rfl) rfl ?_
      refine ev_iload_n 31 dX12_taken_31 rfl ?_
      refine ev_ifF 32 60 dX12_taken_32 rfl (by decide) ?_
      refine ev_iload_n 35 dX12_taken_35 rfl ?_
      refine ev_iload_n 36 dX12_taken_36 rfl ?_
      refine ev_icT 37 60 dX12_taken_37 rfl (by decide) ?_
      refine ev_aload_n 60 dX12_taken_60 rfl (by decide) ?_
      refine gf_12_15 (pc := 61) rfl dX12_taken_61 kd_100 (rf_100_6 hX) ?_
      refine ev_iload_n 64 dX12_taken_64 rfl ?_
      refine ev_ialdJ (x := pNb v l) (j := l) 65 dX12_taken_65 (Nat.le_of_ble_eq_true rfl) ty_102 (pm_inI (by omega) (by omega)) (nI_clamp (by omega)) (hL.2.2.2.2 l hl).2.2.2.1 ?_
      refine ev_goto 66 71 dX12_taken_66 rfl ?_
      refine ev_ireturn 71 dX12_taken_71 rfl rfl ?_
      rw [show tkA v l 3 = pNb v l by unfold tkA pK; rw [h]; exact if_pos (by decide)] at k
      exact k
    · refine ev_aload_n 0 dX12_taken_0 rfl (by decide) ?_
      refine ev_iload_n 1 dX12_taken_1 rfl ?_
      refine ev_iconst 2 dX12_taken_2 kI_0 ?_
      refine ev_iconst 3 dX12_taken_3 kI_5 ?_
      refine cv_12_7_12 (pc := 4) rfl dX12_taken_4 kd_100 (Nat.le_of_ble_eq_true rfl) ?_
      refine c_X12_in (fun h_4 => ?_) (fun h_4 => absurd (show (0 : Int32) ≤ 4 ∧ (4 : Int32) ≤ 5 by decide) h_4)
      refine ev_ifT 7 13 dX12_taken_7 rfl (by decide) ?_
      refine ev_aload_n 13 dX12_taken_13 rfl (by decide) ?_
      refine ev_iload_n 14 dX12_taken_14 rfl ?_
      refine cv_12_53_12 (pc := 15) rfl dX12_taken_15 kd_100 (Nat.le_of_ble_eq_true rfl) ?_
      refine c_X12_isLane hLn (fun h_15 => ?_) (fun h_15 => absurd (lane_in hn8 hl) h_15)
      refine ev_ifT 18 24 dX12_taken_18 rfl (by decide) ?_
      refine ev_aload_n 24 dX12_taken_24 rfl (by decide) ?_
      refine gf_12_11 (pc := 25) rfl dX12_taken_25 kd_100 (rf_100_5 hX) ?_
      refine ev_iload_n 28 dX12_taken_28 rfl ?_
      refine ev_ialdJ (x := 3) (j := l) 29 dX12_taken_29 (Nat.le_of_ble_eq_true rfl) ty_101 (pm_inI (by omega) (by omega)) (nI_clamp (by omega)) ((hL.2.2.2.2 l hl).2.2.1.trans h) ?_
      refine ev_istore_n (ls' := [.ref 100, .int (nI l), .int 4, .int 3]) 30 dX12_taken_30 (Nat.le_of_ble_eq_true rfl) rfl ?_
      refine ev_iload_n 31 dX12_taken_31 rfl ?_
      refine ev_ifF 32 60 dX12_taken_32 rfl (by decide) ?_
      refine ev_iload_n 35 dX12_taken_35 rfl ?_
      refine ev_iload_n 36 dX12_taken_36 rfl ?_
      refine ev_icF 37 60 dX12_taken_37 rfl (by decide) ?_
      refine ev_iload_n 40 dX12_taken_40 rfl ?_
      refine ev_iconst 41 dX12_taken_41 kI_1 ?_
      refine ev_icT 42 50 dX12_taken_42 rfl (by decide) ?_
      refine ev_iload_n 50 dX12_taken_50 rfl ?_
      refine ev_iconst 51 dX12_taken_51 kI_2 ?_
      refine ev_icT 52 69 dX12_taken_52 rfl (by decide) ?_
      refine ev_bipush 69 dX12_taken_69 kB_m13 ?_
      refine ev_ireturn 71 dX12_taken_71 rfl rfl ?_
      rw [show tkA v l 4 = (-13) by unfold tkA pK; rw [h]; exact if_neg (by decide)] at k
      exact k
    · refine ev_aload_n 0 dX12_taken_0 rfl (by decide) ?_
      refine ev_iload_n 1 dX12_taken_1 rfl ?_
      refine ev_iconst 2 dX12_taken_2 kI_0 ?_
      refine ev_iconst 3 dX12_taken_3 kI_5 ?_
      refine cv_12_7_12 (pc := 4) rfl dX12_taken_4 kd_100 (Nat.le_of_ble_eq_true rfl) ?_
      refine c_X12_in (fun h_4 => ?_) (fun h_4 => absurd (show (0 : Int32) ≤ 5 ∧ (5 : Int32) ≤ 5 by decide) h_4)
      refine ev_ifT 7 13 dX12_taken_7 rfl (by decide) ?_
      refine ev_aload_n 13 dX12_taken_13 rfl (by decide) ?_
      refine ev_iload_n 14 dX12_taken_14 rfl ?_
      refine cv_12_53_12 (pc := 15) rfl dX12_taken_15 kd_100 (Nat.le_of_ble_eq_true rfl) ?_
      refine c_X12_isLane hLn (fun h_15 => ?_) (fun h_15 => absurd (lane_in hn8 hl) h_15)
      refine ev_ifT 18 24 dX12_taken_18 rfl (by decide) ?_
      refine ev_aload_n 24 dX12_taken_24 rfl (by decide) ?_
      refine gf_12_11 (pc := 25) rfl dX12_taken_25 kd_100 (rf_100_5 hX) ?_
      refine ev_iload_n 28 dX12_taken_28 rfl ?_
      refine ev_ialdJ (x := 3) (j := l) 29 dX12_taken_29 (Nat.le_of_ble_eq_true rfl) ty_101 (pm_inI (by omega) (by omega)) (nI_clamp (by omega)) ((hL.2.2.2.2 l hl).2.2.1.trans h) ?_
      refine ev_istore_n (ls' := [.ref 100, .int (nI l), .int 5, .int 3]) 30 dX12_taken_30 (Nat.le_of_ble_eq_true rfl) rfl ?_
      refine ev_iload_n 31 dX12_taken_31 rfl ?_
      refine ev_ifF 32 60 dX12_taken_32 rfl (by decide) ?_
      refine ev_iload_n 35 dX12_taken_35 rfl ?_
      refine ev_iload_n 36 dX12_taken_36 rfl ?_
      refine ev_icF 37 60 dX12_taken_37 rfl (by decide) ?_
      refine ev_iload_n 40 dX12_taken_40 rfl ?_
      refine ev_iconst 41 dX12_taken_41 kI_1 ?_
      refine ev_icT 42 50 dX12_taken_42 rfl (by decide) ?_
      refine ev_iload_n 50 dX12_taken_50 rfl ?_
      refine ev_iconst 51 dX12_taken_51 kI_2 ?_
      refine ev_icT 52 69 dX12_taken_52 rfl (by decide) ?_
      refine ev_bipush 69 dX12_taken_69 kB_m13 ?_
      refine ev_ireturn 71 dX12_taken_71 rfl rfl ?_
      rw [show tkA v l 5 = (-13) by unfold tkA pK; rw [h]; exact if_neg (by decide)] at k
      exact k
  · have : q = 0 ∨ q = 1 ∨ q = 2 ∨ q = 3 ∨ q = 4 ∨ q = 5 := by omega
    rcases this with rfl | rfl | rfl | rfl | rfl | rfl
    · refine ev_aload_n 0 dX12_taken_0 rfl (by decide) ?_
      refine ev_iload_n 1 dX12_taken_1 rfl ?_
      refine ev_iconst 2 dX12_taken_2 kI_0 ?_
      refine ev_iconst 3 dX12_taken_3 kI_5 ?_
      refine cv_12_7_12 (pc := 4) rfl dX12_taken_4 kd_100 (Nat.le_of_ble_eq_true rfl) ?_
      refine c_X12_in (fun h_4 => ?_) (fun h_4 => absurd (show (0 : Int32) ≤ 0 ∧ (0 : Int32) ≤ 5 by decide) h_4)
      refine ev_ifT 7 13 dX12_taken_7 rfl (by decide) ?_
      refine ev_aload_n 13 dX12_taken_13 rfl (by decide) ?_
      refine ev_iload_n 14 dX12_taken_14 rfl ?_
      refine cv_12_53_12 (pc := 15) rfl dX12_taken_15 kd_100 (Nat.le_of_ble_eq_true rfl) ?_
      refine c_X12_isLane hLn (fun h_15 => ?_) (fun h_15 => absurd (lane_in hn8 hl) h_15)
      refine ev_ifT 18 24 dX12_taken_18 rfl (by decide) ?_
      refine ev_aload_n 24 dX12_taken_24 rfl (by decide) ?_
      refine gf_12_11 (pc := 25) rfl dX12_taken_25 kd_100 (rf_100_5 hX) ?_
      refine ev_iload_n 28 dX12_taken_28 rfl ?_
      refine ev_ialdJ (x := 4) (j := l) 29 dX12_taken_29 (Nat.le_of_ble_eq_true rfl) ty_101 (pm_inI (by omega) (by omega)) (nI_clamp (by omega)) ((hL.2.2.2.2 l hl).2.2.1.trans h) ?_
      refine ev_istore_n (ls' := [.ref 100, .int (nI l), .int 0, .int 4]) 30 dX12_taken_30 (Nat.le_of_ble_eq_true rfl) rfl ?_
      refine ev_iload_n 31 dX12_taken_31 rfl ?_
      refine ev_ifT 32 60 dX12_taken_32 rfl (by decide) ?_
      refine ev_aload_n 60 dX12_taken_60 rfl (by decide) ?_
      refine gf_12_15 (pc := 61) rfl dX12_taken_61 kd_100 (rf_100_6 hX) ?_
      refine ev_iload_n 64 dX12_taken_64 rfl ?_
      refine ev_ialdJ (x := pNb v l) (j := l) 65 dX12_taken_65 (Nat.le_of_ble_eq_true rfl) ty_102 (pm_inI (by omega) (by omega)) (nI_clamp (by omega)) (hL.2.2.2.2 l hl).2.2.2.1 ?_
      refine ev_goto 66 71 dX12_taken_66 rfl ?_
      refine ev_ireturn 71 dX12_taken_71 rfl rfl ?_
      rw [show tkA v l 0 = pNb v l by unfold tkA pK; rw [h]; exact if_pos (by decide)] at k
      exact k
    · refine ev_aload_n 0 dX12_taken_0 rfl (by decide) ?_
      refine ev_iload_n 1 dX12_taken_1 rfl ?_
      refine ev_iconst 2 dX12_taken_2 kI_0 ?_
      refine ev_iconst 3 dX12_taken_3 kI_5 ?_
      refine cv_12_7_12 (pc := 4) rfl dX12_taken_4 kd_100 (Nat.le_of_ble_eq_true rfl) ?_
      refine c_X12_in (fun h_4 => ?_) (fun h_4 => absurd (show (0 : Int32) ≤ 1 ∧ (1 : Int32) ≤ 5 by decide) h_4)
      refine ev_ifT 7 13 dX12_taken_7 rfl (by decide) ?_
      refine ev_aload_n 13 dX12_taken_13 rfl (by decide) ?_
      refine ev_iload_n 14 dX12_taken_14 rfl ?_
      refine cv_12_53_12 (pc := 15) rfl dX12_taken_15 kd_100 (Nat.le_of_ble_eq_true rfl) ?_
      refine c_X12_isLane hLn (fun h_15 => ?_) (fun h_15 => absurd (lane_in hn8 hl) h_15)
      refine ev_ifT 18 24 dX12_taken_18 rfl (by decide) ?_
      refine ev_aload_n 24 dX12_taken_24 rfl (by decide) ?_
      refine gf_12_11 (pc := 25) rfl dX12_taken_25 kd_100 (rf_100_5 hX) ?_
      refine ev_iload_n 28 dX12_taken_28 rfl ?_
      refine ev_ialdJ (x := 4) (j := l) 29 dX12_taken_29 (Nat.le_of_ble_eq_true rfl) ty_101 (pm_inI (by omega) (by omega)) (nI_clamp (by omega)) ((hL.2.2.2.2 l hl).2.2.1.trans h) ?_
      refine ev_istore_n (ls' := [.ref 100, .int (nI l), .int 1, .int 4]) 30 dX12_taken_30 (Nat.le_of_ble_eq_true rfl) rfl ?_
      refine ev_iload_n 31 dX12_taken_31 rfl ?_
      refine ev_ifF 32 60 dX12_taken_32 rfl (by decide) ?_
      refine ev_iload_n 35 dX12_taken_35 rfl ?_
      refine ev_iload_n 36 dX12_taken_36 rfl ?_
      refine ev_icF 37 60 dX12_taken_37 rfl (by decide) ?_
      refine ev_iload_n 40 dX12_taken_40 rfl ?_
      refine ev_iconst 41 dX12_taken_41 kI_1 ?_
      refine ev_icF 42 50 dX12_taken_42 rfl (by decide) ?_
      refine ev_iload_n 45 dX12_taken_45 rfl ?_
      refine ev_iconst 46 dX12_taken_46 kI_3 ?_
      refine ev_icF 47 60 dX12_taken_47 rfl (by decide) ?_
      refine ev_iload_n 50 dX12_taken_50 rfl ?_
      refine ev_iconst 51 dX12_taken_51 kI_2 ?_
      refine ev_icT 52 69 dX12_taken_52 rfl (by decide) ?_
      refine ev_bipush 69 dX12_taken_69 kB_m13 ?_
      refine ev_ireturn 71 dX12_taken_71 rfl rfl ?_
      rw [show tkA v l 1 = (-13) by unfold tkA pK; rw [h]; exact if_neg (by decide)] at k
      exact k
    · refine ev_aload_n 0 dX12_taken_0 rfl (by decide) ?_
      refine ev_iload_n 1 dX12_taken_1 rfl ?_
      refine ev_iconst 2 dX12_taken_2 kI_0 ?_
      refine ev_iconst 3 dX12_taken_3 kI_5 ?_
      refine cv_12_7_12 (pc := 4) rfl dX12_taken_4 kd_100 (Nat.le_of_ble_eq_true rfl) ?_
      refine c_X12_in (fun h_4 => ?_) (fun h_4 => absurd (show (0 : Int32) ≤ 2 ∧ (2 : Int32) ≤ 5 by decide) h_4)
      refine ev_ifT 7 13 dX12_taken_7 rfl (by decide) ?_
      refine ev_aload_n 13 dX12_taken_13 rfl (by decide) ?_
      refine ev_iload_n 14 dX12_taken_14 rfl ?_
      refine cv_12_53_12 (pc := 15) rfl dX12_taken_15 kd_100 (Nat.le_of_ble_eq_true rfl) ?_
      refine c_X12_isLane hLn (fun h_15 => ?_) (fun h_15 => absurd (lane_in hn8 hl) h_15)
      refine ev_ifT 18 24 dX12_taken_18 rfl (by decide) ?_
      refine ev_aload_n 24 dX12_taken_24 rfl (by decide) ?_
      refine gf_12_11 (pc := 25) rfl dX12_taken_25 kd_100 (rf_100_5 hX) ?_
      refine ev_iload_n 28 dX12_taken_28 rfl ?_
      refine ev_ialdJ (x := 4) (j := l) 29 dX12_taken_29 (Nat.le_of_ble_eq_true rfl) ty_101 (pm_inI (by omega) (by omega)) (nI_clamp (by omega)) ((hL.2.2.2.2 l hl).2.2.1.trans h) ?_
      refine ev_istore_n (ls' := [.ref 100, .int (nI l), .int 2, .int 4]) 30 dX12_taken_30 (Nat.le_of_ble_eq_true rfl) rfl ?_
      refine ev_iload_n 31 dX12_taken_31 rfl ?_
      refine ev_ifF 32 60 dX12_taken_32 rfl (by decide) ?_
      refine ev_iload_n 35 dX12_taken_35 rfl ?_
      refine ev_iload_n 36 dX12_taken_36 rfl ?_
      refine ev_icF 37 60 dX12_taken_37 rfl (by decide) ?_
      refine ev_iload_n 40 dX12_taken_40 rfl ?_
      refine ev_iconst 41 dX12_taken_41 kI_1 ?_
      refine ev_icT 42 50 dX12_taken_42 rfl (by decide) ?_
      refine ev_iload_n 50 dX12_taken_50 rfl ?_
      refine ev_iconst 51 dX12_taken_51 kI_2 ?_
      refine ev_icF 52 69 dX12_taken_52 rfl (by decide) ?_
      refine ev_iload_n 55 dX12_taken_55 rfl ?_
      refine ev_iconst 56 dX12_taken_56 kI_4 ?_
      refine ev_icF 57 69 dX12_taken_57 rfl (by decide) ?_
      refine ev_aload_n 60 dX12_taken_60 rfl (by decide) ?_
      refine gf_12_15 (pc := 61) rfl dX12_taken_61 kd_100 (rf_100_6 hX) ?_
      refine ev_iload_n 64 dX12_taken_64 rfl ?_
      refine ev_ialdJ (x := pNb v l) (j := l) 65 dX12_taken_65 (Nat.le_of_ble_eq_true rfl) ty_102 (pm_inI (by omega) (by omega)) (nI_clamp (by omega)) (hL.2.2.2.2 l hl).2.2.2.1 ?_
      refine ev_goto 66 71 dX12_taken_66 rfl ?_
      refine ev_ireturn 71 dX12_taken_71 rfl rfl ?_
      rw [show tkA v l 2 = pNb v l by unfold tkA pK; rw [h]; exact if_pos (by decide)] at k
      exact k
    · refine ev_aload_n 0 dX12_taken_0 rfl (by decide) ?_
      refine ev_iload_n 1 dX12_taken_1 rfl ?_
      refine ev_iconst 2 dX12_taken_2 kI_0 ?_
      refine ev_iconst 3 dX12_taken_3 kI_5 ?_
      refine cv_12_7_12 (pc := 4) rfl dX12_taken_4 kd_100 (Nat.le_of_ble_eq_true rfl) ?_
      refine c_X12_in (fun h_4 => ?_) (fun h_4 => absurd (show (0 : Int32) ≤ 3 ∧ (3 : Int32) ≤ 5 by decide) h_4)
      refine ev_ifT 7 13 dX12_taken_7 rfl (by decide) ?_
      refine ev_aload_n 13 dX12_taken_13 rfl (by decide) ?_
      refine ev_iload_n 14 dX12_taken_14 rfl ?_
      refine cv_12_53_12 (pc := 15) rfl dX12_taken_15 kd_100 (Nat.le_of_ble_eq_true rfl) ?_
      refine c_X12_isLane hLn (fun h_15 => ?_) (fun h_15 => absurd (lane_in hn8 hl) h_15)
      refine ev_ifT 18 24 dX12_taken_18 rfl (by decide) ?_
      refine ev_aload_n 24 dX12_taken_24 rfl (by decide) ?_
      refine gf_12_11 (pc := 25) rfl dX12_taken_25 kd_100 (rf_100_5 hX) ?_
      refine ev_iload_n 28 dX12_taken_28 rfl ?_
      refine ev_ialdJ (x := 4) (j := l) 29 dX12_taken_29 (Nat.le_of_ble_eq_true rfl) ty_101 (pm_inI (by omega) (by omega)) (nI_clamp (by omega)) ((hL.2.2.2.2 l hl).2.2.1.trans h) ?_
      refine ev_istore_n (ls' := [.ref 100, .int (nI l), .int 3, .int 4]) 30 dX12_taken_30 (Nat.le_of_ble_eq_true rfl) rfl ?_
      refine ev_iload_n 31 dX12_taken_31 rfl ?_
      refine ev_ifF 32 60 dX12_taken_32 rfl (by decide) ?_
      refine ev_iload_n 35 dX12_taken_35 rfl ?_
      refine ev_iload_n 36 dX12_taken_36 rfl ?_
      refine ev_icF 37 60 dX12_taken_37 rfl (by decide) ?_
      refine ev_iload_n 40 dX12_taken_40 rfl ?_
      refine ev_iconst 41 dX12_taken_41 kI_1 ?_
      refine ev_icT 42 50 dX12_taken_42 rfl (by decide) ?_
      refine ev_iload_n 50 dX12_taken_50 rfl ?_
      refine ev_iconst 51 dX12_taken_51 kI_2 ?_
      refine ev_icT 52 69 dX12_taken_52 rfl (by decide) ?_
      refine ev_bipush 69 dX12_taken_69 kB_m13 ?_
      refine ev_ireturn 71 dX12_taken_71 rfl rfl ?_
      rw [show tkA v l 3 = (-13) by unfold tkA pK; rw [h]; exact if_neg (by decide)] at k
      exact k
    · refine ev_aload_n 0 dX12_taken_0 rfl (by decide) ?_
      refine ev_iload_n 1 dX12_taken_1 rfl ?_
      refine ev_iconst 2 dX12_taken_2 kI_0 ?_
      refine ev_iconst 3 dX12_taken_3 kI_5 ?_
      refine cv_12_7_12 (pc := 4) rfl dX12_taken_4 kd_100 (Nat.le_of_ble_eq_true rfl) ?_
      refine c_X12_in (fun h_4 => ?_) (fun h_4 => absurd (show (0 : Int32) ≤ 4 ∧ (4 : Int32) ≤ 5 by decide) h_4)
      refine ev_ifT 7 13 dX12_taken_7 rfl (by decide) ?_
      refine ev_aload_n 13 dX12_taken_13 rfl (by decide) ?_
      refine ev_iload_n 14 dX12_taken_14 rfl ?_
      refine cv_12_53_12 (pc := 15) rfl dX12_taken_15 kd_100 (Nat.le_of_ble_eq_true rfl) ?_
      refine c_X12_isLane hLn (fun h_15 => ?_) (fun h_15 => absurd (lane_in hn8 hl) h_15)
      refine ev_ifT 18 24 dX12_taken_18 rfl (by decide) ?_
      refine ev_aload_n 24 dX12_taken_24 rfl (by decide) ?_
      refine gf_12_11 (pc := 25) rfl dX12_taken_25 kd_100 (rf_100_5 hX) ?_
      refine ev_iload_n 28 dX12_taken_28 rfl ?_
      refine ev_ialdJ (x := 4) (j := l) 29 dX12_taken_29 (Nat.le_of_ble_eq_true rfl) ty_101 (pm_inI (by omega) (by omega)) (nI_clamp (by omega)) ((hL.2.2.2.2 l hl).2.2.1.trans h) ?_
      refine ev_istore_n (ls' := [.ref 100, .int (nI l), .int 4, .int 4]) 30 dX12_taken_30 (Nat.le_of_ble_eq_true rfl) rfl ?_
      refine ev_iload_n 31 dX12_taken_31 rfl ?_
      refine ev_ifF 32 60 dX12_taken_32 rfl (by decide) ?_
      refine ev_iload_n 35 dX12_taken_35 rfl ?_
      refine ev_iload_n 36 dX12_taken_36 rfl ?_
      refine ev_icT 37 60 dX12_taken_37 rfl (by decide) ?_
      refine ev_aload_n 60 dX12_taken_60 rfl (by decide) ?_
      refine gf_12_15 (pc := 61) rfl dX12_taken_61 kd_100 (rf_100_6 hX) ?_
      refine ev_iload_n 64 dX12_taken_64 rfl ?_
      refine ev_ialdJ (x := pNb v l) (j := l) 65 dX12_taken_65 (Nat.le_of_ble_eq_true rfl) ty_102 (pm_inI (by omega) (by omega)) (nI_clamp (by omega)) (hL.2.2.2.2 l hl).2.2.2.1 ?_
      refine ev_goto 66 71 dX12_taken_66 rfl ?_
      refine ev_ireturn 71 dX12_taken_71 rfl rfl ?_
      rw [show tkA v l 4 = pNb v l by unfold tkA pK; rw [h]; exact if_pos (by decide)] at k
      exact k
    · refine ev_aload_n 0 dX12_taken_0 rfl (by decide) ?_
      refine ev_iload_n 1 dX12_taken_1 rfl ?_
      refine ev_iconst 2 dX12_taken_2 kI_0 ?_
      refine ev_iconst 3 dX12_taken_3 kI_5 ?_
      refine cv_12_7_12 (pc := 4) rfl dX12_taken_4 kd_100 (Nat.le_of_ble_eq_true rfl) ?_
      refine c_X12_in (fun h_4 => ?_) (fun h_4 => absurd (show (0 : Int32) ≤ 5 ∧ (5 : Int32) ≤ 5 by decide) h_4)
      refine ev_ifT 7 13 dX12_taken_7 rfl (by decide) ?_
      refine ev_aload_n 13 dX12_taken_13 rfl (by decide) ?_
      refine ev_iload_n 14 dX12_taken_14 rfl ?_
      refine cv_12_53_12 (pc := 15) rfl dX12_taken_15 kd_100 (Nat.le_of_ble_eq_true rfl) ?_
      refine c_X12_isLane hLn (fun h_15 => ?_) (fun h_15 => absurd (lane_in hn8 hl) h_15)
      refine ev_ifT 18 24 dX12_taken_18 rfl (by decide) ?_
      refine ev_aload_n 24 dX12_taken_24 rfl (by decide) ?_
      refine gf_12_11 (pc := 25) rfl dX12_taken_25 kd_100 (rf_100_5 hX) ?_
      refine ev_iload_n 28 dX12_taken_28 rfl ?_
      refine ev_ialdJ (x := 4) (j := l) 29 dX12_taken_29 (Nat.le_of_ble_eq_true rfl) ty_101 (pm_inI (by omega) (by omega)) (nI_clamp (by omega)) ((hL.2.2.2.2 l hl).2.2.1.trans h) ?_
      refine ev_istore_n (ls' := [.ref 100, .int (nI l), .int 5, .int 4]) 30 dX12_taken_30 (Nat.le_of_ble_eq_true rfl) rfl ?_
      refine ev_iload_n 31 dX12_taken_31 rfl ?_
      refine ev_ifF 32 60 dX12_taken_32 rfl (by decide) ?_
      refine ev_iload_n 35 dX12_taken_35 rfl ?_
      refine ev_iload_n 36 dX12_taken_36 rfl ?_
      refine ev_icF 37 60 dX12_taken_37 rfl (by decide) ?_
      refine ev_iload_n 40 dX12_taken_40 rfl ?_
      refine ev_iconst 41 dX12_taken_41 kI_1 ?_
      refine ev_icT 42 50 dX12_taken_42 rfl (by decide) ?_
      refine ev_iload_n 50 dX12_taken_50 rfl ?_
      refine ev_iconst 51 dX12_taken_51 kI_2 ?_
      refine ev_icT 52 69 dX12_taken_52 rfl (by decide) ?_
      refine ev_bipush 69 dX12_taken_69 kB_m13 ?_
      refine ev_ireturn 71 dX12_taken_71 rfl rfl ?_
      rw [show tkA v l 5 = (-13) by unfold tkA pK; rw [h]; exact if_neg (by decide)] at k
      exact k
  · have : q = 0 ∨ q = 1 ∨ q = 2 ∨ q = 3 ∨ q = 4 ∨ q = 5 := by omega
    rcases this with rfl | rfl | rfl | rfl | rfl | rfl
    · refine ev_aload_n 0 dX12_taken_0 rfl (by decide) ?_
      refine ev_iload_n 1 dX12_taken_1 rfl ?_
      refine ev_iconst 2 dX12_taken_2 kI_0 ?_
      refine ev_iconst 3 dX12_taken_3 kI_5 ?_
      refine cv_12_7_12 (pc := 4) rfl dX12_taken_4 kd_100 (Nat.le_of_ble_eq_true rfl) ?_
      refine c_X12_in (fun h_4 => ?_) (fun h_4 => absurd (show (0 : Int32) ≤ 0 ∧ (0 : Int32) ≤ 5 by decide) h_4)
      refine ev_ifT 7 13 dX12_taken_7 rfl (by decide) ?_
      refine ev_aload_n 13 dX12_taken_13 rfl (by decide) ?_
      refine ev_iload_n 14 dX12_taken_14 rfl ?_
      refine cv_12_53_12 (pc := 15) rfl dX12_taken_15 kd_100 (Nat.le_of_ble_eq_true rfl) ?_
      refine c_X12_isLane hLn (fun h_15 => ?_) (fun h_15 => absurd (lane_in hn8 hl) h_15)
      refine ev_ifT 18 24 dX12_taken_18 rfl (by decide) ?_
      refine ev_aload_n 24 dX12_taken_24 rfl (by decide) ?_
      refine gf_12_11 (pc := 25) rfl dX12_taken_25 kd_100 (rf_100_5 hX) ?_
      refine ev_iload_n 28 dX12_taken_28 rfl ?_
      refine ev_ialdJ (x := 5) (j := l) 29 dX12_taken_29 (Nat.le_of_ble_eq_true rfl) ty_101 (pm_inI (by omega) (by omega)) (nI_clamp (by omega)) ((hL.2.2.2.2 l hl).2.2.1.trans h) ?_
      refine ev_istore_n (ls' := [.ref 100, .int (nI l), .int 0, .int 5]) 30 dX12_taken_30 (Nat.le_of_ble_eq_true rfl) rfl ?_
      refine ev_iload_n 31 dX12_taken_31 rfl ?_
      refine ev_ifT 32 60 dX12_taken_32 rfl (by decide) ?_
      refine ev_aload_n 60 dX12_taken_60 rfl (by decide) ?_
      refine gf_12_15 (pc := 61) rfl dX12_taken_61 kd_100 (rf_100_6 hX) ?_
      refine ev_iload_n 64 dX12_taken_64 rfl ?_
      refine ev_ialdJ (x := pNb v l) (j := l) 65 dX12_taken_65 (Nat.le_of_ble_eq_true rfl) ty_102 (pm_inI (by omega) (by omega)) (nI_clamp (by omega)) (hL.2.2.2.2 l hl).2.2.2.1 ?_
      refine ev_goto 66 71 dX12_taken_66 rfl ?_
      refine ev_ireturn 71 dX12_taken_71 rfl rfl ?_
      rw [show tkA v l 0 = pNb v l by unfold tkA pK; rw [h]; exact if_pos (by decide)] at k
      exact k
    · refine ev_aload_n 0 dX12_taken_0 rfl (by decide) ?_
      refine ev_iload_n 1 dX12_taken_1 rfl ?_
      refine ev_iconst 2 dX12_taken_2 kI_0 ?_
      refine ev_iconst 3 dX12_taken_3 kI_5 ?_
      refine cv_12_7_12 (pc := 4) rfl dX12_taken_4 kd_100 (Nat.le_of_ble_eq_true rfl) ?_
      refine c_X12_in (fun h_4 => ?_) (fun h_4 => absurd (show (0 : Int32) ≤ 1 ∧ (1 : Int32) ≤ 5 by decide) h_4)
      refine ev_ifT 7 13 dX12_taken_7 rfl (by decide) ?_
      refine ev_aload_n 13 dX12_taken_13 rfl (by decide) ?_
      refine ev_iload_n 14 dX12_taken_14 rfl ?_
      refine cv_12_53_12 (pc := 15) rfl dX12_taken_15 kd_100 (Nat.le_of_ble_eq_true rfl) ?_
      refine c_X12_isLane hLn (fun h_15 => ?_) (fun h_15 => absurd (lane_in hn8 hl) h_15)
      refine ev_ifT 18 24 dX12_taken_18 rfl (by decide) ?_
      refine ev_aload_n 24 dX12_taken_24 rfl (by decide) ?_
      refine gf_12_11 (pc := 25) rfl dX12_taken_25 kd_100 (rf_100_5 hX) ?_
      refine ev_iload_n 28 dX12_taken_28 rfl ?_
      refine ev_ialdJ (x := 5) (j := l) 29 dX12_taken_29 (Nat.le_of_ble_eq_true rfl) ty_101 (pm_inI (by omega) (by omega)) (nI_clamp (by omega)) ((hL.2.2.2.2 l hl).2.2.1.trans h) ?_
      refine ev_istore_n (ls' := [.ref 100, .int (nI l), .int 1, .int 5]) 30 dX12_taken_30 (Nat.le_of_ble_eq_true rfl) rfl ?_
      refine ev_iload_n 31 dX12_taken_31 rfl ?_
      refine ev_ifF 32 60 dX12_taken_32 rfl (by decide) ?_
      refine ev_iload_n 35 dX12_taken_35 rfl ?_
      refine ev_iload_n 36 dX12_taken_36 rfl ?_
      refine ev_icF 37 60 dX12_taken_37 rfl (by decide) ?_
      refine ev_iload_n 40 dX12_taken_40 rfl ?_
      refine ev_iconst 41 dX12_taken_41 kI_1 ?_
      refine ev_icF 42 50 dX12_taken_42 rfl (by decide) ?_
      refine ev_iload_n 45 dX12_taken_45 rfl ?_
      refine ev_iconst 46 dX12_taken_46 kI_3 ?_
      refine ev_icF 47 60 dX12_taken_47 rfl (by decide) ?_
      refine ev_iload_n 50 dX12_taken_50 rfl ?_
      refine ev_iconst 51 dX12_taken_51 kI_2 ?_
      refine ev_icT 52 69 dX12_taken_52 rfl (by decide) ?_
      refine ev_bipush 69 dX12_taken_69 kB_m13 ?_
      refine ev_ireturn 71 dX12_taken_71 rfl rfl ?_
      rw [show tkA v l 1 = (-13) by unfold tkA pK; rw [h]; exact if_neg (by decide)] at k
      exact k
    · refine ev_aload_n 0 dX12_taken_0 rfl (by decide) ?_
      refine ev_iload_n 1 dX12_taken_1 rfl ?_
      refine ev_iconst 2 dX12_taken_2 kI_0 ?_
      refine ev_iconst 3 dX12_taken_3 kI_5 ?_
      refine cv_12_7_12 (pc := 4) rfl dX12_taken_4 kd_100 (Nat.le_of_ble_eq_true rfl) ?_
      refine c_X12_in (fun h_4 => ?_) (fun h_4 => absurd (show (0 : Int32) ≤ 2 ∧ (2 : Int32) ≤ 5 by decide) h_4)
      refine ev_ifT 7 13 dX12_taken_7 rfl (by decide) ?_
      refine ev_aload_n 13 dX12_taken_13 rfl (by decide) ?_
      refine ev_iload_n 14 dX12_taken_14 rfl ?_
      refine cv_12_53_12 (pc := 15) rfl dX12_taken_15 kd_100 (Nat.le_of_ble_eq_true rfl) ?_
      refine c_X12_isLane hLn (fun h_15 => ?_) (fun h_15 => absurd (lane_in hn8 hl) h_15)
      refine ev_ifT 18 24 dX12_taken_18 rfl (by decide) ?_
      refine ev_aload_n 24 dX12_taken_24 rfl (by decide) ?_
      refine gf_12_11 (pc := 25) rfl dX12_taken_25 kd_100 (rf_100_5 hX) ?_
      refine ev_iload_n 28 dX12_taken_28 rfl ?_
      refine ev_ialdJ (x := 5) (j := l) 29 dX12_taken_29 (Nat.le_of_ble_eq_true rfl) ty_101 (pm_inI (by omega) (by omega)) (nI_clamp (by omega)) ((hL.2.2.2.2 l hl).2.2.1.trans h) ?_
      refine ev_istore_n (ls' := [.ref 100, .int (nI l), .int 2, .int 5]) 30 dX12_taken_30 (Nat.le_of_ble_eq_true rfl) rfl ?_
      refine ev_iload_n 31 dX12_taken_31 rfl ?_
      refine ev_ifF 32 60 dX12_taken_32 rfl (by decide) ?_
      refine ev_iload_n 35 dX12_taken_35 rfl ?_
      refine ev_iload_n 36 dX12_taken_36 rfl ?_
      refine ev_icF 37 60 dX12_taken_37 rfl (by decide) ?_
      refine ev_iload_n 40 dX12_taken_40 rfl ?_
      refine ev_iconst 41 dX12_taken_41 kI_1 ?_
      refine ev_icT 42 50 dX12_taken_42 rfl (by decide) ?_
      refine ev_iload_n 50 dX12_taken_50 rfl ?_
      refine ev_iconst 51 dX12_taken_51 kI_2 ?_
      refine ev_icF 52 69 dX12_taken_52 rfl (by decide) ?_
      refine ev_iload_n 55 dX12_taken_55 rfl ?_
      refine ev_iconst 56 dX12_taken_56 kI_4 ?_
      refine ev_icT 57 69 dX12_taken_57 rfl (by decide) ?_
      refine ev_bipush 69 dX12_taken_69 kB_m13 ?_
      refine ev_ireturn 71 dX12_taken_71 rfl rfl ?_
      rw [show tkA v l 2 = (-13) by unfold tkA pK; rw [h]; exact if_neg (by decide)] at k
      exact k
    · refine ev_aload_n 0 dX12_taken_0 rfl (by decide) ?_
      refine ev_iload_n 1 dX12_taken_1 rfl ?_
      refine ev_iconst 2 dX12_taken_2 kI_0 ?_
      refine ev_iconst 3 dX12_taken_3 kI_5 ?_
      refine cv_12_7_12 (pc := 4) rfl dX12_taken_4 kd_100 (Nat.le_of_ble_eq_true rfl) ?_
      refine c_X12_in (fun h_4 => ?_) (fun h_4 => absurd (show (0 : Int32) ≤ 3 ∧ (3 : Int32) ≤ 5 by decide) h_4)
      refine ev_ifT 7 13 dX12_taken_7 rfl (by decide) ?_
      refine ev_aload_n 13 dX12_taken_13 rfl (by decide) ?_
      refine ev_iload_n 14 dX12_taken_14 rfl ?_
      refine cv_12_53_12 (pc := 15) rfl dX12_taken_15 kd_100 (Nat.le_of_ble_eq_true rfl) ?_
      refine c_X12_isLane hLn (fun h_15 => ?_) (fun h_15 => absurd (lane_in hn8 hl) h_15)
      refine ev_ifT 18 24 dX12_taken_18 rfl (by decide) ?_
      refine ev_aload_n 24 dX12_taken_24 rfl (by decide) ?_
      refine gf_12_11 (pc := 25) rfl dX12_taken_25 kd_100 (rf_100_5 hX) ?_
      refine ev_iload_n 28 dX12_taken_28 rfl ?_
      refine ev_ialdJ (x := 5) (j := l) 29 dX12_taken_29 (Nat.le_of_ble_eq_true rfl) ty_101 (pm_inI (by omega) (by omega)) (nI_clamp (by omega)) ((hL.2.2.2.2 l hl).2.2.1.trans h) ?_
      refine ev_istore_n (ls' := [.ref 100, .int (nI l), .int 3, .int 5]) 30 dX12_taken_30 (Nat.le_of_ble_eq_true rfl) rfl ?_
      refine ev_iload_n 31 dX12_taken_31 rfl ?_
      refine ev_ifF 32 60 dX12_taken_32 rfl (by decide) ?_
      refine ev_iload_n 35 dX12_taken_35 rfl ?_
      refine ev_iload_n 36 dX12_taken_36 rfl ?_
      refine ev_icF 37 60 dX12_taken_37 rfl (by decide) ?_
      refine ev_iload_n 40 dX12_taken_40 rfl ?_
      refine ev_iconst 41 dX12_taken_41 kI_1 ?_
      refine ev_icT 42 50 dX12_taken_42 rfl (by decide) ?_
      refine ev_iload_n 50 dX12_taken_50 rfl ?_
      refine ev_iconst 51 dX12_taken_51 kI_2 ?_
      refine ev_icT 52 69 dX12_taken_52 rfl (by decide) ?_
      refine ev_bipush 69 dX12_taken_69 kB_m13 ?_
      refine ev_ireturn 71 dX12_taken_71 rfl rfl ?_
      rw [show tkA v l 3 = (-13) by unfold tkA pK; rw [h]; exact if_neg (by decide)] at k
      exact k
    · refine ev_aload_n 0 dX12_taken_0 rfl (by decide) ?_
      refine ev_iload_n 1 dX12_taken_1 rfl ?_
      refine ev_iconst 2 dX12_taken_2 kI_0 ?_
      refine ev_iconst 3 dX12_taken_3 kI_5 ?_
      refine cv_12_7_12 (pc := 4) rfl dX12_taken_4 kd_100 (Nat.le_of_ble_eq_true rfl) ?_
      refine c_X12_in (fun h_4 => ?_) (fun h_4 => absurd (show (0 : Int32) ≤ 4 ∧ (4 : Int32) ≤ 5 by decide) h_4)
      refine ev_ifT 7 13 dX12_taken_7 rfl (by decide) ?_
      refine ev_aload_n 13 dX12_taken_13 rfl (by decide) ?_
      refine ev_iload_n 14 dX12_taken_14 rfl ?_
      refine cv_12_53_12 (pc := 15) rfl dX12_taken_15 kd_100 (Nat.le_of_ble_eq_true rfl) ?_
      refine c_X12_isLane hLn (fun h_15 => ?_) (fun h_15 => absurd (lane_in hn8 hl) h_15)
      refine ev_ifT 18 24 dX12_taken_18 rfl (by decide) ?_
      refine ev_aload_n 24 dX12_taken_24 rfl (by decide) ?_
      refine gf_12_11 (pc := 25) rfl dX12_taken_25 kd_100 (rf_100_5 hX) ?_
      refine ev_iload_n 28 dX12_taken_28 rfl ?_
      refine ev_ialdJ (x := 5) (j := l) 29 dX12_taken_29 (Nat.le_of_ble_eq_true rfl) ty_101 (pm_inI (by omega) (by omega)) (nI_clamp (by omega)) ((hL.2.2.2.2 l hl).2.2.1.trans h) ?_
      refine ev_istore_n (ls' := [.ref 100, .int (nI l), .int 4, .int 5]) 30 dX12_taken_30 (Nat.le_of_ble_eq_true rfl) rfl ?_
      refine ev_iload_n 31 dX12_taken_31 rfl ?_
      refine ev_ifF 32 60 dX12_taken_32 rfl (by decide) ?_
      refine ev_iload_n 35 dX12_taken_35 rfl ?_
      refine ev_iload_n 36 dX12_taken_36 rfl ?_
      refine ev_icF 37 60 dX12_taken_37 rfl (by decide) ?_
      refine ev_iload_n 40 dX12_taken_40 rfl ?_
      refine ev_iconst 41 dX12_taken_41 kI_1 ?_
      refine ev_icT 42 50 dX12_taken_42 rfl (by decide) ?_
      refine ev_iload_n 50 dX12_taken_50 rfl ?_
      refine ev_iconst 51 dX12_taken_51 kI_2 ?_
      refine ev_icT 52 69 dX12_taken_52 rfl (by decide) ?_
      refine ev_bipush 69 dX12_taken_69 kB_m13 ?_
      refine ev_ireturn 71 dX12_taken_71 rfl rfl ?_
      rw [show tkA v l 4 = (-13) by unfold tkA pK; rw [h]; exact if_neg (by decide)] at k
      exact k
    · refine ev_aload_n 0 dX12_taken_0 rfl (by decide) ?_
      refine ev_iload_n 1 dX12_taken_1 rfl ?_
      refine ev_iconst 2 dX12_taken_2 kI_0 ?_
      refine ev_iconst 3 dX12_taken_3 kI_5 ?_
      refine cv_12_7_12 (pc := 4) rfl dX12_taken_4 kd_100 (Nat.le_of_ble_eq_true rfl) ?_
      refine c_X12_in (fun h_4 => ?_) (fun h_4 => absurd (show (0 : Int32) ≤ 5 ∧ (5 : Int32) ≤ 5 by decide) h_4)
      refine ev_ifT 7 13 dX12_taken_7 rfl (by decide) ?_
      refine ev_aload_n 13 dX12_taken_13 rfl (by decide) ?_
      refine ev_iload_n 14 dX12_taken_14 rfl ?_
      refine cv_12_53_12 (pc := 15) rfl dX12_taken_15 kd_100 (Nat.le_of_ble_eq_true rfl) ?_
      refine c_X12_isLane hLn (fun h_15 => ?_) (fun h_15 => absurd (lane_in hn8 hl) h_15)
      refine ev_ifT 18 24 dX12_taken_18 rfl (by decide) ?_
      refine ev_aload_n 24 dX12_taken_24 rfl (by decide) ?_
      refine gf_12_11 (pc := 25) rfl dX12_taken_25 kd_100 (rf_100_5 hX) ?_
      refine ev_iload_n 28 dX12_taken_28 rfl ?_
      refine ev_ialdJ (x := 5) (j := l) 29 dX12_taken_29 (Nat.le_of_ble_eq_true rfl) ty_101 (pm_inI (by omega) (by omega)) (nI_clamp (by omega)) ((hL.2.2.2.2 l hl).2.2.1.trans h) ?_
      refine ev_istore_n (ls' := [.ref 100, .int (nI l), .int 5, .int 5]) 30 dX12_taken_30 (Nat.le_of_ble_eq_true rfl) rfl ?_
      refine ev_iload_n 31 dX12_taken_31 rfl ?_
      refine ev_ifF 32 60 dX12_taken_32 rfl (by decide) ?_
      refine ev_iload_n 35 dX12_taken_35 rfl ?_
      refine ev_iload_n 36 dX12_taken_36 rfl ?_
      refine ev_icT 37 60 dX12_taken_37 rfl (by decide) ?_
      refine ev_aload_n 60 dX12_taken_60 rfl (by decide) ?_
      refine gf_12_15 (pc := 61) rfl dX12_taken_61 kd_100 (rf_100_6 hX) ?_
      refine ev_iload_n 64 dX12_taken_64 rfl ?_
      refine ev_ialdJ (x := pNb v l) (j := l) 65 dX12_taken_65 (Nat.le_of_ble_eq_true rfl) ty_102 (pm_inI (by omega) (by omega)) (nI_clamp (by omega)) (hL.2.2.2.2 l hl).2.2.2.1 ?_
      refine ev_goto 66 71 dX12_taken_66 rfl ?_
      refine ev_ireturn 71 dX12_taken_71 rfl rfl ?_
      rw [show tkA v l 5 = pNb v l by unfold tkA pK; rw [h]; exact if_pos (by decide)] at k
      exact k
theorem op_taken {X : pmX} {d n tx z : Nat} {LT : pmT} {v : pmV} {a b : Int32} (hC : Cpl n tx z LT v) : EvP X (d + 20) MX11_taken 0 [.ref 32, .int a, .int b, pmJ] [] (pmT0 ++ LT) v (Aft X (d + 20) MX12_taken [.ref 100, .int a, .int b, pmJ]) := by
  obtain ⟨hX, hL, hS, hR, hI, hT, hTa, hSh, hF⟩ := id hC
  by_cases hb : 0 ≤ b ∧ b ≤ 5
  · obtain ⟨q, rfl, _, hq⟩ := nI_rng (a := 0) (b := 5) (by omega) (by omega) hb
    by_cases h2 : 0 ≤ a ∧ a ≤ nI n - 1
    · obtain ⟨l, hl, rfl⟩ := lane_ix hL.1 h2
      refine c_X11_taken_ok (d := d + 18) hC hl hq hb ?_
      refine c_X12_taken_ok (d := d + 18) hX hL hl hq ?_
      exact ⟨rfl, n, tx, z, LT, rfl, hC⟩
    · refine c_X11_taken_2 (d := d + 18) hC hb h2 ?_
      refine c_X12_taken_2 (d := d + 18) hL hb h2 ?_
      exact ⟨rfl, n, tx, z, LT, rfl, hC⟩
  · refine c_X11_taken_1 (d := d + 18) hb ?_
    refine c_X12_taken_1 (d := d + 18) hb ?_
    exact ⟨rfl, n, tx, z, LT, rfl, hC⟩
