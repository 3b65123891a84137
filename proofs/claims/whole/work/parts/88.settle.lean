/-! TEXTS: the reference's settle; what opens; the next token -/
theorem lp_settle {X : pmX} {d : Nat} {v0 : pmV} {P : Option Value → pmT → pmV → Prop} {LT : pmT} {bs L : Nat} (hX : pmRf v0) (hL : 1 ≤ L ∧ L ≤ 7) : ∀ (W cs : List Int32) (op : Nat) (v : pmV) (w : Value), MS bs W cs op v → op ≤ 100 → Of (mC bs) v0 v → (∀ v', Of (mC bs) v0 v' → MS bs (stl L W cs op).1 (stl L W cs op).2.1 (stl L W cs op).2.2 v' → P none (pmT0 ++ LT) v') → EvP X (d + 1) MX12_settle 0 [.ref 100, .int (nI L), w] [] (pmT0 ++ LT) v P
  | [], cs, op, v, w, hM, hop, hO, K => by
    have hX0 := hX
    have hX : pmRf v := hX.ag (congrArg Prod.snd hO.1)
    refine ev_aload_n 0 dX12_settle_0 rfl (by decide) ?_
    refine gf_12_107 (x := nI 0) (pc := 1) rfl dX12_settle_1 kd_100 hM.2.1 ?_
    refine ev_if_leN (a := 0) 4 73 dX12_settle_4 rfl (by omega) (fun c_4 => ?_) (fun c_4 => by omega)
    refine ev_return 73 dX12_settle_73 rfl ?_
    exact K v hO hM
  | s :: W, cs, op, v, w, hM, hop, hO, K => by
    have hX0 := hX
    have hX : pmRf v := hX.ag (congrArg Prod.snd hO.1)
    have h8 := hM.2.2.2.2.2.2.2.1
    have h7 := hM.2.2.2.2.2.2.1
    rw [List.length_cons] at h8
    have hst : sStr s ≤ 7 := by unfold sStr; repeat (first | omega | split)
    refine ev_aload_n 0 dX12_settle_0 rfl (by decide) ?_
    refine gf_12_107 (x := nI (W.length + 1)) (pc := 1) rfl dX12_settle_1 kd_100 hM.2.1 ?_
    refine ev_if_leN (a := (W.length + 1)) 4 73 dX12_settle_4 rfl (by omega) (fun c_4 => by omega) (fun c_4 => ?_)
    refine ev_aload_n 7 dX12_settle_7 rfl (by decide) ?_
    refine ev_aload_n 8 dX12_settle_8 rfl (by decide) ?_
    refine cv_12_237_12 (pc := 9) rfl dX12_settle_9 kd_100 (Nat.le_of_ble_eq_true rfl) ?_
    refine c_X12_top hX hM ?_
    refine cv_12_241_12 (pc := 12) rfl dX12_settle_12 kd_100 (Nat.le_of_ble_eq_true rfl) ?_
    refine c_X12_strength ?_
    refine ev_iload_n 15 dX12_settle_15 rfl ?_
    refine ev_ic_ltN (a := (sStr s)) (b := L) 16 73 dX12_settle_16 rfl (by omega) (by omega) (fun c_16 => ?_) (fun c_16 => ?_)
    · refine ev_return 73 dX12_settle_73 rfl ?_
      rw [stl, if_neg (by omega)] at K
      exact K v hO hM
    · refine ev_aload_n 19 dX12_settle_19 rfl (by decide) ?_
      refine ev_dup 20 dX12_settle_20 rfl ?_
      refine gf_12_107 (x := nI (W.length + 1)) (pc := 21) rfl dX12_settle_21 kd_100 hM.2.1 ?_
      refine ev_iconst 24 dX12_settle_24 kI_1 ?_
      refine ev_isub 25 dX12_settle_25 ?_
      refine ev_cst (y := nI (W.length + 1 - 1)) (pk_sub (a := (W.length + 1)) (b := 1) (by omega)) ?_
      refine pf_12_107 (pc := 26) rfl dX12_settle_26 kd_100 ?_
      refine ev_aload_n 29 dX12_settle_29 rfl (by decide) ?_
      refine gf_12_125 (pc := 30) rfl dX12_settle_30 kd_100 (rf_100_24 hX) ?_
      refine ev_aload_n 33 dX12_settle_33 rfl (by decide) ?_
      refine gf_12_107 (x := nI (W.length + 1 - 1)) (pc := 34) rfl dX12_settle_34 kd_100 uI_on ?_
      refine ev_ialdJ (x := s) (j := W.length + 1 - 1) 37 dX12_settle_37 (Nat.le_of_ble_eq_true rfl) ty_110 (pm_inI (by omega) (by omega)) (nI_clamp (by omega)) ((uI_ne (by decide)).trans hM.top) ?_
      refine ev_istore_n (ls' := [.ref 100, .int (nI L), .int s]) 38 dX12_settle_38 (Nat.le_of_ble_eq_true rfl) rfl ?_
      refine ev_aload_n 39 dX12_settle_39 rfl (by decide) ?_
      refine ev_dup 40 dX12_settle_40 rfl ?_
      refine gf_12_104 (x := nI op) (pc := 41) rfl dX12_settle_41 kd_100 ((uI_off (by decide)).trans hM.1) ?_
      refine ev_iload_n 44 dX12_settle_44 rfl ?_
      refine ev_iconst 45 dX12_settle_45 kI_4 ?_
      refine ev_ic_eq 46 55 dX12_settle_46 rfl (fun c_46 => ?_) (fun c_46 => ?_)
      · have h1 : 1 + cO W ≤ op := by rw [cO, if_pos (Or.inl c_46)] at h7; exact h7
        refine ev_iconst 55 dX12_settle_55 kI_1 ?_
        refine ev_goto 56 60 dX12_settle_56 rfl ?_
        refine ev_isub 60 dX12_settle_60 ?_
        refine ev_cst (y := nI (op - 1)) (pk_sub (a := op) (b := 1) (by omega)) ?_
        refine pf_12_104 (pc := 61) rfl dX12_settle_61 kd_100 ?_
        refine ev_aload_n 64 dX12_settle_64 rfl (by decide) ?_
        refine ev_iload_n 65 dX12_settle_65 rfl ?_
        refine ev_iconst 66 dX12_settle_66 kI_0 ?_
        refine cv_12_205_12 (pc := 67) rfl dX12_settle_67 kd_100 (Nat.le_of_ble_eq_true rfl) ?_
        refine c_X12_put (c := sCod s) (W := W) (cs := cs) (op := (op - 1)) (v := (uI (uI v 100 18 (nI (W.length + 1 - 1))) 100 17 (nI (op - 1)))) (hX.ag rfl) ((hM.pop).op (by omega)) (cod_s (str_ok (hM.2.2.2.2.2.1 s (List.mem_cons_self ..)) (by omega))) (by omega) (fun v1 hO1 hM1 => ?_)
        refine ev_goto 70 0 dX12_settle_70 rfl ?_
        rw [stl, if_pos (by omega), if_pos (Or.inl c_46)] at K
        exact lp_settle hX0 hL W _ (op - 1) _ _ hM1 (by omega) ((((hO.i (by unfold mC; omega)).i (by unfold mC; omega))).tr hO1) K
      · refine ev_iload_n 49 dX12_settle_49 rfl ?_
        refine ev_bipush 50 dX12_settle_50 kB_10 ?_
        refine ev_ic_ne 52 59 dX12_settle_52 rfl (fun c_52 => ?_) (fun c_52 => ?_)
        · refine ev_iconst 59 dX12_settle_59 kI_0 ?_
          refine ev_isub 60 dX12_settle_60 ?_
          refine ev_cst (y := nI (op - 0)) (pk_sub (a := op) (b := 0) (by omega)) ?_
          refine pf_12_104 (pc := 61) rfl dX12_settle_61 kd_100 ?_
          refine ev_aload_n 64 dX12_settle_64 rfl (by decide) ?_
          refine ev_iload_n 65 dX12_settle_65 rfl ?_
          refine ev_iconst 66 dX12_settle_66 kI_0 ?_
          refine cv_12_205_12 (pc := 67) rfl dX12_settle_67 kd_100 (Nat.le_of_ble_eq_true rfl) ?_
          refine c_X12_put (c := sCod s) (W := W) (cs := cs) (op := (op - 0)) (v := (uI (uI v 100 18 (nI (W.length + 1 - 1))) 100 17 (nI (op - 0)))) (hX.ag rfl) ((hM.pop).op (by rw [cO] at h7; omega)) (cod_s (str_ok (hM.2.2.2.2.2.1 s (List.mem_cons_self ..)) (by omega))) (by omega) (fun v2 hO1 hM1 => ?_)
          refine ev_goto 70 0 dX12_settle_70 rfl ?_
          rw [stl, if_pos (by omega), if_neg (fun e => e.elim c_46 c_52)] at K
          exact lp_settle hX0 hL W _ (op - 0) _ _ hM1 (by omega) ((((hO.i (by unfold mC; omega)).i (by unfold mC; omega))).tr hO1) K
        · have h52 : s = 10 := by simpa using c_52
          have h1 : 1 + cO W ≤ op := by rw [cO, if_pos (Or.inr (Or.inl h52))] at h7; exact h7
          refine ev_iconst 55 dX12_settle_55 kI_1 ?_
          refine ev_goto 56 60 dX12_settle_56 rfl ?_
          refine ev_isub 60 dX12_settle_60 ?_
          refine ev_cst (y := nI (op - 1)) (pk_sub (a := op) (b := 1) (by omega)) ?_
          refine pf_12_104 (pc := 61) rfl dX12_settle_61 kd_100 ?_
          refine ev_aload_n 64 dX12_settle_64 rfl (by decide) ?_
          refine ev_iload_n 65 dX12_settle_65 rfl ?_
          refine ev_iconst 66 dX12_settle_66 kI_0 ?_
          refine cv_12_205_12 (pc := 67) rfl dX12_settle_67 kd_100 (Nat.le_of_ble_eq_true rfl) ?_
          refine c_X12_put (c := sCod s) (W := W) (cs := cs) (op := (op - 1)) (v := (uI (uI v 100 18 (nI (W.length + 1 - 1))) 100 17 (nI (op - 1)))) (hX.ag rfl) ((hM.pop).op (by omega)) (cod_s (str_ok (hM.2.2.2.2.2.1 s (List.mem_cons_self ..)) (by omega))) (by omega) (fun v3 hO1 hM1 => ?_)
          refine ev_goto 70 0 dX12_settle_70 rfl ?_
          rw [stl, if_pos (by omega), if_pos (Or.inr h52)] at K
          exact lp_settle hX0 hL W _ (op - 1) _ _ hM1 (by omega) ((((hO.i (by unfold mC; omega)).i (by unfold mC; omega))).tr hO1) K
