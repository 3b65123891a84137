/-! CONSTRUCTORS: the class lays its first text on the tape -/
theorem c_X4_appendT {X : pmX} {d : Nat} {v : pmV} {P : Option Value → pmT → pmV → Prop} {T : pmT} {z : Nat} {x : Int32} (hT : TK T) (hX : pmRfX v) (hz : v.1 41 1 = nI z) (hlt : z < 160) (k : P none T (uI (uI v 42 z x) 41 1 (nI (z + 1)))) : EvP X d MX4_append 0 [.ref 41, .int x] [] T v P := by
  refine ev_aload_n 0 dX4_append_0 rfl (by decide) ?_
  refine gf_4_31 (x := nI z) (pc := 1) rfl dX4_append_1 (kT_41 hT) hz ?_
  refine ev_sipush 4 dX4_append_4 kS_160 ?_
  refine ev_ic_geN (a := z) (b := 160) 7 30 dX4_append_7 rfl (by omega) (by omega) (fun c_7 => by omega) (fun c_7 => ?_)
  refine ev_aload_n 10 dX4_append_10 rfl (by decide) ?_
  refine gf_4_9 (pc := 11) rfl dX4_append_11 (kT_41 hT) (rX_41_0 hX) ?_
  refine ev_aload_n 14 dX4_append_14 rfl (by decide) ?_
  refine gf_4_31 (x := nI z) (pc := 15) rfl dX4_append_15 (kT_41 hT) hz ?_
  refine ev_iload_n 18 dX4_append_18 rfl ?_
  refine ev_iastJ (j := z) 19 dX4_append_19 (Nat.le_of_ble_eq_true rfl) (tT_42 hT) (pm_inI (by omega) (by omega)) (nI_clamp (by omega)) ?_
  refine ev_aload_n 20 dX4_append_20 rfl (by decide) ?_
  refine ev_dup 21 dX4_append_21 rfl ?_
  refine gf_4_31 (x := nI z) (pc := 22) rfl dX4_append_22 (kT_41 hT) ((uI_ne (by decide)).trans hz) ?_
  refine ev_iconst 25 dX4_append_25 kI_1 ?_
  refine ev_iadd 26 dX4_append_26 ?_
  refine ev_cst (y := nI (z + 1)) (nI_add z 1) ?_
  refine pf_4_31 (pc := 27) rfl dX4_append_27 (kT_41 hT) ?_
  refine ev_return 30 dX4_append_30 rfl ?_
  exact k
def layC (a j : Nat) : Prop := a = 42 ∨ a = 41 ∧ j = 1
theorem lp_lay {X : pmX} {d : Nat} {P : Option Value → pmT → pmV → Prop} {T : pmT} (hT : TK T) : ∀ (k i : Nat) (v : pmV), i + k = pmLen 0 → pmRfX v → v.1 41 1 = nI i → (∀ j, j < i → v.1 42 j = sB 0 j) → (∀ v', Of layC v v' → v'.1 41 1 = nI (pmLen 0) → (∀ j, j < pmLen 0 → v'.1 42 j = sB 0 j) → P none T v') → EvP X (d + 5) MX4_lay 7 [.ref 41, .ref 0, .int (nI i)] [] T v P
  | k, i, v, hi, hX, hz, hb, K => by
    have hL : pmLen 0 = 34 := rfl
    refine ev_iload_n 7 dX4_lay_7 rfl ?_
    refine ev_aload_n 8 dX4_lay_8 rfl (by decide) ?_
    refine cv_4_35_20 (pc := 9) rfl dX4_lay_9 kd_0 (Nat.le_of_ble_eq_true rfl) ?_
    refine c_J0_length (i := 0) (by decide) ?_
    refine ev_ic_geN (a := i) (b := (pmLen 0)) 12 30 dX4_lay_12 rfl (by omega) (by omega) (fun c_12 => ?_) (fun c_12 => ?_)
    · refine ev_return 30 dX4_lay_30 rfl ?_
      exact K v Of.nil (hz.trans (congrArg nI (by omega))) (fun j h1 => hb j (by omega))
    · refine ev_aload_n 15 dX4_lay_15 rfl (by decide) ?_
      refine ev_aload_n 16 dX4_lay_16 rfl (by decide) ?_
      refine ev_iload_n 17 dX4_lay_17 rfl ?_
      refine cv_4_41_20 (pc := 18) rfl dX4_lay_18 kd_0 (Nat.le_of_ble_eq_true rfl) ?_
      refine c_J0_charAt (i := 0) (j := i) (by decide) (by omega) ?_
      refine cv_4_45_4 (pc := 21) rfl dX4_lay_21 (kT_41 hT) (Nat.le_of_ble_eq_true rfl) ?_
      refine c_X4_appendT hT hX hz (by omega) ?_
      refine ev_iinc (y := nI (i + 1)) (ls' := [.ref 41, .ref 0, .int (nI (i + 1))]) 24 dX4_lay_24 rfl (nI_add i 1) rfl ?_
      refine ev_goto 27 7 dX4_lay_27 rfl ?_
      cases k with
      | zero => omega
      | succ k =>
        refine lp_lay hT k (i + 1) _ (by omega) (hX.ag rfl) uI_on (fun j hj => (uI_ne (by decide)).trans ?_) (fun v' hO h1 h2 => K v' (((Of.nil.i (Or.inl rfl)).i (Or.inr ⟨rfl, rfl⟩)).tr hO) h1 h2)
        by_cases c : j = i
        · rw [c]; exact uI_on
        · exact (uI_off (by omega)).trans (hb j (by omega))
