/-! small methods of the class -/
theorem c_X11_isIn {X : pmX} {d : Nat} {v : pmV} {P : Option Value → pmT → pmV → Prop} {T : pmT} {x a b : Int32} (kt : a ≤ x ∧ x ≤ b → P (some (.int 1)) T v) (kf : ¬ (a ≤ x ∧ x ≤ b) → P (some (.int 0)) T v) : EvP X d MX11_isIn 0 [.int x, .int a, .int b] [] T v P := by
  refine ev_iload_n 0 dX11_isIn_0 rfl ?_
  refine ev_iload_n 1 dX11_isIn_1 rfl ?_
  refine ev_ic_gt 2 14 dX11_isIn_2 rfl (fun c_2 => ?_) (fun c_2 => ?_)
  · refine ev_iconst 14 dX11_isIn_14 kI_0 ?_
    refine ev_ireturn 15 dX11_isIn_15 rfl rfl ?_
    exact kf (by grind)
  · refine ev_iload_n 5 dX11_isIn_5 rfl ?_
    refine ev_iload_n 6 dX11_isIn_6 rfl ?_
    refine ev_ic_gt 7 14 dX11_isIn_7 rfl (fun c_7 => ?_) (fun c_7 => ?_)
    · refine ev_iconst 14 dX11_isIn_14 kI_0 ?_
      refine ev_ireturn 15 dX11_isIn_15 rfl rfl ?_
      exact kf (by grind)
    · refine ev_iconst 10 dX11_isIn_10 kI_1 ?_
      refine ev_goto 11 15 dX11_isIn_11 rfl ?_
      refine ev_ireturn 15 dX11_isIn_15 rfl rfl ?_
      exact kt (by grind)

theorem c_X11_isIn_t {X : pmX} {d : Nat} {v : pmV} {P : Option Value → pmT → pmV → Prop} {T : pmT} {x a b : Int32} (h : a ≤ x ∧ x ≤ b) (k : P (some (.int 1)) T v) : EvP X d MX11_isIn 0 [.int x, .int a, .int b] [] T v P := c_X11_isIn (fun _ => k) (fun q => absurd h q)
theorem c_X11_isIn_f {X : pmX} {d : Nat} {v : pmV} {P : Option Value → pmT → pmV → Prop} {T : pmT} {x a b : Int32} (h : ¬ (a ≤ x ∧ x ≤ b)) (k : P (some (.int 0)) T v) : EvP X d MX11_isIn 0 [.int x, .int a, .int b] [] T v P := c_X11_isIn (fun q => absurd q h) (fun _ => k)
theorem c_X11_placeOf {X : pmX} {d : Nat} {v : pmV} {P : Option Value → pmT → pmV → Prop} {T : pmT} {x a : Int32} (k : P (some (.int (x * 60 + a))) T v) : EvP X d MX11_placeOf 0 [.int x, .int a] [] T v P := by
  refine ev_iload_n 0 dX11_placeOf_0 rfl ?_
  refine ev_bipush 1 dX11_placeOf_1 kB_60 ?_
  refine ev_imul 3 dX11_placeOf_3 ?_
  refine ev_iload_n 4 dX11_placeOf_4 rfl ?_
  refine ev_iadd 5 dX11_placeOf_5 ?_
  refine ev_ireturn 6 dX11_placeOf_6 rfl rfl ?_
  exact k

