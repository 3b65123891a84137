/-! TEXTS: the reference's signs that wait -/
theorem c_X12_strength {X : pmX} {d : Nat} {v : pmV} {P : Option Value → pmT → pmV → Prop} {LT : pmT} {s : Int32} (k : P (some (.int (nI (sStr s)))) (pmT0 ++ LT) v) : EvP X d MX12_strength 0 [.ref 100, .int s] [] (pmT0 ++ LT) v P := by
  refine ev_iload_n 0 dX12_strength_0 rfl ?_
  refine ev_iconst 1 dX12_strength_1 kI_2 ?_
  refine ev_ic_ne 2 9 dX12_strength_2 rfl (fun c_2 => ?_) (fun c_2 => ?_)
  · refine ev_iload_n 9 dX12_strength_9 rfl ?_
    refine ev_iconst 10 dX12_strength_10 kI_3 ?_
    refine ev_ic_ne 11 18 dX12_strength_11 rfl (fun c_11 => ?_) (fun c_11 => ?_)
    · refine ev_iload_n 18 dX12_strength_18 rfl ?_
      refine ev_iconst 19 dX12_strength_19 kI_4 ?_
      refine ev_ic_ne 20 27 dX12_strength_20 rfl (fun c_20 => ?_) (fun c_20 => ?_)
      · refine ev_iload_n 27 dX12_strength_27 rfl ?_
        refine ev_iconst 28 dX12_strength_28 kI_5 ?_
        refine ev_ic_eq 29 38 dX12_strength_29 rfl (fun c_29 => ?_) (fun c_29 => ?_)
        · refine ev_iconst 38 dX12_strength_38 kI_4 ?_
          refine ev_goto 39 81 dX12_strength_39 rfl ?_
          refine ev_ireturn 81 dX12_strength_81 rfl rfl ?_
          have hs : nI (sStr s) = 4 := by unfold sStr; simp_all; rfl
          rw [hs] at k
          exact k
        · refine ev_iload_n 32 dX12_strength_32 rfl ?_
          refine ev_bipush 33 dX12_strength_33 kB_6 ?_
          refine ev_ic_ne 35 42 dX12_strength_35 rfl (fun c_35 => ?_) (fun c_35 => ?_)
          · refine ev_iload_n 42 dX12_strength_42 rfl ?_
            refine ev_bipush 43 dX12_strength_43 kB_7 ?_
            refine ev_ic_eq 45 54 dX12_strength_45 rfl (fun c_45 => ?_) (fun c_45 => ?_)
            · refine ev_iconst 54 dX12_strength_54 kI_5 ?_
              refine ev_goto 55 81 dX12_strength_55 rfl ?_
              refine ev_ireturn 81 dX12_strength_81 rfl rfl ?_
              have hs : nI (sStr s) = 5 := by unfold sStr; simp_all; rfl
              rw [hs] at k
              exact k
            · refine ev_iload_n 48 dX12_strength_48 rfl ?_
              refine ev_bipush 49 dX12_strength_49 kB_8 ?_
              refine ev_ic_ne 51 58 dX12_strength_51 rfl (fun c_51 => ?_) (fun c_51 => ?_)
              · refine ev_iload_n 58 dX12_strength_58 rfl ?_
                refine ev_bipush 59 dX12_strength_59 kB_9 ?_
                refine ev_ic_ne 61 69 dX12_strength_61 rfl (fun c_61 => ?_) (fun c_61 => ?_)
                · refine ev_iload_n 69 dX12_strength_69 rfl ?_
                  refine ev_bipush 70 dX12_strength_70 kB_10 ?_
                  refine ev_ic_ne 72 80 dX12_strength_72 rfl (fun c_72 => ?_) (fun c_72 => ?_)
                  · refine ev_iconst 80 dX12_strength_80 kI_0 ?_
                    refine ev_ireturn 81 dX12_strength_81 rfl rfl ?_
                    have hs : nI (sStr s) = 0 := by unfold sStr; simp_all; rfl
                    rw [hs] at k
                    exact k
                  · refine ev_bipush 75 dX12_strength_75 kB_7 ?_
                    refine ev_goto 77 81 dX12_strength_77 rfl ?_
                    refine ev_ireturn 81 dX12_strength_81 rfl rfl ?_
                    have hs : nI (sStr s) = 7 := by unfold sStr; simp_all; rfl
                    rw [hs] at k
                    exact k
                · refine ev_bipush 64 dX12_strength_64 kB_6 ?_
                  refine ev_goto 66 81 dX12_strength_66 rfl ?_
                  refine ev_ireturn 81 dX12_strength_81 rfl rfl ?_
                  have hs : nI (sStr s) = 6 := by unfold sStr; simp_all; rfl
                  rw [hs] at k
                  exact k
              · refine ev_iconst 54 dX12_strength_54 kI_5 ?_
                refine ev_goto 55 81 dX12_strength_55 rfl ?_
                refine ev_ireturn 81 dX12_strength_81 rfl rfl ?_
                have hs : nI (sStr s) = 5 := by unfold sStr; simp_all; rfl
                rw [hs] at k
                exact k
          · refine ev_iconst 38 dX12_strength_38 kI_4 ?_
            refine ev_goto 39 81 dX12_strength_39 rfl ?_
            refine ev_ireturn 81 dX12_strength_81 rfl rfl ?_
            have hs : nI (sStr s) = 4 := by unfold sStr; simp_all; rfl
            rw [hs] at k
            exact k
      · refine ev_iconst 23 dX12_strength_23 kI_3 ?_
        refine ev_goto 24 81 dX12_strength_24 rfl ?_
        refine ev_ireturn 81 dX12_strength_81 rfl rfl ?_
        have hs : nI (sStr s) = 3 := by unfold sStr; simp_all; rfl
        rw [hs] at k
        exact k
    · refine ev_iconst 14 dX12_strength_14 kI_2 ?_
      refine ev_goto 15 81 dX12_strength_15 rfl ?_
      refine ev_ireturn 81 dX12_strength_81 rfl rfl ?_
      have hs : nI (sStr s) = 2 := by unfold sStr; simp_all; rfl
      rw [hs] at k
      exact k
  · refine ev_iconst 5 dX12_strength_5 kI_1 ?_
    refine ev_goto 6 81 dX12_strength_6 rfl ?_
    refine ev_ireturn 81 dX12_strength_81 rfl rfl ?_
    have hs : nI (sStr s) = 1 := by unfold sStr; simp_all; rfl
    rw [hs] at k
    exact k

def okS (s : Int32) : Prop := s = 2 ∨ s = 3 ∨ s = 4 ∨ s = 5 ∨ s = 6 ∨ s = 7 ∨ s = 8 ∨ s = 9 ∨ s = 10
/-- how many of those that open wait -/
def cO : List Int32 → Nat
  | [] => 0
  | s :: W => (if s = 4 ∨ s = 10 ∨ s = 20 then 1 else 0) + cO W
theorem cod_s {s : Int32} (h : okS s) : codeOk (sCod s) s 0 := by
  unfold codeOk
  rcases h with rfl | rfl | rfl | rfl | rfl | rfl | rfl | rfl | rfl <;> decide
theorem str_ok {s : Int32} (h : okS s ∨ s = 20) (h1 : 1 ≤ sStr s) : okS s := by
  rcases h with h | rfl
  · exact h
  · exact absurd h1 (by decide)
def mC (bs a j : Nat) : Prop := a = 100 ∧ (17 ≤ j ∧ j ≤ 19) ∨ (a = 107 ∨ a = 108) ∧ (bs ≤ j ∧ j < bs + 160) ∨ a = 110
/-- the signs that wait, the codes made, how much is open -/
def MS (bs : Nat) (W cs : List Int32) (op : Nat) (v : pmV) : Prop := v.1 100 17 = nI op ∧ v.1 100 18 = nI W.length ∧ v.1 100 19 = nI (bs + cs.length) ∧ (∀ i, i < W.length → v.1 110 i = W.reverse.getD i 0) ∧ (∀ i, i < cs.length → codeOk (cs.getD i 0) (v.1 107 (bs + i)) (v.1 108 (bs + i))) ∧ (∀ s ∈ W, okS s ∨ s = 20) ∧ cO W ≤ op ∧ W.length + cs.length ≤ 160 ∧ bs ≤ 2720
