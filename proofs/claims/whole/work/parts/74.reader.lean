/-! TEXTS: the class's reader among any cells behind its own; what its grammar calls -/
/-- the class's cells stand first -/
def TK (T : pmT) : Prop := ∀ i, i < 68 → T[i]? = pmT0[i]?
theorem TK.all {LT : pmT} : TK (pmT0 ++ LT) := fun i hi => List.getElem?_append_left (by rw [show pmT0.length = 92 from rfl]; omega)
theorem TK.k {T : pmT} (h : TK T) {a : Nat} (h1 : 32 ≤ a) (h2 : a < 100) : pmKind T a = pmKind pmT0 a := by
  unfold pmKind
  rw [if_neg (by omega), if_neg (by omega), h (a - 32) (by omega)]
def pmRfX (v : pmV) : Prop := ∀ q ∈ pmRfL, q.1 < 100 → v.2.2 q.1 q.2.1 = some q.2.2
theorem pmRf.x {v : pmV} (h : pmRf v) : pmRfX v := fun q hq _ => h q hq
theorem pmRfX.ag {v v' : pmV} (h : pmRfX v) (hf : v'.2.2 = v.2.2) : pmRfX v' := fun q hq hl => by rw [hf]; exact h q hq hl
theorem pmRfX.r {v : pmV} {x : Option Nat} (h : pmRfX v) : pmRfX (uR v 41 6 x) := fun q hq hl => (show (uR v 41 6 x).2.2 q.1 q.2.1 = v.2.2 q.1 q.2.1 from if_neg (fun z => absurd z (by revert q; decide))).trans (h q hq hl)
theorem rX_40_0 {v : pmV} (h : pmRfX v) : v.2.2 40 0 = some 68 := h (40, 0, 68) (List.mem_of_getElem? (i := 12) rfl) (by decide)
theorem rX_40_1 {v : pmV} (h : pmRfX v) : v.2.2 40 1 = some 72 := h (40, 1, 72) (List.mem_of_getElem? (i := 13) rfl) (by decide)
theorem rX_40_2 {v : pmV} (h : pmRfX v) : v.2.2 40 2 = some 76 := h (40, 2, 76) (List.mem_of_getElem? (i := 14) rfl) (by decide)
theorem rX_40_3 {v : pmV} (h : pmRfX v) : v.2.2 40 3 = some 80 := h (40, 3, 80) (List.mem_of_getElem? (i := 15) rfl) (by decide)
theorem rX_40_4 {v : pmV} (h : pmRfX v) : v.2.2 40 4 = some 84 := h (40, 4, 84) (List.mem_of_getElem? (i := 16) rfl) (by decide)
theorem rX_40_5 {v : pmV} (h : pmRfX v) : v.2.2 40 5 = some 88 := h (40, 5, 88) (List.mem_of_getElem? (i := 17) rfl) (by decide)
theorem rX_41_0 {v : pmV} (h : pmRfX v) : v.2.2 41 0 = some 42 := h (41, 0, 42) (List.mem_of_getElem? (i := 18) rfl) (by decide)
theorem rX_41_2 {v : pmV} (h : pmRfX v) : v.2.2 41 2 = some 43 := h (41, 2, 43) (List.mem_of_getElem? (i := 19) rfl) (by decide)
theorem rX_41_3 {v : pmV} (h : pmRfX v) : v.2.2 41 3 = some 44 := h (41, 3, 44) (List.mem_of_getElem? (i := 20) rfl) (by decide)
theorem rX_41_4 {v : pmV} (h : pmRfX v) : v.2.2 41 4 = some 45 := h (41, 4, 45) (List.mem_of_getElem? (i := 21) rfl) (by decide)
theorem rX_68_0 {v : pmV} (h : pmRfX v) : v.2.2 68 0 = some 69 := h (68, 0, 69) (List.mem_of_getElem? (i := 41) rfl) (by decide)
theorem rX_68_1 {v : pmV} (h : pmRfX v) : v.2.2 68 1 = some 70 := h (68, 1, 70) (List.mem_of_getElem? (i := 42) rfl) (by decide)
theorem rX_68_2 {v : pmV} (h : pmRfX v) : v.2.2 68 2 = some 71 := h (68, 2, 71) (List.mem_of_getElem? (i := 43) rfl) (by decide)
theorem rX_72_0 {v : pmV} (h : pmRfX v) : v.2.2 72 0 = some 73 := h (72, 0, 73) (List.mem_of_getElem? (i := 44) rfl) (by decide)
theorem rX_72_1 {v : pmV} (h : pmRfX v) : v.2.2 72 1 = some 74 := h (72, 1, 74) (List.mem_of_getElem? (i := 45) rfl) (by decide)
theorem rX_72_2 {v : pmV} (h : pmRfX v) : v.2.2 72 2 = some 75 := h (72, 2, 75) (List.mem_of_getElem? (i := 46) rfl) (by decide)
theorem rX_76_0 {v : pmV} (h : pmRfX v) : v.2.2 76 0 = some 77 := h (76, 0, 77) (List.mem_of_getElem? (i := 47) rfl) (by decide)
theorem rX_76_1 {v : pmV} (h : pmRfX v) : v.2.2 76 1 = some 78 := h (76, 1, 78) (List.mem_of_getElem? (i := 48) rfl) (by decide)
theorem rX_76_2 {v : pmV} (h : pmRfX v) : v.2.2 76 2 = some 79 := h (76, 2, 79) (List.mem_of_getElem? (i := 49) rfl) (by decide)
theorem rX_80_0 {v : pmV} (h : pmRfX v) : v.2.2 80 0 = some 81 := h (80, 0, 81) (List.mem_of_getElem? (i := 50) rfl) (by decide)
theorem rX_80_1 {v : pmV} (h : pmRfX v) : v.2.2 80 1 = some 82 := h (80, 1, 82) (List.mem_of_getElem? (i := 51) rfl) (by decide)
theorem rX_80_2 {v : pmV} (h : pmRfX v) : v.2.2 80 2 = some 83 := h (80, 2, 83) (List.mem_of_getElem? (i := 52) rfl) (by decide)
theorem rX_84_0 {v : pmV} (h : pmRfX v) : v.2.2 84 0 = some 85 := h (84, 0, 85) (List.mem_of_getElem? (i := 53) rfl) (by decide)
theorem rX_84_1 {v : pmV} (h : pmRfX v) : v.2.2 84 1 = some 86 := h (84, 1, 86) (List.mem_of_getElem? (i := 54) rfl) (by decide)
theorem rX_84_2 {v : pmV} (h : pmRfX v) : v.2.2 84 2 = some 87 := h (84, 2, 87) (List.mem_of_getElem? (i := 55) rfl) (by decide)
theorem rX_88_0 {v : pmV} (h : pmRfX v) : v.2.2 88 0 = some 89 := h (88, 0, 89) (List.mem_of_getElem? (i := 56) rfl) (by decide)
theorem rX_88_1 {v : pmV} (h : pmRfX v) : v.2.2 88 1 = some 90 := h (88, 1, 90) (List.mem_of_getElem? (i := 57) rfl) (by decide)
theorem rX_88_2 {v : pmV} (h : pmRfX v) : v.2.2 88 2 = some 91 := h (88, 2, 91) (List.mem_of_getElem? (i := 58) rfl) (by decide)
theorem kT_41 {T : pmT} (h : TK T) : pmKind T 41 = 4 := (h.k (by decide) (by decide)).trans rfl
theorem tT_42 {T : pmT} (h : TK T) : T[42 - 32]? = some (20, 160) := (h _ (by decide)).trans rfl
theorem tT_43 {T : pmT} (h : TK T) : T[43 - 32]? = some (20, 161) := (h _ (by decide)).trans rfl
theorem tT_44 {T : pmT} (h : TK T) : T[44 - 32]? = some (20, 161) := (h _ (by decide)).trans rfl
theorem tT_45 {T : pmT} (h : TK T) : T[45 - 32]? = some (20, 161) := (h _ (by decide)).trans rfl
theorem kT_text {T : pmT} (h : TK T) {r : Nat} (hr : r < 6) : pmKind T (68 + 4 * r) = 9 := (h.k (by omega) (by omega)).trans (by
  have : r = 0 ∨ r = 1 ∨ r = 2 ∨ r = 3 ∨ r = 4 ∨ r = 5 := by omega
  rcases this with rfl | rfl | rfl | rfl | rfl | rfl <;> rfl)
theorem tT_code {T : pmT} (h : TK T) {r : Nat} (hr : r < 6) : T[69 + 4 * r - 32]? = some (20, 160) := (h _ (by omega)).trans (by
  have : r = 0 ∨ r = 1 ∨ r = 2 ∨ r = 3 ∨ r = 4 ∨ r = 5 := by omega
  rcases this with rfl | rfl | rfl | rfl | rfl | rfl <;> rfl)
theorem tT_ends {T : pmT} (h : TK T) {r : Nat} (hr : r < 6) : T[70 + 4 * r - 32]? = some (20, 3) := (h _ (by omega)).trans (by
  have : r = 0 ∨ r = 1 ∨ r = 2 ∨ r = 3 ∨ r = 4 ∨ r = 5 := by omega
  rcases this with rfl | rfl | rfl | rfl | rfl | rfl <;> rfl)
theorem rX_code {v : pmV} (h : pmRfX v) {r : Nat} (hr : r < 6) : v.2.2 (68 + 4 * r) 0 = some (69 + 4 * r) := by
  have : r = 0 ∨ r = 1 ∨ r = 2 ∨ r = 3 ∨ r = 4 ∨ r = 5 := by omega
  rcases this with rfl | rfl | rfl | rfl | rfl | rfl
  · exact rX_68_0 h
  · exact rX_72_0 h
  · exact rX_76_0 h
  · exact rX_80_0 h
  · exact rX_84_0 h
  · exact rX_88_0 h
theorem rX_ends {v : pmV} (h : pmRfX v) {r : Nat} (hr : r < 6) : v.2.2 (68 + 4 * r) 1 = some (70 + 4 * r) := by
  have : r = 0 ∨ r = 1 ∨ r = 2 ∨ r = 3 ∨ r = 4 ∨ r = 5 := by omega
  rcases this with rfl | rfl | rfl | rfl | rfl | rfl
  · exact rX_68_1 h
  · exact rX_72_1 h
  · exact rX_76_1 h
  · exact rX_80_1 h
  · exact rX_84_1 h
  · exact rX_88_1 h
/-- what the grammar reads: tokens, values, where the codes go -/
def RE (T : pmT) (tok val : Nat → Int32) (N t : Nat) (e : pmV) : Prop := TK T ∧ pmRfX e ∧ e.2.2 41 6 = some (68 + 4 * t) ∧ t < 6 ∧ N ≤ 160 ∧ tok N = 0 ∧ (∀ j, j ≤ N → e.1 43 j = tok j) ∧ ∀ j, j ≤ N → tok j = 2 ∨ tok j = 3 → e.1 45 j = val j
def gC (t : Nat) (a j : Nat) : Prop := a = 41 ∧ (j = 5 ∨ j = 7) ∨ a = 69 + 4 * t
/-- so far it has read, and this is what it has put -/
def GS (e : pmV) (t k : Nat) (cs : List Int32) (v : pmV) : Prop := Of (gC t) e v ∧ v.1 41 5 = nI k ∧ v.1 41 7 = nI cs.length ∧ ∀ i, i < cs.length → v.1 (69 + 4 * t) i = cs.getD i 0
theorem GS.nx {e v : pmV} {t k k' : Nat} {cs : List Int32} (h : GS e t k cs v) : GS e t k' cs (uI v 41 5 (nI k')) := ⟨h.1.i (Or.inl ⟨rfl, Or.inl rfl⟩), uI_on, (uI_off (by omega)).trans h.2.2.1, fun i hi => (uI_off (by omega)).trans (h.2.2.2 i hi)⟩
theorem GS.pt {e v : pmV} {t k : Nat} {cs : List Int32} (c : Int32) (h : GS e t k cs v) : GS e t k (cs ++ [c]) (uI (uI v (69 + 4 * t) cs.length c) 41 7 (nI (cs.length + 1))) := ⟨(h.1.i (Or.inr rfl)).i (Or.inl ⟨rfl, Or.inr rfl⟩), (uI_off (by omega)).trans ((uI_off (by omega)).trans h.2.1), by rw [List.length_append]; exact uI_on, fun i hi => by
  rw [uI_off (by omega)]
  by_cases c : i = cs.length
  · subst c; rw [uI_on]; simp
  · rw [List.length_append, List.length_singleton] at hi
    rw [uI_off (by omega), h.2.2.2 i (by omega)]
    simp only [List.getD_eq_getElem?_getD]
    rw [List.getElem?_append_left (by omega)]⟩
section
variable {T : pmT} {tok val : Nat → Int32} {N t : Nat} {e v : pmV} {k : Nat} {cs : List Int32}
theorem RE.x (hE : RE T tok val N t e) (hG : GS e t k cs v) : pmRfX v := hE.2.1.ag (congrArg Prod.snd hG.1.1)
theorem RE.tx (hE : RE T tok val N t e) (hG : GS e t k cs v) : v.2.2 41 6 = some (68 + 4 * t) := (congrFun (congrFun (congrArg Prod.snd hG.1.1) 41) 6).trans hE.2.2.1
theorem RE.tk (hE : RE T tok val N t e) (hG : GS e t k cs v) {j : Nat} (hj : j ≤ N) : v.1 43 j = tok j := (hG.1.off (by unfold gC; have := hE.2.2.2.1; omega)).trans (hE.2.2.2.2.2.2.1 j hj)
theorem RE.vl (hE : RE T tok val N t e) (hG : GS e t k cs v) {j : Nat} (hj : j ≤ N) (h : tok j = 2 ∨ tok j = 3) : v.1 45 j = val j := (hG.1.off (by unfold gC; have := hE.2.2.2.1; omega)).trans (hE.2.2.2.2.2.2.2 j hj h)
end
theorem c_X4_token {X : pmX} {d : Nat} {v : pmV} {P : Option Value → pmT → pmV → Prop} {T : pmT} {tok val : Nat → Int32} {N t k : Nat} {cs : List Int32} {e : pmV} (hE : RE T tok val N t e) (hG : GS e t k cs v) (hk : k ≤ N) (k0 : P (some (.int (tok k))) T v) : EvP X d MX4_token 0 [.ref 41] [] T v P := by
  have h5 := hE.2.2.2.2.1
  have h4 := hE.2.2.2.1
  refine ev_aload_n 0 dX4_token_0 rfl (by decide) ?_
  refine gf_4_55 (x := nI k) (pc := 1) rfl dX4_token_1 (kT_41 hE.1) hG.2.1 ?_
  refine ev_aload_n 4 dX4_token_4 rfl (by decide) ?_
  refine gf_4_15 (pc := 5) rfl dX4_token_5 (kT_41 hE.1) (rX_41_2 (hE.x hG)) ?_
  refine ev_alen (x := 161) 8 dX4_token_8 (Nat.le_of_ble_eq_true rfl) (tT_43 hE.1) (by decide) (by decide) ?_
  refine ev_ic_geN (a := k) (b := 161) 9 24 dX4_token_9 rfl (by omega) (by omega) (fun c_9 => by omega) (fun c_9 => ?_)
  refine ev_aload_n 12 dX4_token_12 rfl (by decide) ?_
  refine gf_4_15 (pc := 13) rfl dX4_token_13 (kT_41 hE.1) (rX_41_2 (hE.x hG)) ?_
  refine ev_aload_n 16 dX4_token_16 rfl (by decide) ?_
  refine gf_4_55 (x := nI k) (pc := 17) rfl dX4_token_17 (kT_41 hE.1) hG.2.1 ?_
  refine ev_ialdJ (x := tok k) (j := k) 20 dX4_token_20 (Nat.le_of_ble_eq_true rfl) (tT_43 hE.1) (pm_inI (by omega) (by omega)) (nI_clamp (by omega)) (hE.tk hG (by omega)) ?_
  refine ev_goto 21 25 dX4_token_21 rfl ?_
  refine ev_ireturn 25 dX4_token_25 rfl rfl ?_
  exact k0

