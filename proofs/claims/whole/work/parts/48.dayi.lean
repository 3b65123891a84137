/-! THE DAY: what holds in it, as numbers -/
def nB (x : Int32) (B : Nat) : Prop := ∃ a, a ≤ B ∧ x = nI a
theorem nB.le {x : Int32} {A B : Nat} (h : nB x A) (hAB : A ≤ B) : nB x B := by obtain ⟨a, h1, h2⟩ := h; exact ⟨a, by omega, h2⟩
theorem mnI_nI {a b : Nat} (ha : a < 2 ^ 31) (hb : b < 2 ^ 31) : mnI (nI a) (nI b) = nI (min a b) := by
  unfold mnI
  by_cases h : b < a
  · rw [if_pos (nI_lt h ha), Nat.min_eq_right (by omega)]
  · rw [if_neg (nI_nlt (by omega) hb), Nat.min_eq_left (by omega)]
theorem mxI_nI {a b : Nat} (ha : a < 2 ^ 31) (hb : b < 2 ^ 31) : mxI (nI a) (nI b) = nI (max a b) := by
  unfold mxI
  by_cases h : a < b
  · rw [if_pos (nI_lt h hb), Nat.max_eq_right (by omega)]
  · rw [if_neg (nI_nlt (by omega) ha), Nat.max_eq_left (by omega)]
theorem mx0 {a b : Nat} (ha : a < 2 ^ 30) (hb : b < 2 ^ 30) : mxI 0 (nI a - nI b) = nI (a - b) := by
  by_cases h : b ≤ a
  · rw [pk_sub h]
    have := mxI_nI (a := 0) (b := a - b) (by omega) (by omega)
    rw [nI_0, Nat.max_eq_right (by omega)] at this
    exact this
  · have := pk_sneg hb (show a < b by omega)
    unfold mxI
    rw [if_neg (fun q => absurd (Int32.lt_trans q this) (by decide)), show a - b = 0 by omega, nI_0]
theorem wiI_in {x lo hi : Int32} (h : lo ≤ hi) : lo ≤ wiI x lo hi ∧ wiI x lo hi ≤ hi := by
  unfold wiI mxI mnI
  split <;> split <;> grind
theorem wi99 (x : Int32) : nB (wiI x 0 99) 99 := by
  obtain ⟨n, h, _, hn⟩ := nI_rng (a := 0) (b := 99) (by omega) (by omega) (wiI_in (x := x) (lo := 0) (hi := 99) (by decide))
  exact ⟨n, hn, h⟩
theorem arr_in {k : Nat} (hk : k ≤ 99) (x : Int32) : nB (mxI 0 (nI k + wiI x (-99) 99)) 198 := by
  have h1 := wiI_in (x := x) (lo := -99) (hi := 99) (by decide)
  have h2 : 0 ≤ nI k := nI_pos' (by omega)
  have h3 : nI k ≤ 99 := nI_le (b := 99) hk (by omega)
  generalize hy : wiI x (-99) 99 = y at h1
  have h4 : (0 : Int32) ≤ mxI 0 (nI k + y) ∧ mxI 0 (nI k + y) ≤ 198 := by
    unfold mxI; split <;> grind
  obtain ⟨n, h, _, hn⟩ := nI_rng (a := 0) (b := 198) (by omega) (by omega) h4
  exact ⟨n, hn, h⟩
theorem arr_eq (c x : Int32) (h0 : 0 ≤ c) (h9 : c ≤ 99) : (if c + (if 99 < x then 99 else if x < -99 then -99 else x) < 0 then 0 else c + (if 99 < x then 99 else if x < -99 then -99 else x)) = mxI 0 (c + wiI x (-99) 99) := by
  have : wiI x (-99) 99 = if 99 < x then 99 else if x < -99 then -99 else x := by
    unfold wiI mxI mnI
    split <;> split <;> split <;> grind
  rw [this]
  generalize (if 99 < x then (99 : Int32) else if x < -99 then -99 else x) = y
  unfold mxI
  split <;> split <;> grind
/-- who waits on a side, buses among them -/
def dW (s : dT) (w B : Nat) : Prop := ∃ a b, s 0 w = nI a ∧ s 1 w = nI b ∧ b ≤ a ∧ a ≤ B
theorem dW.le {s : dT} {w A B : Nat} (h : dW s w A) (hAB : A ≤ B) : dW s w B := by obtain ⟨a, b, h1, h2, h3, h4⟩ := h; exact ⟨a, b, h1, h2, h3, by omega⟩
theorem dW.cg {s s' : dT} {w B : Nat} (h : dW s w B) (e0 : s' 0 w = s 0 w) (e1 : s' 1 w = s 1 w) : dW s' w B := by
  obtain ⟨a, b, h1, h2, h3, h4⟩ := h
  exact ⟨a, b, e0.trans h1, e1.trans h2, h3, h4⟩
theorem com_of {e : pmV} {n tx z : Nat} {LT : pmT} (hC : Cpl n tx z LT e) {w m : Nat} (hw : w < 2) (hm : m < 60) : nB (e.1 35 (w * 60 + m)) 99 ∧ nB (e.1 36 (w * 60 + m)) 99 := by
  obtain ⟨a, h1, _, h2⟩ := nI_rng (a := 0) (b := 99) (by omega) (by omega) (hC.2.2.1.1 (w * 60 + m) (by omega)).2
  obtain ⟨b, h3, _, h4⟩ := nI_rng (a := 0) (b := 99) (by omega) (by omega) (hC.2.2.1.2.1 (w * 60 + m) (by omega)).2
  exact ⟨⟨a, h2, h1⟩, ⟨b, h4, h3⟩⟩
theorem dW.arr {e : pmV} {n tx z r : Nat} {LT : pmT} (hC : Cpl n tx z LT e) {s : dT} {w m B : Nat} (hw : w < 2) (hm : m < 60) (hB : B ≤ 11880) (h : dW s w B) : dW (pArr e r s w m) w (B + 198) := by
  obtain ⟨a, b, h1, h2, h3, h4⟩ := h
  obtain ⟨⟨c, hc, ec⟩, ⟨u, hu, eu⟩⟩ := com_of hC hw hm
  obtain ⟨q, hq, eq⟩ := arr_in hc (pVal e r s 2 w (nI m))
  refine ⟨a + q, b + min q u, ?_, ?_, by omega, by omega⟩
  · unfold pArr; rw [dU_ne (by decide), dU_on, ec, eq, h1, nI_add]
  · unfold pArr; rw [dU_on, ec, eq, eu, h2, mnI_nI (by omega) (by omega), nI_add]
theorem dW.arr2 {e : pmV} {r : Nat} {s : dT} {w u m B : Nat} (hu : u ≠ w) (h : dW s w B) : dW (pArr e r s u m) w B := by
  refine h.cg ?_ ?_
  · unfold pArr; rw [dU_ne (by decide), dU_off (fun q => hu q.2.symm)]
  · unfold pArr; rw [dU_off (fun q => hu q.2.symm), dU_ne (by decide)]
/-- what is taken, as numbers -/
theorem take_nat {s : dT} {w a b t : Nat} {x : Int32} (h1 : s 0 w = nI a) (h2 : s 1 w = nI b) (hb : b ≤ a) (ha : a < 2 ^ 30) (ht : t < 2 ^ 30) (hx : x = 0 ∨ x = 1) :
    ∃ q o, q ≤ a ∧ o ≤ q ∧ q - o ≤ b ∧ b - (q - o) ≤ a - q ∧ (t = 0 → q = 0) ∧ pTake s w (nI t) x = dU (dU (dU s 0 w (nI (a - q))) 1 w (nI (b - (q - o)))) 5 1 (s 5 1 + nI q) := by
  rcases hx with rfl | rfl
  · refine ⟨min t a, min (min t a) (a - b), by omega, by omega, by omega, by omega, by omega, ?_⟩
    unfold pTake
    simp only [if_true, h1, h2]
    rw [mnI_nI (by omega) (by omega), pk_sub hb, mnI_nI (by omega) (by omega), pk_sub (show min t a ≤ a by omega), pk_sub (show min (min t a) (a - b) ≤ min t a by omega), pk_sub (by omega)]
  · refine ⟨min t b, 0, by omega, by omega, by omega, by omega, by omega, ?_⟩
    unfold pTake
    simp only [if_neg (show ¬ (1 : Int32) = 0 by decide), h1, h2]
    rw [mnI_nI (by omega) (by omega), pk_sub (show min t b ≤ a by omega), show nI (min t b) - 0 = nI (min t b) by rw [show (0 : Int32) = nI 0 from rfl, pk_sub (by omega)]; rfl, pk_sub (by omega)]; rfl
theorem dW.take {s : dT} {u w t B : Nat} {x : Int32} (hu : dW s u B) (h : dW s w B) (hB : B < 2 ^ 30) (ht : t < 2 ^ 30) (hx : x = 0 ∨ x = 1) : dW (pTake s u (nI t) x) w B := by
  obtain ⟨a, b, h1, h2, h3, h4⟩ := hu
  obtain ⟨q, o, l1, l2, l3, l4, _, e⟩ := take_nat h1 h2 h3 (by omega) ht hx
  rw [e]
  by_cases huw : w = u
  · subst huw
    refine ⟨a - q, b - (q - o), ?_, ?_, l4, by omega⟩
    · rw [dU_ne (by decide), dU_ne (by decide), dU_on]
    · rw [dU_ne (by decide), dU_on]
  · refine h.cg ?_ ?_
    · rw [dU_ne (by decide), dU_ne (by decide), dU_off (fun q => huw q.2)]
    · rw [dU_ne (by decide), dU_off (fun q => huw q.2), dU_ne (by decide)]
/-- nothing is taken: nothing changes that is looked at -/
theorem take_0 {s : dT} {w B : Nat} (h : dW s w B) (hB : B < 2 ^ 30) : pTake s w 0 0 = s := by
  obtain ⟨a, b, h1, h2, h3, h4⟩ := h
  obtain ⟨q, o, l1, l2, l3, l4, l5, e⟩ := take_nat (t := 0) h1 h2 h3 (by omega) (by omega) (Or.inl rfl)
  have hq := l5 rfl
  subst hq
  rw [nI_0] at e
  rw [e]
  have e5 : s 5 1 + 0 = s 5 1 := by grind
  rw [e5]
  funext i j
  by_cases c5 : i = 5 ∧ j = 1
  · obtain ⟨rfl, rfl⟩ := c5; rw [dU_on]
  rw [dU_off c5]
  by_cases c1 : i = 1 ∧ j = w
  · obtain ⟨rfl, rfl⟩ := c1; rw [dU_on, h2, show b - (0 - o) = b by omega]
  rw [dU_off c1]
  by_cases c0 : i = 0 ∧ j = w
  · obtain ⟨rfl, rfl⟩ := c0; rw [dU_on, h1]; rfl
  rw [dU_off c0]
theorem nb_of {e : pmV} {n : Nat} {LT : pmT} (hL : cLan n LT e) {i : Nat} (hi : i < n) : ∃ k, k ≤ 20 ∧ pNb e i = nI k := by
  obtain ⟨k, h, _, hk⟩ := nI_rng (a := 0) (b := 20) (by omega) (by omega) (hL.2.2.2.2 i hi).2.2.2.2.2.2.1
  exact ⟨k, hk, h⟩
theorem emp_of {e : pmV} {n tx z : Nat} {LT : pmT} (hC : Cpl n tx z LT e) : ∃ k, k ≤ 9 ∧ e.1 34 2 = nI k := by
  obtain ⟨k, h, _, hk⟩ := nI_rng (a := 0) (b := 9) (by omega) (by omega) hC.2.2.1.2.2.1.2
  exact ⟨k, hk, h⟩
theorem car_of {e : pmV} {n : Nat} {LT : pmT} (hL : cLan n LT e) {i a : Nat} (hi : i < n) (ha : a < 2 ^ 30) : nB (pCar e i (nI a)) 30 := by
  obtain ⟨k, hk, e1⟩ := nb_of hL hi
  unfold pCar
  simp only [e1]
  split
  · exact ⟨k + 2, by omega, by rw [show (2 : Int32) = nI 2 from rfl, nI_add]⟩
  · split
    · refine ⟨(k + 3) / 2, by omega, ?_⟩
      rw [show (2 : Int32) = nI 2 from rfl, nI_add, nI_1, pk_div (by omega) (by omega) (by omega)]
    · split
      · refine ⟨k - a / 10, by omega, ?_⟩
        rw [show (10 : Int32) = nI 10 from rfl, pk_div (by omega) (by omega) (by omega), mx0 (by omega) (by omega)]
      · exact ⟨k, by omega, rfl⟩
theorem res_of {e : pmV} {n tx z : Nat} {LT : pmT} (hC : Cpl n tx z LT e) (i : Nat) : nB (pRes e i (e.1 34 2)) 20 := by
  obtain ⟨k, hk, e1⟩ := emp_of hC
  unfold pRes
  rw [e1]
  split
  · exact ⟨k + 1, by omega, nI_1 k⟩
  · split
    · exact ⟨k + 1, by omega, nI_1 k⟩
    · split
      · exact ⟨2 * k, by omega, by rw [show (2 : Int32) = nI 2 from rfl, nI_mulp]⟩
      · exact ⟨k, by omega, rfl⟩
theorem pBs01 (e : pmV) (i : Nat) : pBs e i = 0 ∨ pBs e i = 1 := by
  unfold pBs
  split
  · exact Or.inr rfl
  · split
    · exact Or.inr rfl
    · exact Or.inl rfl
