/-! THE DAY: what holds from minute to minute -/
def pCn (s : dT) (w : Int32) : Nat → Int32
  | 0 => 0
  | k + 1 => pCn s w k + (if s 3 k = w then 1 else 0)
theorem pCn_cg {s s' : dT} {w : Int32} : ∀ k, (∀ i, i < k → s' 3 i = s 3 i) → pCn s' w k = pCn s w k
  | 0, _ => rfl
  | k + 1, h => by rw [pCn, pCn, pCn_cg k (fun i hi => h i (by omega)), h k (by omega)]
theorem pCn_up {s s' : dT} {w x : Int32} {i : Nat} (h1 : s' 3 i = x) (h2 : ∀ j, j ≠ i → s' 3 j = s 3 j) : ∀ k, i < k → pCn s' w k = pCn s w k - (if s 3 i = w then 1 else 0) + (if x = w then 1 else 0)
  | 0, h => by omega
  | k + 1, h => by
    rw [pCn, pCn]
    by_cases e : i = k
    · subst e
      rw [pCn_cg (s := s) (s' := s') i (fun j hj => h2 j (by omega)), h1]
      grind
    · rw [pCn_up h1 h2 k (by omega), h2 k (fun q => e q.symm)]
      grind
theorem pCnt_pCn {e : pmV} {s : dT} {w : Int32} : ∀ k, (∀ i, i < k → s 3 i = e.1 (124 + i) 2) → pCn s w k = pCnt e w k
  | 0, _ => rfl
  | k + 1, h => by rw [pCn, pCnt, pCnt_pCn k (fun i hi => h i (by omega)), h k (by omega)]
def dJ (n B : Nat) (s : dT) : Prop := (∀ w, w < 2 → dW s w B) ∧ wOk n s ∧ (∀ i, i < n → nB (s 4 i) 20) ∧ ∀ w, w < 2 → s 2 w = pCn s (nI w) n
theorem dJ.le {n A B : Nat} {s : dT} (h : dJ n A s) (hAB : A ≤ B) : dJ n B s := ⟨fun w hw => (h.1 w hw).le hAB, h.2⟩
theorem dJ.cg {n B : Nat} {s s' : dT} (h : dJ n B s) (e : ∀ q j, q ≤ 4 → s' q j = s q j) : dJ n B s' :=
  ⟨fun w hw => (h.1 w hw).cg (e 0 w (by omega)) (e 1 w (by omega)), h.2.1.cg fun i => e 3 i (by omega), fun i hi => by rw [e 4 i (by omega)]; exact h.2.2.1 i hi, fun w hw => by rw [e 2 w (by omega), pCn_cg n (fun i _ => e 3 i (by omega))]; exact h.2.2.2 w hw⟩
theorem dJ.beg {e : pmV} {n : Nat} {LT : pmT} (hL : cLan n LT e) (s : dT) : dJ n 0 (pBeg e n s) := by
  refine ⟨fun w hw => ⟨0, 0, rfl, rfl, by omega, by omega⟩, fun i hi => way_of hL hi, fun i hi => ⟨0, by omega, rfl⟩, fun w hw => ?_⟩
  exact (pCnt_pCn n (fun i _ => rfl)).symm
theorem dJ.arr {e : pmV} {n tx z r : Nat} {LT : pmT} (hC : Cpl n tx z LT e) {s : dT} {m B : Nat} (hm : m < 60) (hB : B ≤ 11682) (h : dJ n B s) : dJ n (B + 198) (pArr e r (pArr e r s 0 m) 1 m) := by
  have q : ∀ q j, q ≠ 0 → q ≠ 1 → pArr e r (pArr e r s 0 m) 1 m q j = s q j := fun q j h0 h1 => by rw [pArr_q h0 h1, pArr_q h0 h1]
  refine ⟨fun w hw => ?_, h.2.1.cg fun i => q 3 i (by decide) (by decide), fun i hi => by rw [q 4 i (by decide) (by decide)]; exact h.2.2.1 i hi, fun w hw => by rw [q 2 w (by decide) (by decide), pCn_cg n (fun i _ => q 3 i (by decide) (by decide))]; exact h.2.2.2 w hw⟩
  have : w = 0 ∨ w = 1 := by omega
  rcases this with rfl | rfl
  · exact ((h.1 0 hw).arr hC (r := r) hw hm (by omega)).arr2 (e := e) (r := r) (m := m) (u := 1) (by decide)
  · exact ((h.1 1 hw).arr2 (e := e) (r := r) (m := m) (u := 0) (by decide)).arr hC hw hm (by omega)
theorem pTurn_z {e : pmV} {n : Nat} {s : dT} {l m : Int32} {q j : Nat} (h : q < 2) : pTurn e n s l m q j = s q j := pTurn_q (by omega) (by omega) (by omega) (by omega)
theorem dJ.turn {e : pmV} {n tx z : Nat} {LT : pmT} (hC : Cpl n tx z LT e) {s : dT} {l m : Int32} {B : Nat} (h : dJ n B s) : dJ n B (pTurn e n s l m) := by
  have hn := hC.2.1.1
  refine ⟨fun w hw => (h.1 w hw).cg (pTurn_z (by decide)) (pTurn_z (by decide)), h.2.1.turn hn, ?_, ?_⟩
  all_goals
    by_cases hc : pCan e n s l m = true
    · obtain ⟨i, hi, rfl, _, _⟩ := pCan_ix hn hc
      obtain ⟨u, hu, hsu⟩ := h.2.1 i hi
      have e1 := w01 hsu hu
      have e2 : pTurn e n s (nI i) m = dU (dU (dU (dU (dU s 2 u (s 2 u - 1)) 3 i (nI (1 - u))) 2 (1 - u) (s 2 (1 - u) + 1)) 4 i (pRes e i (e.1 34 2))) 5 0 (s 5 0 + 1) := by
        unfold pTurn; rw [if_pos hc, nI_clamp (by omega)]; unfold pTurnI
        simp only [e1.1, e1.2, nI_clamp (show 1 - u < 2 ^ 31 by omega)]
        rw [dU_ne (s := dU s 2 u (s 2 u - 1)) (r := 3) (by decide), dU_off (s := s) (r := 2) (j := u) (a := 2) (b := 1 - u) (by omega)]
      rw [e2]
      first
        | (intro j hj
           rw [dU_ne (by decide)]
           by_cases q : j = i
           · subst q; rw [dU_on]; exact res_of hC j
           · rw [dU_off (fun z => q z.2), dU_ne (by decide), dU_ne (by decide), dU_ne (by decide)]; exact h.2.2.1 j hj)
        | (intro w hw
           have hs := pCn_up (s := s) (s' := dU (dU (dU (dU (dU s 2 u (s 2 u - 1)) 3 i (nI (1 - u))) 2 (1 - u) (s 2 (1 - u) + 1)) 4 i (pRes e i (e.1 34 2))) 5 0 (s 5 0 + 1)) (w := nI w) (x := nI (1 - u)) (i := i) (by rw [dU_ne (by decide), dU_ne (by decide), dU_ne (by decide), dU_on]) (fun j hj => by rw [dU_ne (by decide), dU_ne (by decide), dU_ne (by decide), dU_off (fun z => hj z.2), dU_ne (by decide)]) n hi
           rw [hs, ← h.2.2.2 w hw, hsu, dU_ne (by decide), dU_ne (by decide)]
           by_cases q : w = u
           · subst q
             rw [dU_off (by omega), dU_ne (by decide), dU_on, if_pos rfl, if_neg (fun z => absurd ((nI_eq (by omega) (by omega)).mp z) (by omega))]
             grind
           · have q2 : w = 1 - u := by omega
             rw [q2, dU_on, if_pos rfl, if_neg (fun z => absurd ((nI_eq (by omega) (by omega)).mp z) (by omega))]
             grind)
    · have e2 : pTurn e n s l m = s := by unfold pTurn; rw [if_neg hc]
      rw [e2]
      first | exact h.2.2.1 | exact h.2.2.2
theorem dJ.lead {e : pmV} {n tx z : Nat} {LT : pmT} (hC : Cpl n tx z LT e) {s : dT} {m : Int32} {i B : Nat} (hi : i < n) (hB : B ≤ 11880) (h : dJ n B s) (h9 : ∀ j, j < 2 → nB (s 9 j) B) : dJ n B (pLead e s i m) := by
  obtain ⟨u, hu, hsu⟩ := h.2.1 i hi
  have e1 := w01 hsu hu
  unfold pLead
  split
  · split
    · exact h
    · split
      · exact h
      · have hb : ∃ a, a ≤ B ∧ (if s 3 i = 0 then s 9 0 else s 9 1) = nI a := by
          split
          · exact h9 0 (by omega)
          · exact h9 1 (by omega)
        obtain ⟨a, ha, ea⟩ := hb
        obtain ⟨t, ht, et⟩ := car_of hC.2.1 hi (a := a) (by omega)
        rw [ea, et, e1.1]
        have q : ∀ q j, q ≠ 0 → q ≠ 1 → q ≠ 5 → pTake s u (nI t) (pBs e i) q j = s q j := fun q j h0 h1 h5 => pTake_q h0 h1 h5
        exact ⟨fun w hw => (h.1 u hu).take (h.1 w hw) (by omega) (by omega) (pBs01 e i), h.2.1.cg fun j => q 3 j (by decide) (by decide) (by decide), fun j hj => by rw [q 4 j (by decide) (by decide) (by decide)]; exact h.2.2.1 j hj, fun w hw => by rw [q 2 w (by decide) (by decide) (by decide), pCn_cg n (fun j _ => q 3 j (by decide) (by decide) (by decide))]; exact h.2.2.2 w hw⟩
  · rename_i hr
    obtain ⟨k, hk, ek⟩ := h.2.2.1 i hi
    refine ⟨fun w hw => (h.1 w hw).cg (dU_ne (by decide)) (dU_ne (by decide)), h.2.1.cg fun j => dU_ne (by decide), fun j hj => ?_, fun w hw => by rw [dU_ne (by decide), pCn_cg n (fun j _ => dU_ne (by decide))]; exact h.2.2.2 w hw⟩
    by_cases q : j = i
    · subst q
      rw [dU_on, ek]
      rw [ek] at hr
      have h0 : 0 < k := by
        cases k with
        | zero => exact absurd (show nI 0 ≤ 0 by decide) hr
        | succ k => omega
      exact ⟨k - 1, by omega, by rw [show (1 : Int32) = nI 1 from rfl, pk_sub (by omega)]⟩
    · rw [dU_off (fun z => q z.2)]; exact h.2.2.1 j hj
theorem dJ.carry {e : pmV} {n tx z : Nat} {LT : pmT} (hC : Cpl n tx z LT e) {m : Int32} {B : Nat} (hB : B ≤ 11880) : ∀ (k i : Nat) (s : dT), i + k ≤ n → dJ n B s → (∀ j, j < 2 → nB (s 9 j) B) → dJ n B (pCarry e m k i s)
  | 0, _, _, _, h, _ => h
  | k + 1, i, s, hi, h, h9 => dJ.carry hC hB k (i + 1) _ (by omega) (h.lead hC (by omega) hB h9) (fun j hj => by rw [pLead_q (by decide) (by decide) (by decide) (by decide)]; exact h9 j hj)
/-- who is helped, by how much -/
def hOk2 (s : dT) : Prop := ∃ w t, w < 2 ∧ t ≤ 100 ∧ s 8 2 = nI w ∧ s 8 3 = nI t
theorem hOk2.ok {s : dT} (h : hOk2 s) : hOk s := by obtain ⟨w, t, h1, h2, h3, h4⟩ := h; exact ⟨w, h1, h3⟩
theorem hOk2.min {e : pmV} {n r : Nat} {s : dT} {m : Nat} (h : hOk2 s) : hOk2 (pMin e n r s m) := by
  obtain ⟨w, t, h1, h2, h3, h4⟩ := h
  exact ⟨w, t, h1, h2, (pMin_q (by decide) (by decide) (by decide) (by decide) (by decide) (by decide) (by decide)).trans h3, (pMin_q (by decide) (by decide) (by decide) (by decide) (by decide) (by decide) (by decide)).trans h4⟩
theorem pBgn_9 {s : dT} {j : Nat} (hj : j < 2) : pBgn s 9 j = s 0 j := by
  have : j = 0 ∨ j = 1 := by omega
  unfold pBgn
  rcases this with rfl | rfl
  · rw [dU_off (by decide), dU_on]
  · rw [dU_on]
theorem dJ.bgn {n B : Nat} {s : dT} (h : dJ n B s) : dJ n B (pBgn s) ∧ ∀ j, j < 2 → nB (pBgn s 9 j) B := by
  refine ⟨h.cg fun q j hq => pBgn_q (by omega), fun j hj => ?_⟩
  rw [pBgn_9 hj]
  obtain ⟨a, b, h1, h2, h3, h4⟩ := h.1 j hj
  exact ⟨a, h4, h1⟩
theorem dJ.take {n B w t : Nat} {s : dT} (h : dJ n B s) (hw : w < 2) (hB : B < 2 ^ 30) (ht : t < 2 ^ 30) : dJ n B (pTake s w (nI t) 0) := by
  have q : ∀ q j, q ≠ 0 → q ≠ 1 → q ≠ 5 → pTake s w (nI t) 0 q j = s q j := fun q j h0 h1 h5 => pTake_q h0 h1 h5
  exact ⟨fun u hu => (h.1 w hw).take (h.1 u hu) hB ht (Or.inl rfl), h.2.1.cg fun j => q 3 j (by decide) (by decide) (by decide), fun j hj => by rw [q 4 j (by decide) (by decide) (by decide)]; exact h.2.2.1 j hj, fun u hu => by rw [q 2 u (by decide) (by decide) (by decide), pCn_cg n (fun j _ => q 3 j (by decide) (by decide) (by decide))]; exact h.2.2.2 u hu⟩
theorem dJ.min {e : pmV} {n tx z r : Nat} {LT : pmT} (hC : Cpl n tx z LT e) {s : dT} {m : Nat} (hm : m < 60) (hH : hOk2 s) (h : dJ n (198 * m) s) : dJ n (198 * (m + 1)) (pMin e n r s m) := by
  obtain ⟨w, t, h1, h2, h3, h4⟩ := hH
  have a1 := (h.arr hC (r := r) hm (by omega)).turn hC (l := pTold e n r (pArr e r (pArr e r s 0 m) 1 m) m) (m := nI m)
  have a2 := a1.bgn
  have a3 := dJ.carry hC (m := nI m) (by omega) n 0 _ (by omega) a2.1 a2.2
  unfold pMin
  rw [h3, h4, nI_clamp (by omega)]
  exact (a3.take h1 (by omega) (by omega)).le (by omega)
theorem pain_nat {e : pmV} {r : Nat} {s : dT} {w : Nat} {m : Int32} {B : Nat} (h : dW s w B) : ∃ x, x ≤ 99 * B ∧ pPain e r s w m = nI x := by
  obtain ⟨a, b, h1, h2, h3, h4⟩ := h
  obtain ⟨q, hq, eq⟩ := wi99 (pVal e r s 1 w m)
  refine ⟨q * a, Nat.mul_le_mul hq h4, ?_⟩
  unfold pPain
  rw [eq, h1, nI_mulp]
theorem pPn_nat {e : pmV} {n r : Nat} {s : dT} {m B : Nat} (hB : B ≤ 11880) (h : dJ n B s) : ∃ x, x ≤ 2352240 ∧ pPn e r s m = lN x := by
  obtain ⟨a, ha, ea⟩ := pain_nat (e := e) (r := r) (m := nI m) (h.1 0 (by decide))
  obtain ⟨b, hb, eb⟩ := pain_nat (e := e) (r := r) (m := nI m) (h.1 1 (by decide))
  refine ⟨a + b, by omega, ?_⟩
  unfold pPn
  rw [ea, eb, nI_add, nI_l (by omega)]
theorem pDay_ok {e : pmV} {n tx z r : Nat} {LT : pmT} (hC : Cpl n tx z LT e) : ∀ (k m : Nat) (s : dT) (P : Nat), m + k ≤ 60 → dJ n (198 * m) s → hOk2 s → P ≤ m * 2400000 → ∃ P', (pDay e n r k m s (lN P)).2 = lN P' ∧ P ≤ P' ∧ P' ≤ (m + k) * 2400000 ∧ dJ n (198 * (m + k)) (pDay e n r k m s (lN P)).1
  | 0, m, s, P, _, hJ, _, hP => ⟨P, rfl, by omega, by omega, hJ⟩
  | k + 1, m, s, P, hk, hJ, hH, hP => by
    have h1 := hJ.min hC (r := r) (by omega) hH
    obtain ⟨x, hx, ex⟩ := pPn_nat (e := e) (r := r) (m := m) (by omega) h1
    obtain ⟨P', a1, a2, a3, a4⟩ := pDay_ok hC k (m + 1) _ (P + x) (by omega) h1 hH.min (by omega)
    refine ⟨P', ?_, Nat.le_trans (Nat.le_add_right _ _) a2, by rw [show m + (k + 1) = m + 1 + k by omega]; exact a3, ?_⟩
    · rw [pDay, ex, lN_add]; exact a1
    · rw [pDay, ex, lN_add, show m + (k + 1) = m + 1 + k by omega]; exact a4
/-- the day as far as a limit: the whole day, or both are no less than it -/
theorem pDayL_ok {e : pmV} {n tx z r : Nat} {LT : pmT} (hC : Cpl n tx z LT e) {L : Int64} : ∀ (k m : Nat) (s : dT) (P : Nat), m + k ≤ 60 → dJ n (198 * m) s → hOk2 s → P ≤ m * 2400000 → pDayL e n r L k m s (lN P) = pDay e n r k m s (lN P) ∨ (L ≤ (pDayL e n r L k m s (lN P)).2 ∧ L ≤ (pDay e n r k m s (lN P)).2)
  | 0, m, s, P, _, hJ, _, hP => Or.inl rfl
  | k + 1, m, s, P, hk, hJ, hH, hP => by
    by_cases hL : L ≤ lN P
    · obtain ⟨P', a1, a2, a3, _⟩ := pDay_ok hC (r := r) (k + 1) m s P hk hJ hH hP
      refine Or.inr ⟨by rw [pDayL, if_pos hL]; exact hL, ?_⟩
      rw [a1]
      exact Int64.le_trans hL ((pk_lLE (by omega) (by omega)).mpr a2)
    · have h1 := hJ.min hC (r := r) (by omega) hH
      obtain ⟨x, hx, ex⟩ := pPn_nat (e := e) (r := r) (m := m) (by omega) h1
      rw [pDayL, if_neg hL, pDay, ex, lN_add]
      exact pDayL_ok hC k (m + 1) _ (P + x) (by omega) h1 hH.min (by omega)
