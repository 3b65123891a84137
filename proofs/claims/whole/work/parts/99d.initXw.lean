/-! CONSTRUCTORS: the class's as a whole -/
theorem c_X4_lay {X : pmX} {d : Nat} {v : pmV} {P : Option Value → pmT → pmV → Prop} {T : pmT} (hT : TK T) (hX : pmRfX v) (K : ∀ v', Of layC v v' → v'.1 41 1 = nI (pmLen 0) → (∀ j, j < pmLen 0 → v'.1 42 j = sB 0 j) → P none T v') : EvP X (d + 5) MX4_lay 0 [.ref 41, .ref 0, pmJ] [] T v P := by
  refine ev_aload_n 0 dX4_lay_0 rfl (by decide) ?_
  refine ev_iconst 1 dX4_lay_1 kI_0 ?_
  refine pf_4_31 (pc := 2) rfl dX4_lay_2 (kT_41 hT) ?_
  refine ev_iconst 5 dX4_lay_5 kI_0 ?_
  refine ev_istore_n (ls' := [.ref 41, .ref 0, .int 0]) 6 dX4_lay_6 (Nat.le_of_ble_eq_true rfl) rfl ?_
  refine lp_lay (d := d) hT 34 0 _ rfl (hX.ag rfl) uI_on (fun j hj => absurd hj (Nat.not_lt_zero j)) (fun v' hO h1 h2 => K v' ((Of.nil.i (Or.inr ⟨rfl, rfl⟩)).tr hO) h1 h2)
theorem TK.t68 : TK (pmT0.take 68) := fun i hi => by rw [List.getElem?_take, if_pos hi]
theorem IN.x {v : pmV} (h : IN 32 pmV0 iI0 iR0 v) : pmRfX v := fun q hq hl => (h.2.2 _ _).trans (by
  have : ∀ q ∈ pmRfL, q.1 < 100 → (if 32 ≤ q.1 then lkR iR0 q.1 q.2.1 else none) = some q.2.2 := by decide +kernel
  exact this q hq hl)
/-- behind the class's constructor -/
def XI (v : pmV) : Prop := (∀ a j, v.2.2 a j = if a = 41 ∧ j = 6 then some 68 else if 32 ≤ a then lkR iR0 a j else none) ∧ (∀ a j, v.2.1 a j = 0) ∧ (∀ a j, ¬ (41 ≤ a ∧ a ≤ 45 ∨ a = 69 ∨ a = 70 ∨ a = 32 ∧ j = 6) → v.1 a j = if 32 ≤ a then lkI iI0 a j else 0) ∧ v.1 41 1 = 0 ∧ v.1 32 6 = 1 ∧ (∀ i, i < 5 → v.1 69 i = [-1, 30, -14, 1, 0].getD i 0) ∧ ∀ p, p < 3 → v.1 70 p = nI ([3, 4, 5].getD p 0)
theorem XI.of {vI v1 u v2 : pmV} {m k : Nat} (hI : IN 32 pmV0 iI0 iR0 vI) (hO : Of layC vI v1) (hS : SPL fB 34 v1 u m) (hR : RPs (uI (uI (uR u 41 6 (some (68 + 4 * 0))) 41 7 0) 41 5 0) 0 k [-1, 30, -14, 1, 0] [3, 4, 5] v2) : XI (uI (uI v2 41 1 0) 32 6 1) := by
  have h2 : v2.2 = (uR u 41 6 (some (68 + 4 * 0))).2 := hR.1.1
  have hu : u.2 = vI.2 := hS.1.1.trans hO.1
  refine ⟨fun a j => ?_, fun a j => ?_, fun a j h => ?_, (uI_off (by decide)).trans uI_on, uI_on, fun i hi => (uI_ne (by decide)).trans ((uI_ne (by decide)).trans (hR.2.2.2.1 i hi)), fun p hp => (uI_ne (by decide)).trans ((uI_ne (by decide)).trans (hR.2.2.2.2 p hp))⟩
  · show v2.2.2 a j = _
    rw [h2]
    show (if a = 41 ∧ j = 6 then some (68 + 4 * 0) else u.2.2 a j) = _
    by_cases c : a = 41 ∧ j = 6
    · rw [if_pos c, if_pos c]
    · rw [if_neg c, if_neg c, hu]; exact hI.2.2 a j
  · show v2.2.1 a j = 0
    rw [h2]
    show u.2.1 a j = 0
    rw [hu, hI.2.1]; split <;> rfl
  · have e := hI.1 a j
    rw [← show (uI (uI v2 41 1 0) 32 6 1).1 a j = vI.1 a j from (uI_off (by omega)).trans ((uI_ne (by omega)).trans ((hR.1.off (by unfold rC gC; omega)).trans ((uI_ne (by omega)).trans ((uI_ne (by omega)).trans ((hS.1.off (by unfold sC; omega)).trans (hO.off (by unfold layC; omega)))))))] at e
    exact e
theorem c_X11_init {X : pmX} {d : Nat} {v : pmV} {P : Option Value → pmT → pmV → Prop} (hI : IN 32 pmV0 [] [] v) (K : ∀ v', XI v' → P none (pmT0.take 68) v') : EvP X (d + 60) MX11_init 0 [.ref 32, pmJ] [] (pmT0.take 1) v P := by
  refine c_X11_init1 hI (fun v hI => ?_)
  refine ev_aload_n 134 dX11_init_134 rfl (by decide) ?_
  refine gf_11_34 (pc := 135) rfl dX11_init_135 (by decide +kernel) (hI.rr (x := some 41) (by decide) (by decide +kernel)) ?_
  refine ev_ldcS 138 dX11_init_138 ln_11_57 ls_11_57 ?_
  refine cv_11_59_4 (pc := 140) rfl dX11_init_140 (by decide +kernel) (Nat.le_of_ble_eq_true rfl) ?_
  refine c_X4_lay (d := d + 54) TK.t68 hI.x (fun v1 hO1 hz1 hb1 => ?_)
  refine ev_aload_n 143 dX11_init_143 rfl (by decide) ?_
  refine gf_11_34 (pc := 144) rfl dX11_init_144 (by decide +kernel) ((congrFun (congrFun (congrArg Prod.snd hO1.1) _) _).trans (hI.rr (x := some 41) (by decide) (by decide +kernel))) ?_
  refine ev_aload_n 147 dX11_init_147 rfl (by decide) ?_
  refine gf_11_27 (pc := 148) rfl dX11_init_148 (by decide +kernel) ((congrFun (congrFun (congrArg Prod.snd hO1.1) _) _).trans (hI.rr (x := some 40) (by decide) (by decide +kernel))) ?_
  refine ev_iconst 151 dX11_init_151 kI_0 ?_
  refine ev_aaldJ (x := 68) (j := 0) 152 dX11_init_152 (Nat.le_of_ble_eq_true rfl) (tq (by decide) ty_40) (by decide) (by decide) rfl ((congrFun (congrFun (congrArg Prod.snd hO1.1) _) _).trans (hI.rr (x := some 68) (by decide) (by decide +kernel))) ?_
  refine cv_11_63_4 (pc := 153) rfl dX11_init_153 (by decide +kernel) (Nat.le_of_ble_eq_true rfl) ?_
  refine c_X4_read (d := d + 6) (t := 0) (F := 3208) (B := fB) (z := 34) TK.t68 (hI.x.ag (congrArg Prod.snd hO1.1)) (by decide) hz1 hb1 fB_r (by decide) (Nat.le_refl _) (fun m u k v2 hS hk hg hO2 => absurd (ft (hg [] [])).1 (by decide)) (fun m u k cs es v2 hS hk hg hR => ?_)
  obtain ⟨_, rfl, rfl⟩ := ft hg
  have hR2 : ∀ a j, v2.2.2 a j = if a = 41 ∧ j = 6 then some 68 else if 32 ≤ a then lkR iR0 a j else none := (XI.of hI hO1 hS hR).1
  refine ev_pop 156 dX11_init_156 rfl ?_
  refine ev_aload_n 157 dX11_init_157 rfl (by decide) ?_
  refine gf_11_34 (pc := 158) rfl dX11_init_158 (by decide +kernel) ((hR2 _ _).trans (by decide +kernel : _ = some 41)) ?_
  refine ev_iconst 161 dX11_init_161 kI_0 ?_
  refine pf_11_67 (pc := 162) rfl dX11_init_162 (by decide +kernel) ?_
  refine ev_aload_n 165 dX11_init_165 rfl (by decide) ?_
  refine ev_iconst 166 dX11_init_166 kI_1 ?_
  refine pf_11_71 (pc := 167) rfl dX11_init_167 (by decide +kernel) ?_
  refine ev_return 170 dX11_init_170 rfl ?_
  exact K _ (XI.of hI hO1 hS hR)
