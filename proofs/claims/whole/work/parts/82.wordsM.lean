/-! TEXTS: the class's read; words as numbers -/
theorem c_X4_read {X : pmX} {d : Nat} {v : pmV} {P : Option Value → pmT → pmV → Prop} {T : pmT} {t F : Nat} {B : Nat → Int32} {z : Nat} (hK : TK T) (hX : pmRfX v) (hz160 : z ≤ 160) (hz : v.1 41 1 = nI z) (hB : ∀ j, j < z → v.1 42 j = B j) (h255 : ∀ j, j < z → 0 ≤ B j ∧ B j ≤ 255) (ht : t < 6) (hF : 3208 ≤ F) (kF : ∀ m u k v', SPL B z v u m → k ≤ m → (∀ cs es, gRd (tC B z) (tV B z) F false k cs es) → Of (rC t) (uI (uI (uR u 41 6 (some (68 + 4 * t))) 41 7 0) 41 5 0) v' → P (some (.int (nI (tA B z k)))) T v') (kT : ∀ m u k cs es v', SPL B z v u m → k ≤ m → gRd (tC B z) (tV B z) F true k cs es → RPs (uI (uI (uR u 41 6 (some (68 + 4 * t))) 41 7 0) 41 5 0) t k cs es v' → P (some (.int (-1))) T v') : EvP X (d + 53) MX4_read 0 [.ref 41, .ref (68 + 4 * t), pmJ] [] T v P := by
  refine ev_aload_n 0 dX4_read_0 rfl (by decide) ?_
  refine cv_4_49_4 (pc := 1) rfl dX4_read_1 (kT_41 hK) (Nat.le_of_ble_eq_true rfl) ?_
  refine c_X4_split hK hX hz160 hz hB h255 (fun m u hS => ?_)
  have hN0 : tC B z m = 0 := by unfold tC; rw [if_neg (by rw [hS.2.2.1]; omega)]
  exact c_X4_read4 (F := F) (N := m) (tok := tC B z) (val := tV B z) (pl := tA B z) hK (hX.ag (congrArg Prod.snd hS.1.1)) ht (by have := hS.2.1; omega) hN0 (fun j hj => (hS.2.2.2.2 j hj).1) (fun j hj h => (hS.2.2.2.2 j hj).2.2 h) (fun j hj => (hS.2.2.2.2 j hj).2.1) (by have := hS.2.1; omega) (fun k v' a b c => kF m u k v' hS a b c) (fun k cs es v' a b c => kT m u k cs es v' hS a b c)
/-- letters as a number in base 32 -/
def enc (g : Nat → Nat) : Nat → Nat
  | 0 => 0
  | n + 1 => 32 * enc g n + g n
theorem enc_inj {g h : Nat → Nat} : ∀ (n k : Nat), (∀ j, j < n → 1 ≤ g j ∧ g j < 32) → (∀ j, j < k → 1 ≤ h j ∧ h j < 32) → enc g n = enc h k → n = k ∧ ∀ j, j < n → g j = h j
  | 0, 0, _, _, _ => ⟨rfl, fun j hj => absurd hj (Nat.not_lt_zero _)⟩
  | 0, k + 1, _, h2, e => by have := h2 k (by omega); rw [enc, enc] at e; omega
  | n + 1, 0, h1, _, e => by have := h1 n (by omega); rw [enc, enc] at e; omega
  | n + 1, k + 1, h1, h2, e => by
    have a := h1 n (by omega)
    have b := h2 k (by omega)
    rw [enc, enc] at e
    obtain ⟨q1, q2⟩ := enc_inj (g := g) (h := h) n k (fun j hj => h1 j (by omega)) (fun j hj => h2 j (by omega)) (by omega)
    subst q1
    refine ⟨rfl, fun j hj => ?_⟩
    by_cases c : j = n
    · subst c; omega
    · exact q2 j (by omega)
theorem enc_lt {g : Nat → Nat} : ∀ n, (∀ j, j < n → g j < 32) → enc g n < 32 ^ n
  | 0, _ => Nat.lt_of_lt_of_le (show 0 < 1 from Nat.one_pos) (Nat.le_refl 1)
  | n + 1, h => by
    have a := enc_lt n (fun j hj => h j (by omega))
    have b := h n (by omega)
    rw [enc, Nat.pow_succ]; omega
def wdN (w : Nat) : Nat := [754996, 12630195, 446125701, 631941, 2739, 5685913, 677454, 525614, 441925, 498, 1476, 14836].getD w 0
def wg (w j : Nat) : Nat := (sB (w + 1) j - 96).toNatClampNeg
theorem wdN_pos : ∀ w, w < 12 → 0 < wdN w := by decide +kernel
theorem wg_t : ∀ w, w < 12 → enc (wg w) (pmLen (w + 1)) = wdN w ∧ pmLen (w + 1) ≤ 6 ∧ ∀ j, j < pmLen (w + 1) → (1 ≤ wg w j ∧ wg w j < 32) ∧ sB (w + 1) j = nI (96 + wg w j) := by decide +kernel
/-- the reference's word -/
def rW (B : Nat → Int32) (p : Nat) : Nat → Int32
  | 0 => 0
  | n + 1 => if n < 6 then 32 * rW B p n + B (p + n) - 96 else 0
theorem rW_enc {B : Nat → Int32} {p : Nat} {g : Nat → Nat} : ∀ n, n ≤ 6 → (∀ j, j < n → B (p + j) = nI (96 + g j) ∧ g j < 32) → rW B p n = nI (enc g n)
  | 0, _, _ => rfl
  | n + 1, hn, h => by
    have a := rW_enc (B := B) (p := p) (g := g) n (by omega) (fun j hj => h j (by omega))
    have l := enc_lt (g := g) n (fun j hj => (h j (by omega)).2)
    have l6 : 32 ^ n ≤ 32 ^ 5 := Nat.pow_le_pow_right (by decide) (by omega)
    have b := h n (by omega)
    rw [rW, if_pos (by omega), a, b.1, enc]
    rw [show (32 : Int32) = nI 32 from rfl, nI_mulp, show nI (32 * enc g n) + nI (96 + g n) = nI (32 * enc g n + (96 + g n)) from nI_add _ _, show (96 : Int32) = nI 96 from rfl, nI_sub (by omega)]
    exact congrArg nI (by omega)
theorem let_g {B : Nat → Int32} {p n : Nat} (h : ∀ j, j < n → lB (B (p + j))) : ∃ g : Nat → Nat, ∀ j, j < n → B (p + j) = nI (96 + g j) ∧ 1 ≤ g j ∧ g j < 32 := by
  refine ⟨fun j => (B (p + j)).toNatClampNeg - 96, fun j hj => ?_⟩
  obtain ⟨c, hc, h1, h2⟩ := nI_rng (a := 97) (b := 122) (by omega) (by omega) (h j hj)
  dsimp only
  rw [hc, nI_clamp (by omega)]
  exact ⟨congrArg nI (by omega), by omega, by omega⟩
/-- the reference knows a word by its number as the class does by its letters -/
theorem rW_iff {B : Nat → Int32} {p e w : Nat} (hw : w < 12) (h : ∀ j, j < e - p → lB (B (p + j))) : isW B (w + 1) p e ↔ (if e - p ≤ 6 then rW B p (e - p) else 0) = nI (wdN w) := by
  obtain ⟨g, hg⟩ := let_g h
  obtain ⟨t1, t2, t3⟩ := wg_t w hw
  have hpos : 0 < wdN w ∧ wdN w < 2 ^ 31 := by
    have := enc_lt (g := wg w) (pmLen (w + 1)) (fun j hj => ((t3 j hj).1).2)
    have l6 : 32 ^ pmLen (w + 1) ≤ 32 ^ 6 := Nat.pow_le_pow_right (by decide) t2
    refine ⟨?_, by rw [← t1]; omega⟩
    exact wdN_pos w hw
  constructor
  · intro hW
    rw [if_pos (by omega), rW_enc (g := g) _ (by omega) (fun j hj => ⟨(hg j hj).1, (hg j hj).2.2⟩), ← t1]
    refine congrArg nI ?_
    rw [hW.1]
    have : ∀ n, n ≤ e - p → enc g n = enc (wg w) n := fun n => by
      induction n with
      | zero => intro _; rfl
      | succ n ih =>
        intro hn
        rw [enc, enc, ih (by omega)]
        have a := hW.2 n (by omega)
        rw [(t3 n (by omega)).2, (hg n (by omega)).1] at a
        have b := (nI_eq (by have := (t3 n (by omega)).1; omega) (by have := hg n (by omega); omega)).mp a
        omega
    exact this _ (Nat.le_refl _)
  · intro hq
    by_cases h6 : e - p ≤ 6
    · rw [if_pos h6, rW_enc (g := g) _ h6 (fun j hj => ⟨(hg j hj).1, (hg j hj).2.2⟩)] at hq
      have l := enc_lt (g := g) (e - p) (fun j hj => (hg j hj).2.2)
      have l6 : 32 ^ (e - p) ≤ 32 ^ 6 := Nat.pow_le_pow_right (by decide) h6
      have hq := (nI_eq (by omega) hpos.2).mp hq
      rw [← t1] at hq
      obtain ⟨q1, q2⟩ := enc_inj (e - p) (pmLen (w + 1)) (fun j hj => (hg j hj).2) (fun j hj => (t3 j hj).1) hq
      exact ⟨q1.symm, fun j hj => by rw [(t3 j hj).2, (hg j (by omega)).1, q2 j (by omega)]⟩
    · rw [if_neg h6] at hq
      exact absurd ((nI_eq (a := 0) (by omega) hpos.2).mp hq) (by omega)
