/-! CONSTRUCTORS: what the first text reads as -/
def fB (j : Nat) : Int32 := sB 0 j
theorem ft_0 : gPart (tC fB 34) (tV fB 34) 3208 0 0 [] = some (true, 5, [-1, 30, -14]) := by decide +kernel
theorem ft_1 : gPart (tC fB 34) (tV fB 34) 3208 1 5 [-1, 30, -14] = some (true, 8, [-1, 30, -14, 1]) := by decide +kernel
theorem ft_2 : gPart (tC fB 34) (tV fB 34) 3208 2 8 [-1, 30, -14, 1] = some (true, 11, [-1, 30, -14, 1, 0]) := by decide +kernel
theorem ft_3 : tC fB 34 11 = 0 := by decide +kernel
theorem fB_r : ∀ j, j < 34 → 0 ≤ fB j ∧ fB j ≤ 255 := by decide +kernel
theorem ft {b : Bool} {k : Nat} {cs : List Int32} {es : List Nat} (h : gRd (tC fB 34) (tV fB 34) 3208 b k cs es) : b = true ∧ cs = [-1, 30, -14, 1, 0] ∧ es = [3, 4, 5] := by
  obtain ⟨r0, h0, h⟩ := h
  rw [ft_0] at h0
  cases h0
  rcases h with ⟨e, _⟩ | ⟨_, r1, h1, h⟩
  · cases e
  · rw [ft_1] at h1
    cases h1
    rcases h with ⟨e, _⟩ | ⟨_, r2, h2, h⟩
    · cases e
    · rw [ft_2] at h2
      cases h2
      rcases h with ⟨e, _⟩ | ⟨_, hk, ⟨e, _⟩ | ⟨_, hb, hc, he⟩⟩
      · cases e
      · exact absurd (by rw [hk]; exact ft_3) e
      · exact ⟨hb, hc, he⟩
