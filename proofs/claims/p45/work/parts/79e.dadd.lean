/-! whole numbers, added as doubles -/
theorem da_0 : ∀ a, a < 51 → ∀ t, t < 81 → FP.dadd (FP.i2d (nI (a))) (FP.i2d (nI (20 + t))) = FP.i2d (nI (a + (20 + t))) := by decide +kernel
theorem da_1 : ∀ a, a < 51 → ∀ t, t < 81 → FP.dadd (FP.i2d (nI (51 + a))) (FP.i2d (nI (20 + t))) = FP.i2d (nI ((51 + a) + (20 + t))) := by decide +kernel
theorem da_2 : ∀ a, a < 51 → ∀ t, t < 81 → FP.dadd (FP.i2d (nI (102 + a))) (FP.i2d (nI (20 + t))) = FP.i2d (nI ((102 + a) + (20 + t))) := by decide +kernel
theorem da_3 : ∀ a, a < 51 → ∀ t, t < 81 → FP.dadd (FP.i2d (nI (153 + a))) (FP.i2d (nI (20 + t))) = FP.i2d (nI ((153 + a) + (20 + t))) := by decide +kernel
theorem da_4 : ∀ a, a < 51 → ∀ t, t < 81 → FP.dadd (FP.i2d (nI (204 + a))) (FP.i2d (nI (20 + t))) = FP.i2d (nI ((204 + a) + (20 + t))) := by decide +kernel
theorem da_5 : ∀ a, a < 51 → ∀ t, t < 81 → FP.dadd (FP.i2d (nI (255 + a))) (FP.i2d (nI (20 + t))) = FP.i2d (nI ((255 + a) + (20 + t))) := by decide +kernel
theorem da_all : ∀ a, a < 301 → ∀ t, t < 81 → FP.dadd (FP.i2d (nI a)) (FP.i2d (nI (20 + t))) = FP.i2d (nI (a + (20 + t))) := fun a ha t ht => by
  by_cases h5 : 255 ≤ a
  · have h := da_5 (a - 255) (by omega) t ht
    rw [show 255 + (a - 255) = a by omega] at h
    exact h
  by_cases h4 : 204 ≤ a
  · have h := da_4 (a - 204) (by omega) t ht
    rw [show 204 + (a - 204) = a by omega] at h
    exact h
  by_cases h3 : 153 ≤ a
  · have h := da_3 (a - 153) (by omega) t ht
    rw [show 153 + (a - 153) = a by omega] at h
    exact h
  by_cases h2 : 102 ≤ a
  · have h := da_2 (a - 102) (by omega) t ht
    rw [show 102 + (a - 102) = a by omega] at h
    exact h
  by_cases h1 : 51 ≤ a
  · have h := da_1 (a - 51) (by omega) t ht
    rw [show 51 + (a - 51) = a by omega] at h
    exact h
  exact da_0 a (by omega) t ht
