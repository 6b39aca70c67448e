/-! two rows of the model's part that the class's want too -/
theorem cod3_z {a b c : Prop} (h : cod3 a b c = 0) : a ∧ b ∧ c := by
  by_cases h1 : a
  · by_cases h2 : b
    · by_cases h3 : c
      · exact ⟨h1, h2, h3⟩
      · rw [cod3_3 h1 h2 h3] at h; exact absurd h (by decide)
    · rw [cod3_2 h1 h2] at h; exact absurd h (by decide)
  · rw [cod3_1 h1] at h; exact absurd h (by decide)
theorem hasF_0 {w : Nat → Int32} {d : Int32} : ¬ hasF w d 0 := fun ⟨_, z, _⟩ => absurd z (Nat.not_lt_zero _)
