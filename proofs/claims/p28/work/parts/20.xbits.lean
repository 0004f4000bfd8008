/-! the numbers of roads -/
/-- the number of a road -/
theorem eI_k {a b : Int32} (h : wrE a b = 0) : ∃ k, k < 28 ∧ eI a b = nI k := by
  have key : ∀ i, i < 8 → ∀ j, j < 8 → ¬ nI i = nI j → ∃ k, k < 28 ∧ eI (nI i) (nI j) = nI k := by decide +kernel
  by_cases h1 : (0 ≤ a ∧ a < 8) ∧ (0 ≤ b ∧ b < 8)
  · by_cases h2 : a = b
    · unfold wrE at h; rw [if_pos h1, if_pos h2] at h; exact absurd h (by decide)
    · obtain ⟨i, hi, rfl⟩ := plc h1.1
      obtain ⟨j, hj, rfl⟩ := plc h1.2
      exact key i hi j hj h2
  · unfold wrE at h; rw [if_neg h1] at h; exact absurd h (by decide)
theorem bitE_k {a b : Int32} {k : Nat} (h : eI a b = nI k) : bitE a b = one k := by unfold bitE one; rw [h]
theorem wr_eq {a b : Int32} (h : wrE a b = 0) : ((0 ≤ a ∧ a < 8) ∧ (0 ≤ b ∧ b < 8)) ∧ ¬ a = b := by
  unfold wrE at h
  by_cases h1 : (0 ≤ a ∧ a < 8) ∧ (0 ≤ b ∧ b < 8)
  · by_cases h2 : a = b
    · rw [if_pos h1, if_pos h2] at h; exact absurd h (by decide)
    · exact ⟨h1, h2⟩
  · rw [if_neg h1] at h; exact absurd h (by decide)
