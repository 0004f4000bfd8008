/-! an order of a whole text stands whole -/
theorem ord_of (l : Launch) {P : Nat → Int32} {L k : Nat} (hL2 : L ≤ 80) (hk : k < L) (hd : dS P k = 1) (h5 : dS P L = 5) : OrdOK P L k ∧ dS P (k + lenO (P k)) = 5 := by
  have two : ∀ g : Int32, (g = 114 ∨ g = 43 ∨ g = 45) → P k = g → OrdOK P L k ∧ dS P (k + lenO (P k)) = 5 := by
    intro g hg3 hg
    have h1 : dS P (k + 1) = 3 := by rw [dS_s, hd, d1, hg]; exact if_pos hg3
    have hn99 : ¬ g = 99 := by rcases hg3 with rfl | rfl | rfl <;> decide
    rcases rd_step (L := L) (by omega) h1 (by decide) (by decide) d3 (by decide) with ⟨w1, a1, a2, a3⟩ | ⟨w1, f1⟩
    · rcases rd_step (L := L) (by omega) a3 (by decide) (by decide) d4 (by decide) with ⟨w2, b1, b2, b3⟩ | ⟨w2, f2⟩
      · have hlen : lenO (P k) = 3 := by rw [hg]; unfold lenO; rw [if_neg hn99, if_pos hg3]
        exact ⟨⟨by rw [hlen]; omega, Or.inr (Or.inl ⟨by rw [hg]; exact hg3, a2, b2⟩)⟩, by rw [hlen]; exact b3⟩
      · exact (flt_no h5 f2).elim
    · exact (flt_no h5 f1).elim
  have one : ∀ g : Int32, (g = 116 ∨ g = 100) → P k = g → OrdOK P L k ∧ dS P (k + lenO (P k)) = 5 := by
    intro g hg2 hg
    have hn3 : ¬ (g = 114 ∨ g = 43 ∨ g = 45) := by rcases hg2 with rfl | rfl <;> decide
    have hn99 : ¬ g = 99 := by rcases hg2 with rfl | rfl <;> decide
    have h1 : dS P (k + 1) = 4 := by rw [dS_s, hd, d1, hg]; exact (if_neg hn3).trans (if_pos hg2)
    rcases rd_step (L := L) (by omega) h1 (by decide) (by decide) d4 (by decide) with ⟨w1, a1, a2, a3⟩ | ⟨w1, f1⟩
    · have hlen : lenO (P k) = 2 := by rw [hg]; unfold lenO; rw [if_neg hn99, if_neg hn3, if_pos hg2]
      exact ⟨⟨by rw [hlen]; omega, Or.inr (Or.inr (Or.inl ⟨by rw [hg]; exact hg2, a2⟩))⟩, by rw [hlen]; exact a3⟩
    · exact (flt_no h5 f1).elim
  have non : ∀ g : Int32, (g = 98 ∨ g = 112) → P k = g → OrdOK P L k ∧ dS P (k + lenO (P k)) = 5 := by
    intro g hg2 hg
    have hn3 : ¬ (g = 114 ∨ g = 43 ∨ g = 45) := by rcases hg2 with rfl | rfl <;> decide
    have hn2 : ¬ (g = 116 ∨ g = 100) := by rcases hg2 with rfl | rfl <;> decide
    have hn99 : ¬ g = 99 := by rcases hg2 with rfl | rfl <;> decide
    have h1 : dS P (k + 1) = 5 := by rw [dS_s, hd, d1, hg]; exact (if_neg hn3).trans ((if_neg hn2).trans ((if_neg hn99).trans (if_pos hg2)))
    have hlen : lenO (P k) = 1 := by rw [hg]; unfold lenO; rw [if_neg hn99, if_neg hn3, if_neg hn2]
    exact ⟨⟨by rw [hlen]; omega, Or.inr (Or.inr (Or.inr (by rw [hg]; exact hg2)))⟩, by rw [hlen]; exact h1⟩
  by_cases g1 : P k = 114
  · exact two 114 (by decide) g1
  by_cases g2 : P k = 43
  · exact two 43 (by decide) g2
  by_cases g3 : P k = 45
  · exact two 45 (by decide) g3
  by_cases g4 : P k = 99
  · have h1 : dS P (k + 1) = 2 := by rw [dS_s, hd, d1, g4]; rfl
    rcases rd_step (L := L) (by omega) h1 (by decide) (by decide) d2 (by decide) with ⟨w1, a1, a2, a3⟩ | ⟨w1, f1⟩
    · rcases rd_step (L := L) (by omega) a3 (by decide) (by decide) d3 (by decide) with ⟨w2, b1, b2, b3⟩ | ⟨w2, f2⟩
      · rcases rd_step (L := L) (by omega) b3 (by decide) (by decide) d4 (by decide) with ⟨w3, c1, c2, c3⟩ | ⟨w3, f3⟩
        · have hlen : lenO (P k) = 4 := by rw [g4]; rfl
          exact ⟨⟨by rw [hlen]; omega, Or.inl ⟨g4, a2, b2, c2⟩⟩, by rw [hlen]; exact c3⟩
        · exact (flt_no h5 f3).elim
      · exact (flt_no h5 f2).elim
    · exact (flt_no h5 f1).elim
  by_cases g5 : P k = 116
  · exact one 116 (by decide) g5
  by_cases g6 : P k = 100
  · exact one 100 (by decide) g6
  by_cases g7 : P k = 98
  · exact non 98 (by decide) g7
  by_cases g8 : P k = 112
  · exact non 112 (by decide) g8
  have h0 : dS P (k + 1) = 0 := by
    rw [dS_s, hd, d1]
    unfold ltrI
    rw [if_neg (by simp [g1, g2, g3]), if_neg (by simp [g5, g6]), if_neg g4, if_neg (by simp [g7, g8])]
  exact (flt_no (K := k) h5 ⟨by omega, by rw [hd]; decide, Or.inl ⟨hk, h0⟩⟩).elim
