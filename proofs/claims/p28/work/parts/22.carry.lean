/-! the reference: carryOut -/
/-- what the orders from k on do to a row, and how many are carried out -/
def exF (P : Nat → Int32) (L : Nat) : Nat → Nat → (Nat → Int32) → Nat → (Nat → Int32) × Nat
  | 0, _, s, c => (s, c)
  | n + 1, k, s, c => if k < L then (if opBar s (P k) (dgO P k) (fiO P k) (seO P k) = 0 then exF P L n (k + lenO (P k) + 1) (opDo s (P k) (dgO P k) (fiO P k) (seO P k)) (c + 1) else (s, c)) else (s, c)
theorem dS_0 {P : Nat → Int32} {K : Nat} (h : dS P K = 0) : ∀ j, K ≤ j → dS P j = 0 := by
  intro j hj
  obtain ⟨m, rfl⟩ : ∃ m, j = K + m := ⟨j - K, by omega⟩
  induction m with
  | zero => exact h
  | succ m ih => rw [show K + (m + 1) = K + m + 1 from rfl, dS_s, ih (by omega)]; rfl
theorem flt_no {P : Nat → Int32} {L K : Nat} (h5 : dS P L = 5) (hf : FltAt P L K) : False := by
  obtain ⟨h1, h2, ⟨h3, h4⟩ | ⟨h3, h4⟩⟩ := hf
  · rw [dS_0 h4 L h3] at h5; exact absurd h5 (by decide)
  · exact h4 h5
theorem semi_at {P : Nat → Int32} {L K : Nat} (h5 : dS P L = 5) (hK : dS P K = 5) (hlt : K < L) : P K = 59 ∧ dS P (K + 1) = 1 := by
  by_cases h : P K = 59
  · exact ⟨h, by rw [dS_s, hK, d5, if_pos h]⟩
  · have h0 : dS P (K + 1) = 0 := by rw [dS_s, hK, d5, if_neg h]
    rw [dS_0 h0 L hlt] at h5; exact absurd h5 (by decide)
theorem lenO_pos (g : Int32) : 0 < lenO g := by
  unfold lenO; split
  · decide
  · split
    · decide
    · split <;> decide
theorem ord_S {P : Nat → Int32} {L k : Nat} (h : OrdOK P L k) : opS (P k) := by
  obtain ⟨-, ⟨h, -⟩ | ⟨h | h | h, -⟩ | ⟨h | h, -⟩ | h | h⟩ := h <;> unfold opS <;> simp [h]
/-- the cells that stay -/
def Fr (S2 M : SS) : Prop := S2 2 = M 2 ∧ S2 3 = M 3 ∧ S2 4 = M 4 ∧ S2 5 = M 5 ∧ S2 0 2 = M 0 2
theorem Fr.trans {A B C : SS} (h : Fr A B) (h2 : Fr B C) : Fr A C := ⟨h.1.trans h2.1, h.2.1.trans h2.2.1, h.2.2.1.trans h2.2.2.1, h.2.2.2.1.trans h2.2.2.2.1, h.2.2.2.2.trans h2.2.2.2.2⟩
theorem od3_spot (M : SS) (k : Nat) (w sg dg fi se : Int32) : up2 (od3 M k w sg dg fi se) 0 10 (nI (k + 1)) = od3 M (k + 1) w sg dg fi se := by
  have h := sw_od3 M k (k + 1) w w sg dg fi se
  unfold sw2 at h
  rw [← h]
  unfold up2
  congr 1
  congr 1
  funext j
  unfold upd
  split
  · rename_i q; subst q; rfl
  · rfl
