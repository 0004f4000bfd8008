/-! the reference: the whole text, its fault -/
theorem oF3_w (f : Nat → Int32) (k k2 : Nat) (w w2 sg dg fi se : Int32) : upd (upd (oF3 f k w sg dg fi se) 11 w2) 10 (nI k2) = oF3 f k2 w2 sg dg fi se := by
  funext j
  rw [show oF3 f k2 w2 sg dg fi se j = if j = 15 then se else oF2 f k2 w2 sg dg fi j from rfl, ← oF2_w f k k2 w w2 sg]
  unfold upd oF3
  by_cases h : j = 15
  · subst h; simp
  · simp [h]
theorem sw_od3 (M : SS) (k k2 : Nat) (w w2 sg dg fi se : Int32) : sw2 (od3 M k w sg dg fi se) k2 w2 = od3 M k2 w2 sg dg fi se := by
  unfold sw2 od3
  rw [upC_upC, upC_at, oF3_w]
theorem oF3_o (f h : Nat → Int32) (hf : ∀ j, j ≠ 10 → j ≠ 11 → j ≠ 12 → j ≠ 13 → j ≠ 14 → j ≠ 15 → f j = h j) (k : Nat) (w sg dg fi se : Int32) : oF3 f k w sg dg fi se = oF3 h k w sg dg fi se := by
  funext j
  unfold oF3 oF2 oF1 oF0
  by_cases a : j = 15
  · rw [if_pos a, if_pos a]
  rw [if_neg a, if_neg a]
  by_cases b : j = 14
  · rw [if_pos b, if_pos b]
  rw [if_neg b, if_neg b]
  by_cases c : j = 13
  · rw [if_pos c, if_pos c]
  rw [if_neg c, if_neg c]
  by_cases d : j = 10
  · rw [if_pos d, if_pos d]
  rw [if_neg d, if_neg d]
  by_cases e : j = 11
  · rw [if_pos e, if_pos e]
  rw [if_neg e, if_neg e]
  by_cases g : j = 12
  · rw [if_pos g, if_pos g]
  rw [if_neg g, if_neg g, hf j d e g c b a]
theorem oF3_oo (f : Nat → Int32) (k k2 : Nat) (w w2 sg sg2 dg dg2 fi fi2 se se2 : Int32) : oF3 (oF3 f k w sg dg fi se) k2 w2 sg2 dg2 fi2 se2 = oF3 f k2 w2 sg2 dg2 fi2 se2 :=
  oF3_o _ _ (fun j h1 h2 h3 h4 h5 h6 => by unfold oF3 oF2 oF1 oF0; rw [if_neg h6, if_neg h5, if_neg h4, if_neg h1, if_neg h2, if_neg h3]) _ _ _ _ _ _
theorem od3_od3 (M : SS) (k k2 : Nat) (w w2 sg sg2 dg dg2 fi fi2 se se2 : Int32) : od3 (od3 M k w sg dg fi se) k2 w2 sg2 dg2 fi2 se2 = od3 M k2 w2 sg2 dg2 fi2 se2 := by
  unfold od3
  rw [upC_upC, upC_at, oF3_oo]
theorem od3_ini (M : SS) (k2 : Nat) (a b w2 sg2 dg2 fi2 se2 : Int32) : od3 (up2 (up2 M 0 10 a) 0 11 b) k2 w2 sg2 dg2 fi2 se2 = od3 M k2 w2 sg2 dg2 fi2 se2 := by
  unfold od3 up2
  rw [upC_upC, upC_upC, upC_at, upC_at]
  congr 1
  exact oF3_o _ _ (fun j h1 h2 _ _ _ _ => by rw [upd_ne h2, upd_ne h1]) _ _ _ _ _ _
/-- the text is whole, or it has its fault at K -/
def WhR (P : Nat → Int32) (L K : Nat) (w R : Int32) : Prop := (R = 1 ∧ w = 0 ∧ dS P L = 5) ∨ (R = 0 ∧ w = 1 ∧ FltAt P L K)
/-- the fault of a text -/
def FaultV (P : Nat → Int32) (L : Nat) (v : Int32) : Prop := (dS P L = 5 ∧ v = -6) ∨ ∃ K, FltAt P L K ∧ v = nI K
