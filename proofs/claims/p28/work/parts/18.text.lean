/-! the reference: texts -/
def itI (P : Nat → Int32) (L k : Nat) : Int32 := if k < L then P k else 0
def wiB (P : Nat → Int32) (L k : Nat) (w lo hi : Int32) : Int32 := if w = 0 ∧ (lo ≤ itI P L k ∧ itI P L k ≤ hi) then 0 else 1
def wiK (k : Nat) (w : Int32) : Nat := if w = 0 then k + 1 else k
theorem wi_y {P : Nat → Int32} {L k : Nat} {w lo hi : Int32} (h1 : w = 0) (h2 : lo ≤ itI P L k ∧ itI P L k ≤ hi) : wiB P L k w lo hi = 0 := if_pos ⟨h1, h2⟩
theorem wi_n1 {P : Nat → Int32} {L k : Nat} {w lo hi : Int32} (h1 : ¬ w = 0) : wiB P L k w lo hi = 1 := if_neg (fun q => h1 q.1)
theorem wi_n2 {P : Nat → Int32} {L k : Nat} {w lo hi : Int32} (h2 : ¬ (lo ≤ itI P L k ∧ itI P L k ≤ hi)) : wiB P L k w lo hi = 1 := if_neg (fun q => h2 q.2)
theorem wi_01 (P : Nat → Int32) (L k : Nat) (w lo hi : Int32) : wiB P L k w lo hi = 0 ∨ wiB P L k w lo hi = 1 := by
  unfold wiB; split
  · exact Or.inl rfl
  · exact Or.inr rfl
/-- spot and wrong, in the reference's own cell -/
def sw2 (M : SS) (k : Nat) (w : Int32) : SS := upC M 0 (upd (upd (M 0) 11 w) 10 (nI k))
theorem nI_p0 (k : Nat) : nI k + 0 = nI k := Int32.add_zero _
theorem nI_p1 (k : Nat) : nI k + 1 = nI (k + 1) := nI_1 k
theorem lt_of_nI {k L : Nat} (hk : k < 2 ^ 31) (hL : L < 2 ^ 31) (h : ¬ nI L ≤ nI k) : k < L := by
  rcases Nat.lt_or_ge k L with q | q
  · exact q
  · exact absurd (nI_le q hk) h
theorem wiK_le {P : Nat → Int32} {L k : Nat} {w lo hi : Int32} (h : k ≤ L) (hlo : 0 < lo) : wiK k (wiB P L k w lo hi) ≤ L := by
  unfold wiK; split
  · rename_i q
    unfold wiB at q
    by_cases h2 : k < L
    · exact h2
    · have e : itI P L k = 0 := if_neg h2
      rw [if_neg (fun z => by rw [e] at z; exact absurd (Int32.lt_of_lt_of_le hlo z.2.1) (by decide : ¬ (0 : Int32) < 0))] at q
      exact absurd q (by decide)
  · exact h
def oF0 (f : Nat → Int32) (k : Nat) (w sg : Int32) : Nat → Int32 := fun j => if j = 10 then nI k else if j = 11 then w else if j = 12 then sg else f j
def oF1 (f : Nat → Int32) (k : Nat) (w sg dg : Int32) : Nat → Int32 := fun j => if j = 13 then dg else oF0 f k w sg j
def oF2 (f : Nat → Int32) (k : Nat) (w sg dg fi : Int32) : Nat → Int32 := fun j => if j = 14 then fi else oF1 f k w sg dg j
def oF3 (f : Nat → Int32) (k : Nat) (w sg dg fi se : Int32) : Nat → Int32 := fun j => if j = 15 then se else oF2 f k w sg dg fi j
def od0 (M : SS) (k : Nat) (w sg : Int32) : SS := upC M 0 (oF0 (M 0) k w sg)
def od1 (M : SS) (k : Nat) (w sg dg : Int32) : SS := upC M 0 (oF1 (M 0) k w sg dg)
def od2 (M : SS) (k : Nat) (w sg dg fi : Int32) : SS := upC M 0 (oF2 (M 0) k w sg dg fi)
def od3 (M : SS) (k : Nat) (w sg dg fi se : Int32) : SS := upC M 0 (oF3 (M 0) k w sg dg fi se)
theorem od0_of (M : SS) (k : Nat) (w sg : Int32) : up2 (up2 (up2 M 0 12 sg) 0 11 w) 0 10 (nI k) = od0 M k w sg := by
  unfold od0 up2
  simp only [upC_upC, upC_at]
  congr 1
theorem od1_of (M : SS) (k : Nat) (w sg dg : Int32) : up2 (od0 M k w sg) 0 13 dg = od1 M k w sg dg := by
  unfold od0 od1 up2
  rw [upC_upC, upC_at]
  rfl
theorem od2_of (M : SS) (k : Nat) (w sg dg fi : Int32) : up2 (od1 M k w sg dg) 0 14 fi = od2 M k w sg dg fi := by
  unfold od1 od2 up2
  rw [upC_upC, upC_at]
  rfl
theorem od3_of (M : SS) (k : Nat) (w sg dg fi se : Int32) : up2 (od2 M k w sg dg fi) 0 15 se = od3 M k w sg dg fi se := by
  unfold od2 od3 up2
  rw [upC_upC, upC_at]
  rfl
theorem oF0_w (f : Nat → Int32) (k k2 : Nat) (w w2 sg : Int32) : upd (upd (oF0 f k w sg) 11 w2) 10 (nI k2) = oF0 f k2 w2 sg := by
  funext j; unfold upd oF0
  by_cases h : j = 10
  · rw [if_pos h, if_pos h]
  · rw [if_neg h, if_neg h]
    by_cases h1 : j = 11
    · simp [h1]
    · simp [h, h1]
theorem sw_od0 (M : SS) (k k2 : Nat) (w w2 sg : Int32) : sw2 (od0 M k w sg) k2 w2 = od0 M k2 w2 sg := by
  unfold sw2 od0
  rw [upC_upC, upC_at, oF0_w]
theorem oF1_w (f : Nat → Int32) (k k2 : Nat) (w w2 sg dg : Int32) : upd (upd (oF1 f k w sg dg) 11 w2) 10 (nI k2) = oF1 f k2 w2 sg dg := by
  funext j
  rw [show oF1 f k2 w2 sg dg j = if j = 13 then dg else oF0 f k2 w2 sg j from rfl, ← oF0_w f k k2 w w2 sg]
  unfold upd oF1
  by_cases h : j = 13
  · subst h; simp
  · simp [h]
theorem sw_od1 (M : SS) (k k2 : Nat) (w w2 sg dg : Int32) : sw2 (od1 M k w sg dg) k2 w2 = od1 M k2 w2 sg dg := by
  unfold sw2 od1
  rw [upC_upC, upC_at, oF1_w]
theorem oF2_w (f : Nat → Int32) (k k2 : Nat) (w w2 sg dg fi : Int32) : upd (upd (oF2 f k w sg dg fi) 11 w2) 10 (nI k2) = oF2 f k2 w2 sg dg fi := by
  funext j
  rw [show oF2 f k2 w2 sg dg fi j = if j = 14 then fi else oF1 f k2 w2 sg dg j from rfl, ← oF1_w f k k2 w w2 sg]
  unfold upd oF2
  by_cases h : j = 14
  · subst h; simp
  · simp [h]
theorem sw_od2 (M : SS) (k k2 : Nat) (w w2 sg dg fi : Int32) : sw2 (od2 M k w sg dg fi) k2 w2 = od2 M k2 w2 sg dg fi := by
  unfold sw2 od2
  rw [upC_upC, upC_at, oF2_w]
