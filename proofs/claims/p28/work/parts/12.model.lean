/-! the reference: what its methods do to its row of numbers -/
def rem3 (x : Int32) : Int32 := x - x / 3 * 3
def rEnds (s : Nat → Int32) : Nat → Int32 := upd (upd s 7 (s 7 + 1)) 6 (if s 7 + 1 = 150 then 2 else s 6)
def rGets (s : Nat → Int32) (p : Nat) (c : Int32) : Nat → Int32 := upd s (8 + p) (if 9999 < s (8 + p) + c then 9999 else s (8 + p) + c)
def rPaid (s : Nat → Int32) (f : Nat) (c : Int32) : Int32 := if s (8 + f) < c then s (8 + f) else c
def rPays (s : Nat → Int32) (f t : Nat) (c : Int32) : Nat → Int32 := rGets (upd s (8 + f) (s (8 + f) - rPaid s f c)) t (rPaid s f c)
def rClaims (s : Nat → Int32) (p : Nat) : Int32 := pcI (s (11 + p) ||| s (14 + p))
def rBarRoad (s : Nat → Int32) (a b : Int32) : Int32 := if wrE a b = 0 then (if 0 < s 6 then -5 else 0) else wrE a b
def rBarTreasure (s : Nat → Int32) (a : Int32) : Int32 := if 0 ≤ a ∧ a < 8 then (if 0 < s 6 then -5 else 0) else -1
def rBarClaim (s : Nat → Int32) (a b is : Int32) : Int32 := if wrE a b = 0 then (if 0 ≤ is ∧ is ≤ 1 then (if s 6 = 1 then 0 else -5) else -2) else wrE a b
def rLays (s : Nat → Int32) (a b : Int32) : Nat → Int32 := upd s 0 (s 0 ^^^ bitE a b)
def rSays1 (s : Nat → Int32) (p : Nat) (b is : Int32) : Nat → Int32 := upd s (11 + p) (if is = 1 then s (11 + p) ||| b else s (11 + p) &&& (b ^^^ -1))
def rSays2 (s : Nat → Int32) (p : Nat) (b is : Int32) : Nat → Int32 := upd s (14 + p) (if is = 0 then s (14 + p) ||| b else s (14 + p) &&& (b ^^^ -1))
def rSays (s : Nat → Int32) (p : Nat) (b is : Int32) : Nat → Int32 := rEnds (rSays2 (rSays1 s p b is) p b is)
theorem ix_add {c p : Nat} : nI c + nI p = nI (c + p) := nI_add c p
theorem irem3 : ¬ (3 : Int32) = 0 := by decide
def rBarCheck (s : Nat → Int32) (q a b : Int32) : Int32 := if 0 ≤ q ∧ q < 3 then (if 0 ≤ a ∧ a < 8 then (if 0 ≤ b ∧ b < 8 then (if q = rem3 (s 7) then -2 else if a = b then -2 else if s 6 = 1 then (if (s (11 + q.toNatClampNeg) ||| s (14 + q.toNatClampNeg)) &&& bitE a b = 0 then -5 else if s 17 &&& bitE a b = 0 then 0 else -5) else -5) else -1) else -1) else -1
def rBarDig (s : Nat → Int32) (t : Nat) (a : Int32) : Int32 := if 0 ≤ a ∧ a < 8 then (if s 6 = 1 then (if s (8 + t) < s 4 then -5 else 0) else -5) else -1
theorem pln {q : Int32} (h : 0 ≤ q ∧ q < 3) : ∃ p : Nat, p < 3 ∧ q = nI p := by
  obtain ⟨j, hj, e⟩ := vp_in_of (n := 3) (vp_in_iff.mpr (by simp only [Int32.lt_iff_toInt_lt, Int32.le_iff_toInt_le, ti_0, ti_1, ti_2, ti_3, ti_4, ti_5, ti_6, ti_7, ti_8, ti_9, ti_10, ti_14, ti_15, ti_16, ti_20, ti_28, ti_33, ti_40, ti_50, ti_80, ti_97, ti_99, ti_100, ti_104, ti_126, ti_150, ti_182, ti_200, ti_255, ti_364, ti_1092, ti_9999, tim_1, tim_2, tim_3, tim_4, tim_5, tim_6] at *; omega)) (by decide)
  exact ⟨j, hj, e⟩
theorem plc {q : Int32} (h : 0 ≤ q ∧ q < 8) : ∃ p : Nat, p < 8 ∧ q = nI p := by
  obtain ⟨j, hj, e⟩ := vp_in_of (n := 8) (vp_in_iff.mpr (by simp only [Int32.lt_iff_toInt_lt, Int32.le_iff_toInt_le, ti_0, ti_1, ti_2, ti_3, ti_4, ti_5, ti_6, ti_7, ti_8, ti_9, ti_10, ti_14, ti_15, ti_16, ti_20, ti_28, ti_33, ti_40, ti_50, ti_80, ti_97, ti_99, ti_100, ti_104, ti_126, ti_150, ti_182, ti_200, ti_255, ti_364, ti_1092, ti_9999, tim_1, tim_2, tim_3, tim_4, tim_5, tim_6] at *; omega)) (by decide)
  exact ⟨j, hj, e⟩
