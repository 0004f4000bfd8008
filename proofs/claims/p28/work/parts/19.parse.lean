/-! orders in a text: P the signs, L how many; k where an order begins -/
def lenO (g : Int32) : Nat := if g = 99 then 4 else if g = 114 ∨ g = 43 ∨ g = 45 then 3 else if g = 116 ∨ g = 100 then 2 else 1
def plS (c : Int32) : Prop := 97 ≤ c ∧ c ≤ 104
def dgS (c : Int32) : Prop := 48 ≤ c ∧ c ≤ 57
def dgO (P : Nat → Int32) (k : Nat) : Int32 := if P k = 99 then P (k + 1) - 48 else 0
def fiO (P : Nat → Int32) (k : Nat) : Int32 := if P k = 99 then P (k + 2) - 97 else if P k = 98 ∨ P k = 112 then 0 else P (k + 1) - 97
def seO (P : Nat → Int32) (k : Nat) : Int32 := if P k = 99 then P (k + 3) - 97 else if P k = 114 ∨ P k = 43 ∨ P k = 45 then P (k + 2) - 97 else 0
/-- an order stands at k, and it ends within the text -/
def OrdOK (P : Nat → Int32) (L k : Nat) : Prop := k + lenO (P k) ≤ L ∧ ((P k = 99 ∧ dgS (P (k + 1)) ∧ plS (P (k + 2)) ∧ plS (P (k + 3))) ∨ ((P k = 114 ∨ P k = 43 ∨ P k = 45) ∧ plS (P (k + 1)) ∧ plS (P (k + 2))) ∨ ((P k = 116 ∨ P k = 100) ∧ plS (P (k + 1))) ∨ (P k = 98 ∨ P k = 112))
/-! the reading of a text sign by sign -/
def ltrI (s : Int32) : Int32 := if s = 114 ∨ s = 43 ∨ s = 45 then 3 else if s = 116 ∨ s = 100 then 4 else if s = 99 then 2 else if s = 98 ∨ s = 112 then 5 else 0
def dueI (d s : Int32) : Int32 := if d = 1 then ltrI s else if d = 2 then (if 48 ≤ s ∧ s ≤ 57 then 3 else 0) else if d = 3 then (if 97 ≤ s ∧ s ≤ 104 then 4 else 0) else if d = 4 then (if 97 ≤ s ∧ s ≤ 104 then 5 else 0) else if d = 5 then (if s = 59 then 1 else 0) else 0
def dS (P : Nat → Int32) : Nat → Int32
  | 0 => 1
  | k + 1 => dueI (dS P k) (P k)
/-- the reading goes well up to K, and there it fails, or the text ends too early -/
def FltAt (P : Nat → Int32) (L K : Nat) : Prop := K ≤ L ∧ ¬ dS P K = 0 ∧ ((K < L ∧ dS P (K + 1) = 0) ∨ (K = L ∧ ¬ dS P L = 5))
theorem it_lt {P : Nat → Int32} {L k : Nat} (h : k < L) : itI P L k = P k := if_pos h
theorem it_ge {P : Nat → Int32} {L k : Nat} (h : ¬ k < L) : itI P L k = 0 := if_neg h
theorem wk0 (k : Nat) : wiK k 0 = k + 1 := if_pos rfl
theorem wk1 (k : Nat) : wiK k 1 = k := if_neg (by decide)
theorem d1 (s : Int32) : dueI 1 s = ltrI s := if_pos rfl
theorem d2 (s : Int32) : dueI 2 s = if 48 ≤ s ∧ s ≤ 57 then 3 else 0 := rfl
theorem d3 (s : Int32) : dueI 3 s = if 97 ≤ s ∧ s ≤ 104 then 4 else 0 := rfl
theorem d4 (s : Int32) : dueI 4 s = if 97 ≤ s ∧ s ≤ 104 then 5 else 0 := rfl
theorem d5 (s : Int32) : dueI 5 s = if s = 59 then 1 else 0 := rfl
theorem d0 (s : Int32) : dueI 0 s = 0 := rfl
theorem dS_s (P : Nat → Int32) (k : Nat) : dS P (k + 1) = dueI (dS P k) (P k) := rfl
/-- one place that is read: it goes on, or the reading fails there -/
theorem rd_step {P : Nat → Int32} {L k : Nat} {d d' lo hi : Int32} (hk : k ≤ L) (hd : dS P k = d) (hdn : ¬ d = 0) (hd5 : ¬ d = 5) (hdue : ∀ s, dueI d s = if lo ≤ s ∧ s ≤ hi then d' else 0) (hlo : 0 < lo) :
    (wiB P L k 0 lo hi = 0 ∧ k < L ∧ (lo ≤ P k ∧ P k ≤ hi) ∧ dS P (k + 1) = d') ∨ (wiB P L k 0 lo hi = 1 ∧ FltAt P L k) := by
  by_cases h : k < L
  · by_cases h2 : lo ≤ P k ∧ P k ≤ hi
    · refine Or.inl ⟨wi_y rfl (by rw [it_lt h]; exact h2), h, h2, ?_⟩
      rw [dS_s, hd, hdue, if_pos h2]
    · refine Or.inr ⟨wi_n2 (by rw [it_lt h]; exact h2), hk, by rw [hd]; exact hdn, Or.inl ⟨h, ?_⟩⟩
      rw [dS_s, hd, hdue, if_neg h2]
  · have hL : k = L := by omega
    refine Or.inr ⟨wi_n2 (fun z => ?_), hk, by rw [hd]; exact hdn, Or.inr ⟨hL, by rw [← hL, hd]; exact hd5⟩⟩
    rw [it_ge h] at z
    exact absurd (Int32.lt_of_lt_of_le hlo z.1) (by decide)
theorem wi_w1 (P : Nat → Int32) (L k : Nat) (lo hi : Int32) : wiB P L k 1 lo hi = 1 := wi_n1 (by decide)
