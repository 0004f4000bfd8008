/-! the reference: what if; roads that follow from one more -/
def rMore (s : Nat → Int32) (e : Int32) : Int32 := if sb (rK s) e = 1 then 0 else pcI (rKn s (s 17 ||| (1 : Int32) <<< (e &&& 31))) - pcI (rK s)
def mMore (M : SS) (e : Int32) : SS := if sb (rK (M 1)) e = 1 then rFol M (M 1 17) else rFol M (M 1 17 ||| (1 : Int32) <<< (e &&& 31))
theorem mMore_1 (M : SS) (e : Int32) : mMore M e 1 = M 1 := by
  unfold mMore; split <;> rfl
theorem stt_if {c : Prop} [Decidable c] {a b x : SS} (h : c) (e : x = a) : x = (if c then a else b) := by rw [if_pos h]; exact e
theorem stt_else {c : Prop} [Decidable c] {a b x : SS} (h : ¬ c) (e : x = b) : x = (if c then a else b) := by rw [if_neg h]; exact e
theorem shk {sh : Nat → Shp} {S S2 : SS} (h : S = S2) : ∀ k, k < 7 → shW sh S k = shW sh S2 k := fun k _ => by rw [h]
def rShows (s : Nat → Int32) (a b : Int32) : Int32 := if wrE a b = 0 then (if 0 < s 6 then rMore s (eI a b) else -5) else wrE a b
def mShows (M : SS) (a b : Int32) : SS := if wrE a b = 0 ∧ 0 < M 1 6 then mMore M (eI a b) else M
theorem wr_0 {a b : Int32} (h : 0 ≤ wrE a b) : wrE a b = 0 := Decidable.byContradiction fun q => absurd h (wr_lt q)
def bsF (s : Nat → Int32) : Nat → Int32 × Int32
  | 0 => (-6, 0)
  | i + 1 => (if (bsF s i).2 < rMore s (nI i) then nI i else (bsF s i).1, if (bsF s i).2 < rMore s (nI i) then rMore s (nI i) else (bsF s i).2)
def bsS (M : SS) : Nat → SS
  | 0 => M
  | i + 1 => mMore (bsS M i) (nI i)
theorem bsS_1 (M : SS) : ∀ i, bsS M i 1 = M 1
  | 0 => rfl
  | i + 1 => (mMore_1 _ _).trans (bsS_1 M i)
def rBest (s : Nat → Int32) (what : Int32) : Int32 := if (bsF s 28).1 = -6 ∨ what = 0 then (bsF s 28).1 else (bsF s 28).2
def rBestShow (s : Nat → Int32) (what : Int32) : Int32 := if 0 ≤ what ∧ what ≤ 1 then (if 0 < s 6 then rBest s what else -5) else -2
def mBestShow (M : SS) (what : Int32) : SS := if (0 ≤ what ∧ what ≤ 1) ∧ 0 < M 1 6 then bsS M 28 else M
def rWay (s F : Nat → Int32) (p q : Nat) : Int32 := if md (rTh s) p F q = 99 then -6 else md (rTh s) p F q
def cbP (F : Nat → Int32) (tr : Nat) (acc : Int32) : Nat → Int32
  | 0 => acc
  | p + 1 => cbP F tr acc p &&& (if F p = F tr then -1 else (1 : Int32) <<< (nI p &&& 31) ^^^ -1)
def cbF (r : Int32) (q : Nat → Nat) (F : Nat → Int32) : Nat → (Nat → Int32)
  | 0 => F
  | k + 1 => md r (q k) (cbF r q F k)
def cbA (r : Int32) (q : Nat → Nat) (F : Nat → Int32) (tr : Nat) (a : Int32) : Nat → Int32
  | 0 => a
  | k + 1 => cbP (cbF r q F (k + 1)) tr (cbA r q F tr a k) 8
theorem cbP_y {F : Nat → Int32} {tr p : Nat} {a : Int32} (h : F p = F tr) : cbP F tr a p &&& -1 = cbP F tr a (p + 1) := congrArg (fun z => cbP F tr a p &&& z) (if_pos h).symm
theorem cbP_n {F : Nat → Int32} {tr p : Nat} {a : Int32} (h : ¬ F p = F tr) : cbP F tr a p &&& ((1 : Int32) <<< (nI p &&& 31) ^^^ -1) = cbP F tr a (p + 1) := congrArg (fun z => cbP F tr a p &&& z) (if_neg h).symm
