/-! the reference: its questions -/
def rK (s : Nat → Int32) : Int32 := rKn s (s 17)
def rTh (s : Nat → Int32) : Int32 := rK s &&& s 0
def rShown (s : Nat → Int32) (p : Nat) : Int32 := pcI (rK s &&& (s (11 + p) &&& (rTh s ^^^ -1) ||| s (14 + p) &&& rTh s))
def rSeen (s : Nat → Int32) (e : Int32) : Int32 := if sb (rK s) e = 0 then -6 else sb (rTh s) e
theorem kn0_kn0 (M : SS) (k1 k2 : Int32) : kn0 (kn0 M k1) k2 = kn0 M k2 := by
  have e : (kn0 M k1) 1 = M 1 := rfl
  have e0 : (kn0 M k1) 0 = upd (upd (M 0) 7 k1) 8 (k1 &&& M 1 0) := rfl
  have e2 : kn0 (kn0 M k1) k2 = upC (kn0 M k1) 0 (upd (upd ((kn0 M k1) 0) 7 k2) 8 (k2 &&& (kn0 M k1) 1 0)) := rfl
  have e3 : kn0 M k1 = upC M 0 ((kn0 M k1) 0) := by rw [e0]; rfl
  rw [e2, e, e0, e3, upC_upC]
  unfold kn0
  congr 1
  funext k
  unfold upd
  by_cases h8 : k = 8
  · rw [if_pos h8, if_pos h8]
  · rw [if_neg h8, if_neg h8]
    by_cases h7 : k = 7
    · simp [h7]
    · simp [h7, h8]
theorem rFol_rFol (M : SS) (a b : Int32) : rFol (rFol M a) b = rFol M b := kn0_kn0 M _ _
theorem rFol_1 (M : SS) (a : Int32) : rFol M a 1 = M 1 := rfl
theorem wr_ge {a b : Int32} (h : wrE a b = 0) : 0 ≤ wrE a b := by rw [h]; decide
theorem wr_lt {a b : Int32} (h : ¬ wrE a b = 0) : ¬ 0 ≤ wrE a b := by
  unfold wrE at *
  split
  · split
    · decide
    · rename_i h1 h2; rw [if_pos h1, if_neg h2] at h; exact absurd rfl h
  · decide
def rOfRoad (s : Nat → Int32) (a b what : Int32) : Int32 := pick [eI a b, rem3 (eI a b), sb (s 17) (eI a b), rSeen s (eI a b), clJ s 11 (eI a b) 3, clJ s 14 (eI a b) 3] what (-2)
def rKnows (s : Nat → Int32) (q a b : Int32) : Int32 := if rem3 (eI a b) = q then sb (s 0) (eI a b) else rSeen s (eI a b)
def rPlayer (s : Nat → Int32) (p : Nat) (what : Int32) : Int32 := pick [s (8 + p), rClaims s p, rShown s p, s (18 + p), s (21 + p), s (24 + p), s (27 + p), pcI (thI p ||| rK s)] what (-2)
def rCount (s : Nat → Int32) (len pasts what : Int32) : Int32 := pick [s 7, rem3 (s 7), s 6, s 30, pcI (rK s), pcI (rTh s), rShown s 0 + rShown s 1 + rShown s 2, pcI (s 17), s 2, s 3, s 4, s 5, len, pasts] what (-2)
theorem pl_y {p : Nat} (h : p < 3) : ¬ (if 0 ≤ nI p ∧ nI p < 3 then (1 : Int32) else 0) = 0 := by
  revert p; decide +kernel
theorem pc_y {p : Nat} (h : p < 8) : ¬ (if 0 ≤ nI p ∧ nI p < 8 then (1 : Int32) else 0) = 0 := by
  revert p; decide +kernel
theorem pc_v {p : Nat} (h : p < 8) : 0 ≤ nI p ∧ nI p < 8 := ite11 (pc_y h)
theorem pl_v {p : Nat} (h : p < 3) : 0 ≤ nI p ∧ nI p < 3 := ite11 (pl_y h)
def dugB (s : Nat → Int32) (d p : Nat) : Prop := ∃ k, k < d ∧ s (32 + k) = nI p
def rPlace (s : Nat → Int32) (p : Nat) (tld what : Int32) : Int32 := pick [if 0 < s 6 then pcI (k_at p &&& s 0) else -6, pcI (k_at p &&& rTh s), pcI (k_at p &&& (rK s ^^^ -1)), tld, ngJ (rTh s) p 8] what (-2)
theorem sub1 {d : Nat} : nI (d + 1) - 1 = nI d := nI_pred d
theorem dug_in {r : Int32} {d : Nat} (hd : d ≤ 150) (h : 0 ≤ r ∧ r ≤ nI d - 1) : ∃ k, k < d ∧ r = nI k := by
  cases d with
  | zero => obtain ⟨h1, h2⟩ := h; rw [show nI 0 - 1 = (-1 : Int32) from rfl] at h2; exact absurd (Int32.le_trans h1 h2) (by decide)
  | succ d =>
    rw [nI_pred] at h
    obtain ⟨j, hj, e⟩ := nI_of2 (n := d) (nI_toInt (by omega)) (Int32.not_lt.mpr h.1) h.2
    exact ⟨j, by omega, e⟩
theorem dug_of {k d : Nat} (h : k < d) (hd : d ≤ 150) : 0 ≤ nI k ∧ nI k ≤ nI d - 1 := by
  obtain ⟨e, rfl⟩ : ∃ e, d = e + 1 := ⟨d - 1, by omega⟩
  rw [nI_pred]
  exact ⟨nI_pos' (by omega), nI_le (by omega) (by omega)⟩
