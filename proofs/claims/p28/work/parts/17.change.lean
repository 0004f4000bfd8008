/-! the reference: its changes -/
def lieI (s : Nat → Int32) (p : Nat) (b : Int32) : Int32 := if (s (11 + p) &&& b = 0) ↔ (s 0 &&& b = 0) then 0 else 1
def rC1 (s : Nat → Int32) (t p : Nat) (b : Int32) : Nat → Int32 := upd (rPays s t p (s 2)) 17 (rPays s t p (s 2) 17 ||| b)
def rC2 (s : Nat → Int32) (t p : Nat) (b : Int32) : Nat → Int32 := upd (rC1 s t p b) (21 + t) (rC1 s t p b (21 + t) + 1)
def rC3 (s : Nat → Int32) (t p : Nat) (b : Int32) : Nat → Int32 := rPays (rC2 s t p b) p t (rC2 s t p b 3)
def rC4 (s : Nat → Int32) (t p : Nat) (b : Int32) : Nat → Int32 := upd (rC3 s t p b) (18 + p) (rC3 s t p b (18 + p) + 1)
def rC5 (s : Nat → Int32) (t p : Nat) (b : Int32) : Nat → Int32 := upd (rC4 s t p b) (24 + t) (rC4 s t p b (24 + t) + 1)
def rChecks (s : Nat → Int32) (t p : Nat) (b : Int32) : Nat → Int32 := rEnds (if lieI s p b = 0 then rC2 s t p b else rC5 s t p b)
theorem lieI_0 {s : Nat → Int32} {p : Nat} {b : Int32} (h : (s (11 + p) &&& b = 0) ↔ (s 0 &&& b = 0)) : 0 = lieI s p b := (if_pos h).symm
theorem lieI_1 {s : Nat → Int32} {p : Nat} {b : Int32} (h : ¬ ((s (11 + p) &&& b = 0) ↔ (s 0 &&& b = 0))) : 1 = lieI s p b := (if_neg h).symm
theorem lieI_n {s : Nat → Int32} {p : Nat} {b : Int32} (h : ¬ lieI s p b = 0) : lieI s p b = 1 := by
  unfold lieI at *; split
  · rename_i q; rw [if_pos q] at h; exact absurd rfl h
  · rfl
def rD1 (s : Nat → Int32) (t : Nat) : Nat → Int32 := upd s (8 + t) (s (8 + t) - s 4)
def rD2 (s : Nat → Int32) (t : Nat) : Nat → Int32 := upd (rD1 s t) (27 + t) (rD1 s t (27 + t) + 1)
def rD3 (s : Nat → Int32) (t d a : Nat) : Nat → Int32 := upd (rD2 s t) (32 + d) (nI a)
def rD4 (s : Nat → Int32) (t d a : Nat) : Nat → Int32 := upd (rD3 s t d a) 31 (rD3 s t d a 31 + 1)
def rD5 (s : Nat → Int32) (t d a : Nat) : Nat → Int32 := rEnds (rD4 s t d a)
def rD6 (s : Nat → Int32) (t d a : Nat) : Nat → Int32 := rGets (rD5 s t d a) t (rD5 s t d a 5)
def rD7 (s : Nat → Int32) (t d a : Nat) : Nat → Int32 := upd (rD6 s t d a) 30 (nI t)
def rDigs (s : Nat → Int32) (t d a : Nat) (its : Int32) : Nat → Int32 := if its = 0 then upd (rD7 s t d a) 6 2 else rD5 s t d a
theorem rD2_at {s : Nat → Int32} {t k : Nat} (h1 : k ≠ 8 + t) (h2 : k ≠ 27 + t) : rD2 s t k = s k := by
  unfold rD2 rD1; rw [upd_ne h2, upd_ne h1]
theorem rD4_at {s : Nat → Int32} {t d a k : Nat} (h1 : k ≠ 8 + t) (h2 : k ≠ 27 + t) (h3 : k ≠ 32 + d) (h4 : k ≠ 31) : rD4 s t d a k = s k := by
  unfold rD4 rD3; rw [upd_ne h4, upd_ne h3, rD2_at h1 h2]
theorem ite1n {c : Prop} [Decidable c] (h : c) : ¬ (if c then (1 : Int32) else 0) = 0 := by rw [if_pos h]; decide
def loS (k : Int32) : Int32 := if k = 1 ∨ k = 3 then 1 else 0
def hiS (k : Int32) : Int32 := if k = 0 then 20 else if k = 3 then 200 else 50
theorem k3_v {k : Nat} (h : k < 4) : ¬ (if 0 ≤ nI k ∧ nI k ≤ 3 then (1 : Int32) else 0) = 0 := by revert k; decide +kernel
def mUndo (M : SS) (q : Nat) : SS := upC (up2 M 0 2 (nI q)) 1 (putR (M 1) (fun k => M 2 (182 * q + k)) 0 182)
theorem sub_1 {q : Nat} : nI (q + 1) - 1 = nI q := nI_pred q
def mSave (M : SS) (q : Nat) : SS := upC (upC M 3 (putR (M 3) (M 1) (182 * q) 182)) 4 (upd (M 4) q 1)
theorem q_v {k : Nat} (h : k < 2) : ¬ (if 0 ≤ nI k ∧ nI k ≤ 1 then (1 : Int32) else 0) = 0 := by revert k; decide +kernel
def mRest (M : SS) (np q : Nat) : SS := upC (rRec M np) 1 (putR (M 1) (fun k => M 3 (182 * q + k)) 0 182)
