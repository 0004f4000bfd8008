/-! the walk of the law's hangs: a pair of places -/
section
variable {l : Launch} {R : Room} {own : String} {cc : ByteArray} {nL : Nat} {X : XT} {cl sl n : Nat} {g : Nat → va_E} {pc : Nat} {L : List (Option Value)} {st : List Value}
theorem VS.joinB (pc2 : Nat) (st2 : List Value) (f : VS l R own cc nL X cl sl n g pc2 L st2 → VS l R own cc nL X cl sl n g pc L st) (k : VS l R own cc nL X cl sl n g pc2 L st2) : VS l R own cc nL X cl sl n g pc L st := f k
end
theorem acc {n m z : Nat} {x : Int32} (hx : x = nI z) (hm : n + z = m) : nI n + x = nI m := by rw [hx, nI_add, hm]
theorem lp_nat (p : Nat → Bool) {a b : Nat} (hb : b < 8) : sm p (lp (8 * a + b + 1)) = sm p (lp (8 * a + b)) + (if a < b ∧ p (ek a b) = true then 1 else 0) := by
  rw [lp_s hb]
  by_cases h : a < b
  · rw [if_pos h]
    by_cases hp : p (ek a b) = true
    · simp [sm, h, hp]
    · simp [sm, h, hp]
  · rw [if_neg h, if_neg (fun z => h z.1)]; rfl
theorem lq_nat (p : Nat → Bool) {a b : Nat} (hb : b < 8) (h : a ≠ b) : sm p (lq (8 * a + b + 1)) = sm p (lq (8 * a + b)) + (if p (ek a b) = true then 1 else 0) := by
  rw [lq_s hb, if_pos h]; rfl
theorem lr_nat (p : Nat → Bool) {a b : Nat} (h : a ≠ b) : sm p (lr a (b + 1)) = sm p (lr a b) + (if p (ek a b) = true then 1 else 0) := by
  rw [show lr a (b + 1) = ek a b :: lr a b from if_pos h]; rfl
def clA (s : Nat → Int32) (x y z : List Nat) : Nat := sm (cB s 0) x + sm (cB s 1) y + sm (cB s 2) z
theorem ngK_y {t : Int32} {a b : Nat} (hne : a ≠ b) (ha : a < 8) (hb : b < 8) (h : sb t (eI (nI a) (nI b)) = 1) : ngJ t a b ||| (1 : Int32) <<< (nI b &&& 31) = ngJ t a (b + 1) := by
  show _ = ngJ t a b ||| _
  rw [if_pos ⟨fun z => hne ((nI_eq (by omega) (by omega)).mp z.symm), h⟩]
theorem ngK_n {t : Int32} {a b : Nat} (h : ¬ (nI b ≠ nI a ∧ sb t (eI (nI a) (nI b)) = 1)) : ngJ t a b ||| 0 = ngJ t a (b + 1) := by
  show _ = ngJ t a b ||| _
  rw [if_neg h]
theorem bool_c (b : Bool) : b = true ∨ b = false := by cases b <;> simp
theorem stage_c {s : Nat → Int32} (hg : Good s) : s 6 = 0 ∨ s 6 = 1 ∨ s 6 = 2 := by
  obtain ⟨n, d, tr, -, -, -, -, -, -, -, h, -⟩ := hg
  rcases h with ⟨h, -⟩ | ⟨h, -⟩ | ⟨h, -⟩
  · exact Or.inl h
  · exact Or.inr (Or.inl h)
  · exact Or.inr (Or.inr h)
theorem stage_n {s : Nat → Int32} (hg : Good s) : ¬ s 6 = 0 ↔ 0 < s 6 := by
  rcases stage_c hg with h | h | h <;> rw [h] <;> decide
section
variable {l : Launch} {R : Room} {own : String} {cc : ByteArray} {nL : Nat} {X : XT} {cl sl n : Nat} {g : Nat → va_E} {pc : Nat} {L : List (Option Value)} {st : List Value}
/-- the locals written out -/
theorem VS.nf (L2 : List (Option Value)) (h : L = L2) (k : VS l R own cc nL X cl sl n g pc L2 st) : VS l R own cc nL X cl sl n g pc L st := h ▸ k
end
