/-! mathematics: bits, counts -/
theorem downI (N : Nat) (P : Nat → Prop) (h0 : P N) (hs : ∀ i, i < N → P (i + 1) → P i) : ∀ i, i ≤ N → P i := by
  intro i hi
  obtain ⟨k, hk⟩ : ∃ k, N = i + k := ⟨N - i, by omega⟩
  induction k generalizing i with
  | zero => rw [hk] at h0; exact h0
  | succ k ih => exact hs i (by omega) (ih (i + 1) (by omega) (by omega))
/-- a counted loop: its head at hd, the cells and the locals by the number of rounds done -/
theorem VS.for {l : Launch} {R : Room} {own : String} {cc : ByteArray} {nL : Nat} {X : XT} {cl sl n : Nat} {hd i0 : Nat} {st : List Value} (N : Nat) (g : Nat → Nat → va_E) (L : Nat → List (Option Value)) (hi : i0 ≤ N) (h0 : VS l R own cc nL X cl sl n (g N) hd (L N) st) (hs : ∀ i, i < N → VS l R own cc nL X cl sl n (g (i + 1)) hd (L (i + 1)) st → VS l R own cc nL X cl sl n (g i) hd (L i) st) : VS l R own cc nL X cl sl n (g i0) hd (L i0) st :=
  downI N (fun i => VS l R own cc nL X cl sl n (g i) hd (L i) st) h0 hs i0 hi
/-- the same over shapes -/
theorem VS.forS {l : Launch} {R : Room} {own : String} {cc : ByteArray} {nL : Nat} {X : XT} {cl sl n : Nat} {sh : Nat → Shp} {hd i0 : Nat} {st : List Value} (N : Nat) (S : Nat → SS) (L : Nat → List (Option Value)) (hi : i0 ≤ N) (h0 : VS l R own cc nL X cl sl n (shW sh (S N)) hd (L N) st) (hs : ∀ i, i < N → VS l R own cc nL X cl sl n (shW sh (S (i + 1))) hd (L (i + 1)) st → VS l R own cc nL X cl sl n (shW sh (S i)) hd (L i) st) : VS l R own cc nL X cl sl n (shW sh (S i0)) hd (L i0) st :=
  downI N (fun i => VS l R own cc nL X cl sl n (shW sh (S i)) hd (L i) st) h0 hs i0 hi
/-- a bit of a number -/
def bt (x : Int32) (i : Nat) : Bool := x.toBitVec.getLsbD i
theorem b_ext {x y : Int32} (h : ∀ i, i < 32 → bt x i = bt y i) : x = y := Int32.toBitVec_inj.mp (BitVec.eq_of_getLsbD_eq h)
theorem b_big {x : Int32} {i : Nat} (h : 32 ≤ i) : bt x i = false := BitVec.getLsbD_of_ge _ _ h
theorem b_or (x y : Int32) (i : Nat) : bt (x ||| y) i = (bt x i || bt y i) := by
  simp [bt]
theorem b_and (x y : Int32) (i : Nat) : bt (x &&& y) i = (bt x i && bt y i) := by
  simp [bt]
theorem b_xor (x y : Int32) (i : Nat) : bt (x ^^^ y) i = (bt x i ^^ bt y i) := by
  simp [bt]
theorem b_0 (i : Nat) : bt 0 i = false := by simp [bt]
theorem b_m1 : ∀ i, i < 32 → bt (-1) i = true := by decide
/-- how many of the first n -/
def ct (p : Nat → Bool) : Nat → Nat
  | 0 => 0
  | n + 1 => ct p n + (if p n then 1 else 0)
def pcN (x : Int32) : Nat := ct (bt x) 32
def pcI (x : Int32) : Int32 := nI (pcN x)
theorem ct_le (p : Nat → Bool) : ∀ n, ct p n ≤ n
  | 0 => Nat.le_refl _
  | n + 1 => by
    have h := ct_le p n
    unfold ct
    split <;> omega
theorem ct_cong {p q : Nat → Bool} : ∀ {n : Nat}, (∀ k, k < n → p k = q k) → ct p n = ct q n
  | 0, _ => rfl
  | n + 1, h => by
    unfold ct
    rw [ct_cong (fun k hk => h k (by omega)), h n (by omega)]
theorem pcN_le (x : Int32) : pcN x ≤ 32 := ct_le _ _
/-! small numbers -/
theorem ti_0 : (0 : Int32).toInt = 0 := by decide
theorem ti_1 : (1 : Int32).toInt = 1 := by decide
theorem ti_2 : (2 : Int32).toInt = 2 := by decide
theorem ti_3 : (3 : Int32).toInt = 3 := by decide
theorem ti_4 : (4 : Int32).toInt = 4 := by decide
theorem ti_5 : (5 : Int32).toInt = 5 := by decide
theorem ti_6 : (6 : Int32).toInt = 6 := by decide
theorem ti_7 : (7 : Int32).toInt = 7 := by decide
theorem ti_8 : (8 : Int32).toInt = 8 := by decide
theorem ti_9 : (9 : Int32).toInt = 9 := by decide
theorem ti_10 : (10 : Int32).toInt = 10 := by decide
theorem ti_14 : (14 : Int32).toInt = 14 := by decide
theorem ti_15 : (15 : Int32).toInt = 15 := by decide
theorem ti_16 : (16 : Int32).toInt = 16 := by decide
theorem ti_20 : (20 : Int32).toInt = 20 := by decide
theorem ti_28 : (28 : Int32).toInt = 28 := by decide
theorem ti_33 : (33 : Int32).toInt = 33 := by decide
theorem ti_40 : (40 : Int32).toInt = 40 := by decide
theorem ti_50 : (50 : Int32).toInt = 50 := by decide
theorem ti_80 : (80 : Int32).toInt = 80 := by decide
theorem ti_97 : (97 : Int32).toInt = 97 := by decide
theorem ti_99 : (99 : Int32).toInt = 99 := by decide
theorem ti_100 : (100 : Int32).toInt = 100 := by decide
theorem ti_104 : (104 : Int32).toInt = 104 := by decide
theorem ti_126 : (126 : Int32).toInt = 126 := by decide
theorem ti_150 : (150 : Int32).toInt = 150 := by decide
theorem ti_182 : (182 : Int32).toInt = 182 := by decide
theorem ti_200 : (200 : Int32).toInt = 200 := by decide
theorem ti_255 : (255 : Int32).toInt = 255 := by decide
theorem ti_364 : (364 : Int32).toInt = 364 := by decide
theorem ti_1092 : (1092 : Int32).toInt = 1092 := by decide
theorem ti_9999 : (9999 : Int32).toInt = 9999 := by decide
theorem tim_1 : (-1 : Int32).toInt = -1 := by decide
theorem tim_2 : (-2 : Int32).toInt = -2 := by decide
theorem tim_3 : (-3 : Int32).toInt = -3 := by decide
theorem tim_4 : (-4 : Int32).toInt = -4 := by decide
theorem tim_5 : (-5 : Int32).toInt = -5 := by decide
theorem tim_6 : (-6 : Int32).toInt = -6 := by decide
def minI (a b : Int32) : Int32 := if b < a then b else a
def maxI (a b : Int32) : Int32 := if a < b then b else a
section VSX
variable {l : Launch} {R : Room} {own : String} {cc : ByteArray} {nL : Nat} {X : XT} {cl sl n : Nat} {g : Nat → va_E} {pc : Nat} {L : List (Option Value)} {st : List Value}
theorem VS.forget (k : Nat) (kk : VS l R own cc nL X cl sl n g pc (L.set k none) st) : VS l R own cc nL X cl sl n g pc L st := VS.locals (fun j v h => by
  by_cases hj : j = k
  · subst hj
    by_cases hl : j < L.length
    · rw [List.getElem?_set_self hl] at h; cases h
    · rw [List.getElem?_eq_none (by rw [List.length_set]; omega)] at h; cases h
  · rw [List.getElem?_set_ne (Ne.symm hj)] at h; exact h) kk
theorem VS.lcmp {x y : Int64} (d : decode cc pc = .ok (.lcmp, 1)) (kk : VS l R own cc nL X cl sl n g (pc + 1) L (.int (lg_cmp x y) :: st)) : VS l R own cc nL X cl sl n g pc L (.long y :: .long x :: st) := fun p e s m args below meth c D cy A ad Q H locs ls C0 x0 i a hP hS hl => W.lcmp C0.1 C0.2.1 d (kk p e s m args below meth c D cy A ad Q H locs ls C0 x0 i a hP hS hl)
end VSX
/-- a counted loop with a fact that is carried -/
theorem VS.forH {l : Launch} {R : Room} {own : String} {cc : ByteArray} {nL : Nat} {X : XT} {cl sl n : Nat} {hd i0 : Nat} {st : List Value} (Hy : Nat → Prop) (N : Nat) (g : Nat → Nat → va_E) (L : Nat → List (Option Value)) (hi : i0 ≤ N) (hy : Hy i0) (h0 : Hy N → VS l R own cc nL X cl sl n (g N) hd (L N) st) (hs : ∀ i, i < N → Hy i → (Hy (i + 1) → VS l R own cc nL X cl sl n (g (i + 1)) hd (L (i + 1)) st) → VS l R own cc nL X cl sl n (g i) hd (L i) st) : VS l R own cc nL X cl sl n (g i0) hd (L i0) st :=
  downI N (fun i => Hy i → VS l R own cc nL X cl sl n (g i) hd (L i) st) h0 (fun i hi ih hy => hs i hi hy ih) i0 hi hy
theorem VS.forSH {l : Launch} {R : Room} {own : String} {cc : ByteArray} {nL : Nat} {X : XT} {cl sl n : Nat} {sh : Nat → Shp} {hd i0 : Nat} {st : List Value} (Hy : Nat → Prop) (N : Nat) (S : Nat → SS) (L : Nat → List (Option Value)) (hi : i0 ≤ N) (hy : Hy i0) (h0 : Hy N → VS l R own cc nL X cl sl n (shW sh (S N)) hd (L N) st) (hs : ∀ i, i < N → Hy i → (Hy (i + 1) → VS l R own cc nL X cl sl n (shW sh (S (i + 1))) hd (L (i + 1)) st) → VS l R own cc nL X cl sl n (shW sh (S i)) hd (L i) st) : VS l R own cc nL X cl sl n (shW sh (S i0)) hd (L i0) st :=
  downI N (fun i => Hy i → VS l R own cc nL X cl sl n (shW sh (S i)) hd (L i) st) h0 (fun i hi ih hy => hs i hi hy ih) i0 hi hy
theorem nb_ite {c : Prop} [Decidable c] : narrow .boolean (.int (if c then (1 : Int32) else 0)) = .int (if c then 1 else 0) := by
  split <;> rfl
/-- the bits, one by one: the count by the sideways sums, by the Java library's own steps -/
def swar (x : Int32) : Int32 :=
  let a := x - ((x.toUInt32 >>> ((1 : Int32).toUInt32 &&& Int32.toUInt32 31)).toInt32 &&& 1431655765)
  let b := (a &&& 858993459) + ((a.toUInt32 >>> ((2 : Int32).toUInt32 &&& Int32.toUInt32 31)).toInt32 &&& 858993459)
  let c := (b + (b.toUInt32 >>> ((4 : Int32).toUInt32 &&& Int32.toUInt32 31)).toInt32) &&& 252645135
  let d := c + (c.toUInt32 >>> ((8 : Int32).toUInt32 &&& Int32.toUInt32 31)).toInt32
  let e := d + (d.toUInt32 >>> ((16 : Int32).toUInt32 &&& Int32.toUInt32 31)).toInt32
  e &&& 63
/-- the lowest bit is taken away, k times -/
def clr (x : Int32) : Nat → Int32
  | 0 => x
  | k + 1 => clr x k &&& (clr x k - 1)
/-- n times -/
def itN (f : Int32 → Int32) (x : Int32) : Nat → Int32
  | 0 => x
  | n + 1 => f (itN f x n)
theorem itN_stop {f : Int32 → Int32} {x : Int32} {i n : Nat} (h : itN f x (i + 1) = itN f x i) (hn : i ≤ n) : itN f x n = itN f x i := by
  obtain ⟨k, rfl⟩ : ∃ k, n = i + k := ⟨n - i, by omega⟩
  induction k with
  | zero => rfl
  | succ k ih =>
    show f (itN f x (i + k)) = _
    rw [ih (by omega)]
    exact h
/-! what follows -/
def folJ (r k : Int32) (j : Nat) : Int32 := if pcI (k_at j &&& r &&& k) = pcI (k_at j &&& r) ∨ pcI (k_at j &&& r &&& k) + pcI (k_at j &&& (k ^^^ -1)) = pcI (k_at j &&& r) then k_at j &&& (k ^^^ -1) else 0
def swJ (r k : Int32) : Nat → Int32
  | 0 => k
  | j + 1 => swJ r k j ||| folJ r (swJ r k j) j
def swp (r k : Int32) : Int32 := swJ r k 8
def KK (r k : Int32) : Int32 := itN (swp r) k 28
/-! ways -/
def pbJ (f : Int32) (p : Nat) : Nat → Int32
  | 0 => 0
  | j + 1 => if j ≠ p ∧ ¬ f &&& k_at j = 0 then pbJ f p j ||| ((1 : Int32) <<< (nI j &&& 31)) else pbJ f p j
def pbI (r : Int32) (p : Nat) : Int32 := pbJ (r &&& k_at p) p 8
def nbJ (r m : Int32) : Nat → Int32
  | 0 => 0
  | j + 1 => if (m >>> (nI j &&& 31)) &&& 1 = 0 then nbJ r m j else nbJ r m j ||| pbI r j
def nbI (r m : Int32) : Int32 := nbJ r m 8
def dd (r t : Int32) : Nat → Nat → Int32 → Int32 → Int32
  | 0, _, _, _ => 99
  | n + 1, s, re, ed => if ed = 0 then 99 else if (ed >>> (t &&& 31)) &&& 1 = 0 then dd r t n (s + 1) (re ||| (nbI r ed &&& (re ^^^ -1))) (nbI r ed &&& (re ^^^ -1)) else nI s
def distI (r f t : Int32) : Int32 := dd r t 8 0 ((1 : Int32) <<< (f &&& 31)) ((1 : Int32) <<< (f &&& 31))
/-- reached, and the edge of what is reached, behind s steps -/
def bfs (r f : Int32) : Nat → Int32 × Int32
  | 0 => ((1 : Int32) <<< (f &&& 31), (1 : Int32) <<< (f &&& 31))
  | s + 1 => ((bfs r f s).1 ||| (nbI r (bfs r f s).2 &&& ((bfs r f s).1 ^^^ -1)), nbI r (bfs r f s).2 &&& ((bfs r f s).1 ^^^ -1))
/-! roads of a place; a player's third -/
def arJ (p : Int32) : Nat → Int32
  | 0 => 0
  | j + 1 => arJ p j ||| (if nI j = p then 0 else (1 : Int32) <<< (minI p (nI j) * (15 - minI p (nI j)) / 2 + maxI p (nI j) - minI p (nI j) - 1 &&& 31))
def thJ (p : Int32) : Nat → Int32
  | 0 => 0
  | j + 1 => thJ p j ||| ((1 : Int32) <<< (p + 3 * nI j &&& 31))
/-! characters of a number -/
def cdL (c : Int64) (j : Int32) : Int32 := (c.toUInt64 >>> ((8 * j).toInt64.toUInt64 &&& Int64.toUInt64 63)).toInt64.toInt32 &&& 255
def chF (c : Int64) (j : Nat) : Int32 := if j = 0 ∨ (j < 8 ∧ ¬ lg_cmp (c.toUInt64 >>> ((8 * nI j).toInt64.toUInt64 &&& Int64.toUInt64 63)).toInt64 0 = 0) then -2 else nI j
def chG (c : Int64) : Nat → Nat → Int32
  | 0, j => chF c j
  | n + 1, j => if cdL c (nI j) = 0 then chF c j else if cdL c (nI j) < 33 ∨ 126 < cdL c (nI j) then -2 else chG c n (j + 1)
def chI (c : Int64) : Int32 := chG c 8 0
/-! rows put into rows -/
def putR (f g : Nat → Int32) (a n : Nat) : Nat → Int32 := fun k => if a ≤ k ∧ k < a + n then g (k - a) else f k
theorem putR_0 (f g : Nat → Int32) (a : Nat) : putR f g a 0 = f := by
  funext k; unfold putR; rw [if_neg (by omega)]
theorem putR_s (f g : Nat → Int32) (a n : Nat) : upd (putR f g a n) (a + n) (g n) = putR f g a (n + 1) := by
  funext k; unfold upd putR
  by_cases h : k = a + n
  · subst h; rw [if_pos rfl, if_pos (by omega)]; congr 1; omega
  · rw [if_neg h]
    by_cases h2 : a ≤ k ∧ k < a + n
    · rw [if_pos h2, if_pos (by omega)]
    · rw [if_neg h2, if_neg (by omega)]
theorem putR_in {f g : Nat → Int32} {a n k : Nat} (h1 : a ≤ k) (h2 : k < a + n) : putR f g a n k = g (k - a) := if_pos ⟨h1, h2⟩
theorem putR_out {f g : Nat → Int32} {a n k : Nat} (h : k < a ∨ a + n ≤ k) : putR f g a n k = f k := if_neg (by omega)
/-! what follows: facts that the reference's loop needs -/
theorem fol_and (a k r : Int32) : a &&& (k &&& r) = a &&& r &&& k := by
  apply b_ext; intro i _; simp only [b_and]; cases bt a i <;> cases bt k i <;> cases bt r i <;> rfl
theorem fol_0 {r k : Int32} {j : Nat} (h : k_at j &&& (k ^^^ -1) = 0) : folJ r k j = 0 := by
  unfold folJ; split
  · exact h
  · rfl
/-! answers by number -/
def pick (l : List Int32) (x d : Int32) : Int32 := if x.toInt < 0 then d else l.getD x.toInt.toNat d
theorem pick_out {l : List Int32} {x d : Int32} {k : Nat} (h : x.toInt < 0 ∨ (k : Int) < x.toInt) (hl : l.length = k + 1) : pick l x d = d := by
  unfold pick
  split
  · rfl
  · rw [List.getD_eq_getElem?_getD, List.getElem?_eq_none (by omega)]; rfl
theorem toInt_inj {x : Int32} {k : Int} (h : x.toInt = k) : x = Int32.ofInt k := by rw [← h, Int32.ofInt_toInt]
theorem sw_0_4 (x : Int32) : x = 0 ∨ x = 1 ∨ x = 2 ∨ x = 3 ∨ x = 4 ∨ (x.toInt < 0 ∨ 4 < x.toInt) := by
  by_cases h : x.toInt < 0 ∨ 4 < x.toInt
  · exact Or.inr (Or.inr (Or.inr (Or.inr (Or.inr (h)))))
  · rcases (show x.toInt = 0 ∨ x.toInt = 1 ∨ x.toInt = 2 ∨ x.toInt = 3 ∨ x.toInt = 4 by omega) with q | q | q | q | q
    · exact Or.inl (toInt_inj q)
    · exact Or.inr (Or.inl (toInt_inj q))
    · exact Or.inr (Or.inr (Or.inl (toInt_inj q)))
    · exact Or.inr (Or.inr (Or.inr (Or.inl (toInt_inj q))))
    · exact Or.inr (Or.inr (Or.inr (Or.inr (Or.inl (toInt_inj q)))))
theorem sw_0_5 (x : Int32) : x = 0 ∨ x = 1 ∨ x = 2 ∨ x = 3 ∨ x = 4 ∨ x = 5 ∨ (x.toInt < 0 ∨ 5 < x.toInt) := by
  by_cases h : x.toInt < 0 ∨ 5 < x.toInt
  · exact Or.inr (Or.inr (Or.inr (Or.inr (Or.inr (Or.inr (h))))))
  · rcases (show x.toInt = 0 ∨ x.toInt = 1 ∨ x.toInt = 2 ∨ x.toInt = 3 ∨ x.toInt = 4 ∨ x.toInt = 5 by omega) with q | q | q | q | q | q
    · exact Or.inl (toInt_inj q)
    · exact Or.inr (Or.inl (toInt_inj q))
    · exact Or.inr (Or.inr (Or.inl (toInt_inj q)))
    · exact Or.inr (Or.inr (Or.inr (Or.inl (toInt_inj q))))
    · exact Or.inr (Or.inr (Or.inr (Or.inr (Or.inl (toInt_inj q)))))
    · exact Or.inr (Or.inr (Or.inr (Or.inr (Or.inr (Or.inl (toInt_inj q))))))
theorem sw_0_7 (x : Int32) : x = 0 ∨ x = 1 ∨ x = 2 ∨ x = 3 ∨ x = 4 ∨ x = 5 ∨ x = 6 ∨ x = 7 ∨ (x.toInt < 0 ∨ 7 < x.toInt) := by
  by_cases h : x.toInt < 0 ∨ 7 < x.toInt
  · exact Or.inr (Or.inr (Or.inr (Or.inr (Or.inr (Or.inr (Or.inr (Or.inr (h))))))))
  · rcases (show x.toInt = 0 ∨ x.toInt = 1 ∨ x.toInt = 2 ∨ x.toInt = 3 ∨ x.toInt = 4 ∨ x.toInt = 5 ∨ x.toInt = 6 ∨ x.toInt = 7 by omega) with q | q | q | q | q | q | q | q
    · exact Or.inl (toInt_inj q)
    · exact Or.inr (Or.inl (toInt_inj q))
    · exact Or.inr (Or.inr (Or.inl (toInt_inj q)))
    · exact Or.inr (Or.inr (Or.inr (Or.inl (toInt_inj q))))
    · exact Or.inr (Or.inr (Or.inr (Or.inr (Or.inl (toInt_inj q)))))
    · exact Or.inr (Or.inr (Or.inr (Or.inr (Or.inr (Or.inl (toInt_inj q))))))
    · exact Or.inr (Or.inr (Or.inr (Or.inr (Or.inr (Or.inr (Or.inl (toInt_inj q)))))))
    · exact Or.inr (Or.inr (Or.inr (Or.inr (Or.inr (Or.inr (Or.inr (Or.inl (toInt_inj q))))))))
theorem sw_0_13 (x : Int32) : x = 0 ∨ x = 1 ∨ x = 2 ∨ x = 3 ∨ x = 4 ∨ x = 5 ∨ x = 6 ∨ x = 7 ∨ x = 8 ∨ x = 9 ∨ x = 10 ∨ x = 11 ∨ x = 12 ∨ x = 13 ∨ (x.toInt < 0 ∨ 13 < x.toInt) := by
  by_cases h : x.toInt < 0 ∨ 13 < x.toInt
  · exact Or.inr (Or.inr (Or.inr (Or.inr (Or.inr (Or.inr (Or.inr (Or.inr (Or.inr (Or.inr (Or.inr (Or.inr (Or.inr (Or.inr (h))))))))))))))
  · rcases (show x.toInt = 0 ∨ x.toInt = 1 ∨ x.toInt = 2 ∨ x.toInt = 3 ∨ x.toInt = 4 ∨ x.toInt = 5 ∨ x.toInt = 6 ∨ x.toInt = 7 ∨ x.toInt = 8 ∨ x.toInt = 9 ∨ x.toInt = 10 ∨ x.toInt = 11 ∨ x.toInt = 12 ∨ x.toInt = 13 by omega) with q | q | q | q | q | q | q | q | q | q | q | q | q | q
    · exact Or.inl (toInt_inj q)
    · exact Or.inr (Or.inl (toInt_inj q))
    · exact Or.inr (Or.inr (Or.inl (toInt_inj q)))
    · exact Or.inr (Or.inr (Or.inr (Or.inl (toInt_inj q))))
    · exact Or.inr (Or.inr (Or.inr (Or.inr (Or.inl (toInt_inj q)))))
    · exact Or.inr (Or.inr (Or.inr (Or.inr (Or.inr (Or.inl (toInt_inj q))))))
    · exact Or.inr (Or.inr (Or.inr (Or.inr (Or.inr (Or.inr (Or.inl (toInt_inj q)))))))
    · exact Or.inr (Or.inr (Or.inr (Or.inr (Or.inr (Or.inr (Or.inr (Or.inl (toInt_inj q))))))))
    · exact Or.inr (Or.inr (Or.inr (Or.inr (Or.inr (Or.inr (Or.inr (Or.inr (Or.inl (toInt_inj q)))))))))
    · exact Or.inr (Or.inr (Or.inr (Or.inr (Or.inr (Or.inr (Or.inr (Or.inr (Or.inr (Or.inl (toInt_inj q))))))))))
    · exact Or.inr (Or.inr (Or.inr (Or.inr (Or.inr (Or.inr (Or.inr (Or.inr (Or.inr (Or.inr (Or.inl (toInt_inj q)))))))))))
    · exact Or.inr (Or.inr (Or.inr (Or.inr (Or.inr (Or.inr (Or.inr (Or.inr (Or.inr (Or.inr (Or.inr (Or.inl (toInt_inj q))))))))))))
    · exact Or.inr (Or.inr (Or.inr (Or.inr (Or.inr (Or.inr (Or.inr (Or.inr (Or.inr (Or.inr (Or.inr (Or.inr (Or.inl (toInt_inj q)))))))))))))
    · exact Or.inr (Or.inr (Or.inr (Or.inr (Or.inr (Or.inr (Or.inr (Or.inr (Or.inr (Or.inr (Or.inr (Or.inr (Or.inr (Or.inl (toInt_inj q))))))))))))))
theorem sw_1_5 (x : Int32) : x = 1 ∨ x = 2 ∨ x = 3 ∨ x = 4 ∨ x = 5 ∨ (x.toInt < 1 ∨ 5 < x.toInt) := by
  by_cases h : x.toInt < 1 ∨ 5 < x.toInt
  · exact Or.inr (Or.inr (Or.inr (Or.inr (Or.inr (h)))))
  · rcases (show x.toInt = 1 ∨ x.toInt = 2 ∨ x.toInt = 3 ∨ x.toInt = 4 ∨ x.toInt = 5 by omega) with q | q | q | q | q
    · exact Or.inl (toInt_inj q)
    · exact Or.inr (Or.inl (toInt_inj q))
    · exact Or.inr (Or.inr (Or.inl (toInt_inj q)))
    · exact Or.inr (Or.inr (Or.inr (Or.inl (toInt_inj q))))
    · exact Or.inr (Or.inr (Or.inr (Or.inr (Or.inl (toInt_inj q)))))
/-- the bit of a set that belongs to a road's number -/
def sb (x e : Int32) : Int32 := (x >>> (e &&& 31)) &&& 1
