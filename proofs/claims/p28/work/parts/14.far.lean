/-! the reference: distances, questions -/
def iF (f : Nat) (F : Nat → Int32) : Nat → (Nat → Int32)
  | 0 => F
  | j + 1 => upd (iF f F j) j (if j = f then 0 else 99)
def rlx (r : Int32) (a b : Nat) (F : Nat → Int32) : Nat → Int32 := upd F b (if (a ≠ b ∧ sb r (eI (nI a) (nI b)) = 1 ∧ F a < 99) ∧ F a + 1 < F b then F a + 1 else F b)
def mB (r : Int32) (a : Nat) (F : Nat → Int32) : Nat → (Nat → Int32)
  | 0 => F
  | b + 1 => rlx r a b (mB r a F b)
def mA (r : Int32) (F : Nat → Int32) : Nat → (Nat → Int32)
  | 0 => F
  | a + 1 => mB r a (mA r F a) 8
def mR (r : Int32) (F : Nat → Int32) : Nat → (Nat → Int32)
  | 0 => F
  | k + 1 => mA r (mR r F k) 8
/-- how far all places are -/
def md (r : Int32) (f : Nat) (F : Nat → Int32) : Nat → Int32 := mR r (iF f F 8) 8
def mdS (M : SS) (f : Nat) (F : Nat → Int32) : SS := upC M 6 F
theorem iF_y {f : Nat} {F : Nat → Int32} {i : Nat} (h : i = f) : iF f F (i + 1) = upd (iF f F i) i 0 := congrArg (upd (iF f F i) i) (if_pos h)
theorem iF_n {f : Nat} {F : Nat → Int32} {i : Nat} (h : ¬ i = f) : iF f F (i + 1) = upd (iF f F i) i 99 := congrArg (upd (iF f F i) i) (if_neg h)
theorem rlx_n {r : Int32} {a b : Nat} {F : Nat → Int32} (h : ¬ ((a ≠ b ∧ sb r (eI (nI a) (nI b)) = 1 ∧ F a < 99) ∧ F a + 1 < F b)) : rlx r a b F = upd F b (F b) := congrArg (upd F b) (if_neg h)
theorem rlx_y {r : Int32} {a b : Nat} {F : Nat → Int32} (h : (a ≠ b ∧ sb r (eI (nI a) (nI b)) = 1 ∧ F a < 99) ∧ F a + 1 < F b) : rlx r a b F = upd F b (F a + 1) := congrArg (upd F b) (if_pos h)
theorem nIn {i p : Nat} (hi : i < 8) (hp : p < 8) (h : ¬ nI i = nI p) : i ≠ p := fun q => h (by rw [q])
def clJ (s : Nat → Int32) (c : Nat) (e : Int32) : Nat → Int32
  | 0 => 0
  | p + 1 => clJ s c e p ||| sb (s (c + p)) e <<< (nI p &&& 31)
theorem nge3 {i : Nat} (h : i < 3) : ¬ (3 : Int32) ≤ nI i := nI_ge (b := 3) h (by decide)
def ngJ (t : Int32) (p : Nat) : Nat → Int32
  | 0 => 0
  | j + 1 => ngJ t p j ||| (if nI j ≠ nI p ∧ sb t (eI (nI p) (nI j)) = 1 then (1 : Int32) <<< (nI j &&& 31) else 0)
theorem ngJ_y {t : Int32} {p i : Nat} (h : ¬ nI i = nI p) (h2 : sb t (eI (nI p) (nI i)) = 1) : ngJ t p i ||| ((1 : Int32) <<< (nI i &&& 31)) = ngJ t p (i + 1) := (congrArg (fun z => ngJ t p i ||| z) (if_pos ⟨h, h2⟩)).symm
theorem ngJ_n {t : Int32} {p i : Nat} (h : ¬ (nI i ≠ nI p ∧ sb t (eI (nI p) (nI i)) = 1)) : ngJ t p i ||| 0 = ngJ t p (i + 1) := (congrArg (fun z => ngJ t p i ||| z) (if_neg h)).symm
