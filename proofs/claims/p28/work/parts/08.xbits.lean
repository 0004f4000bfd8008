/-! bits -/
theorem bt_and (x y : Int32) (i : Nat) : bt (x &&& y) i = (bt x i && bt y i) := by simp [bt]
theorem bt_or (x y : Int32) (i : Nat) : bt (x ||| y) i = (bt x i || bt y i) := by simp [bt]
theorem bt_xor (x y : Int32) (i : Nat) : bt (x ^^^ y) i = (bt x i != bt y i) := by simp [bt]
theorem bt_m1 {i : Nat} (h : i < 32) : bt (-1) i = true := by
  have : ∀ i, i < 32 → bt (-1) i = true := by decide +kernel
  exact this i h
theorem bt_not (x : Int32) {i : Nat} (h : i < 32) : bt (x ^^^ -1) i = !bt x i := by
  rw [bt_xor, bt_m1 h]; cases bt x i <;> rfl
theorem bt_z (i : Nat) : bt 0 i = false := by simp [bt]
theorem bt_hi (x : Int32) {i : Nat} (h : 32 ≤ i) : bt x i = false := BitVec.getLsbD_of_ge _ _ h
theorem bt_ext {x y : Int32} (h : ∀ i, i < 32 → bt x i = bt y i) : x = y := by
  apply Int32.toBitVec_inj.mp
  apply BitVec.eq_of_getLsbD_eq
  intro i hi
  exact h i hi
def one (k : Nat) : Int32 := 1 <<< (nI k &&& 31)
theorem bt_one {k : Nat} (hk : k < 32) (i : Nat) : bt (one k) i = decide (i = k) := by
  by_cases hi : i < 32
  · have : ∀ k, k < 32 → ∀ i, i < 32 → bt (one k) i = decide (i = k) := by decide +kernel
    exact this k hk i hi
  · rw [bt_hi _ (by omega)]; exact (decide_eq_false (by omega)).symm
theorem and_one {x : Int32} {k : Nat} (hk : k < 32) : x &&& one k = 0 ↔ bt x k = false := by
  constructor
  · intro h
    have e := congrArg (fun z => bt z k) h
    simp only [bt_and, bt_one hk, bt_z] at e
    simpa using e
  · intro h
    apply bt_ext
    intro i hi
    rw [bt_and, bt_one hk, bt_z]
    by_cases e : i = k
    · subst e; rw [h]; rfl
    · rw [decide_eq_false e]; cases bt x i <;> rfl
theorem smod_k {k : Nat} (hk : k < 32) : (nI k &&& 31).toBitVec.smod 32#32 = BitVec.ofNat 32 k := by
  have : ∀ k, k < 32 → (nI k &&& 31).toBitVec.smod 32#32 = BitVec.ofNat 32 k := by decide +kernel
  exact this k hk
theorem bt_shr {x : Int32} {k : Nat} (hk : k < 32) : bt (x >>> (nI k &&& 31)) 0 = bt x k := by
  unfold bt
  rw [Int32.toBitVec_shiftRight]
  show (x.toBitVec.sshiftRight' ((nI k &&& 31).toBitVec.smod 32#32)).getLsbD 0 = _
  rw [smod_k hk]
  show (x.toBitVec.sshiftRight (BitVec.ofNat 32 k).toNat).getLsbD 0 = _
  rw [BitVec.toNat_ofNat, Nat.mod_eq_of_lt (by omega), BitVec.getLsbD_sshiftRight]
  simp [hk]
theorem and1 (x : Int32) : x &&& 1 = if bt x 0 then 1 else 0 := by
  apply bt_ext
  intro i hi
  rw [bt_and]
  have h1 : ∀ i, i < 32 → bt 1 i = decide (i = 0) := by decide +kernel
  rw [h1 i hi]
  by_cases e : i = 0
  · subst e
    cases h : bt x 0
    · simp [bt_z]
    · simp [h1 0 (by decide)]
  · rw [decide_eq_false e, Bool.and_false]
    split
    · rw [h1 i hi, decide_eq_false e]
    · rw [bt_z]
theorem sb_k (x : Int32) {k : Nat} (hk : k < 32) : sb x (nI k) = if bt x k then 1 else 0 := by
  unfold sb; rw [and1, bt_shr hk]
