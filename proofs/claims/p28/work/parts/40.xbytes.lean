/-! bytes of a number -/
theorem cnt8 : ∀ k, k < 8 → ((8 * nI k).toInt64.toUInt64 &&& Int64.toUInt64 63) = UInt64.ofNat (8 * k) := by decide +kernel
theorem cnt8n : ∀ k, k < 8 → (UInt64.ofNat (8 * k)).toBitVec.toNat % 64 = 8 * k := by decide +kernel
theorem sh_bit (c : Int64) {k : Nat} (hk : k < 8) (i : Nat) : ((c.toUInt64 >>> ((8 * nI k).toInt64.toUInt64 &&& Int64.toUInt64 63)).toInt64).toBitVec.getLsbD i = c.toBitVec.getLsbD (8 * k + i) := by
  rw [cnt8 k hk]
  show ((c.toUInt64 >>> UInt64.ofNat (8 * k)).toBitVec).getLsbD i = _
  rw [UInt64.toBitVec_shiftRight]
  show (c.toBitVec >>> ((UInt64.ofNat (8 * k)).toBitVec % 64)).getLsbD i = _
  rw [BitVec.ushiftRight_eq', BitVec.getLsbD_ushiftRight]
  congr 2
  rw [BitVec.toNat_umod]
  exact cnt8n k hk
theorem b255 : ∀ i, i < 32 → bt 255 i = decide (i < 8) := by decide +kernel
theorem cd_bit (c : Int64) {k : Nat} (hk : k < 8) {i : Nat} (hi : i < 32) : bt (cdL c (nI k)) i = (c.toBitVec.getLsbD (8 * k + i) && decide (i < 8)) := by
  unfold cdL
  rw [bt_and, b255 i hi]
  congr 1
  show (((c.toUInt64 >>> ((8 * nI k).toInt64.toUInt64 &&& Int64.toUInt64 63)).toInt64).toInt32).toBitVec.getLsbD i = _
  rw [Int64.toBitVec_toInt32, BitVec.getLsbD_signExtend, sh_bit c hk]
  simp [hi, show i < 64 by omega]
theorem cmp_0 (x : Int64) : lg_cmp x 0 = 0 ↔ x = 0 := by
  unfold lg_cmp
  by_cases h : x = 0
  · subst h; exact ⟨fun _ => rfl, fun _ => by decide⟩
  · refine ⟨fun z => ?_, fun z => absurd z h⟩
    by_cases g : x > 0
    · rw [if_pos g] at z; exact absurd z (by decide)
    · rw [if_neg g, if_neg h] at z; exact absurd z (by decide)
theorem shr_0 (c : Int64) {k : Nat} (hk : k < 8) : lg_cmp (c.toUInt64 >>> ((8 * nI k).toInt64.toUInt64 &&& Int64.toUInt64 63)).toInt64 0 = 0 ↔ ∀ j, k ≤ j → j < 8 → cdL c (nI j) = 0 := by
  rw [cmp_0]
  constructor
  · intro h j hj h8
    apply bt_ext
    intro i hi
    rw [cd_bit c h8 hi, bt_z]
    have e := congrArg (fun z : Int64 => z.toBitVec.getLsbD (8 * (j - k) + i)) h
    simp only [sh_bit c hk] at e
    rw [show 8 * k + (8 * (j - k) + i) = 8 * j + i by omega] at e
    rw [e]; simp
  · intro h
    apply Int64.toBitVec_inj.mp
    apply BitVec.eq_of_getLsbD_eq
    intro i hi
    rw [sh_bit c hk]
    by_cases hm : 8 * k + i < 64
    · have e := congrArg (fun z => bt z ((8 * k + i) % 8)) (h ((8 * k + i) / 8) (by omega) (by omega))
      simp only [bt_z] at e
      rw [cd_bit c (by omega) (by omega), show 8 * ((8 * k + i) / 8) + (8 * k + i) % 8 = 8 * k + i by omega] at e
      have hd : decide ((8 * k + i) % 8 < 8) = true := decide_eq_true (Nat.mod_lt _ (by decide))
      rw [hd, Bool.and_true] at e
      rw [e]; simp
    · rw [BitVec.getLsbD_of_ge _ _ (by omega)]; simp
