/-! the lowest bit -/
theorem odd_part : ∀ n : Nat, 0 < n → ∃ m q, n = 2 ^ m * (2 * q + 1) := by
  intro n
  induction n using Nat.strongRecOn with
  | _ n ih =>
    intro hn
    by_cases h : n % 2 = 1
    · exact ⟨0, n / 2, by rw [Nat.pow_zero, Nat.one_mul]; omega⟩
    · obtain ⟨m, q, e⟩ := ih (n / 2) (by omega) (by omega)
      refine ⟨m + 1, q, ?_⟩
      rw [Nat.pow_succ, Nat.mul_comm (2 ^ m) 2, Nat.mul_assoc, ← e]
      omega
theorem low_bits (m q i : Nat) : ((2 ^ m * (2 * q + 1)).testBit i && (2 ^ m * (2 * q + 1) - 1).testBit i) = ((2 ^ m * (2 * q + 1)).testBit i && !decide (i = m)) := by
  have hp : 0 < 2 ^ m := Nat.two_pow_pos m
  have e1 : 2 ^ m * (2 * q + 1) = 2 ^ m * (2 * q + 1) + 0 := rfl
  have e2 : 2 ^ m * (2 * q + 1) - 1 = 2 ^ m * (2 * q) + (2 ^ m - 1) := by rw [Nat.mul_add, Nat.mul_one]; omega
  rw [e2, e1, Nat.testBit_two_pow_mul_add _ hp, Nat.testBit_two_pow_mul_add _ (by omega)]
  by_cases h : i < m
  · rw [if_pos h, if_pos h]; simp
  · rw [if_neg h, if_neg h]
    by_cases e : i = m
    · subst e; simp
    · obtain ⟨k, hk⟩ : ∃ k, i - m = k + 1 := ⟨i - m - 1, by omega⟩
      rw [hk, decide_eq_false e, Nat.testBit_succ, Nat.testBit_succ, show (2 * q + 1) / 2 = q by omega, show 2 * q / 2 = q by omega]
      simp
theorem ct_one (p : Nat → Bool) {m : Nat} (hp : p m = true) : ∀ n, ct (fun i => p i && decide (i = m)) n = if m < n then 1 else 0
  | 0 => rfl
  | n + 1 => by
    have h := ct_one p hp n
    show ct (fun i => p i && decide (i = m)) n + (if (p n && decide (n = m)) = true then 1 else 0) = _
    rw [h]
    by_cases e : n = m
    · subst e
      rw [if_neg (Nat.lt_irrefl n), if_pos (Nat.lt_succ_self n), hp]; simp
    · rw [decide_eq_false e, Bool.and_false, if_neg (show ¬ (false = true) by decide), Nat.add_zero]
      by_cases q : m < n
      · rw [if_pos q, if_pos (by omega)]
      · rw [if_neg q, if_neg (by omega)]
theorem bt_nat (x : Int32) (i : Nat) : bt x i = x.toBitVec.toNat.testBit i := rfl
theorem drop_low {y : Int32} (h : ¬ y = 0) : pcN (y &&& (y - 1)) + 1 = pcN y := by
  have hn : 0 < y.toBitVec.toNat := Nat.pos_of_ne_zero fun z => h (by
    apply Int32.toBitVec_inj.mp
    apply BitVec.eq_of_toNat_eq
    rw [z]; rfl)
  obtain ⟨m, q, e⟩ := odd_part _ hn
  have hlt : y.toBitVec.toNat < 2 ^ 32 := y.toBitVec.isLt
  have e1 : (y - 1).toBitVec.toNat = y.toBitVec.toNat - 1 := by
    show (y.toBitVec - 1#32).toNat = _
    rw [BitVec.toNat_sub]
    show (2 ^ 32 - 1 + y.toBitVec.toNat) % 2 ^ 32 = _
    omega
  have hb : ∀ i, bt (y &&& (y - 1)) i = (bt y i && !decide (i = m)) := fun i => by
    rw [bt_and, bt_nat, bt_nat, e1, e]
    exact low_bits m q i
  have hm : bt y m = true := by
    rw [bt_nat, e, show 2 ^ m * (2 * q + 1) = 2 ^ m * (2 * q + 1) + 0 from rfl, Nat.testBit_two_pow_mul_add _ (Nat.two_pow_pos m), if_neg (Nat.lt_irrefl m)]
    simp
  have hm32 : m < 32 := by
    rcases Nat.lt_or_ge m 32 with z | z
    · exact z
    · rw [bt_hi _ z] at hm; exact absurd hm (by decide)
  have h2 := ct_two (bt y) (fun i => decide (i = m)) 32
  rw [ct_one _ hm, if_pos hm32] at h2
  have h3 : pcN (y &&& (y - 1)) = ct (fun i => bt y i && !decide (i = m)) 32 := ct_cong fun i _ => hb i
  rw [h3]
  show _ = ct (bt y) 32
  omega
theorem pcN_0 {y : Int32} (h : pcN y = 0) : y = 0 := by
  apply Classical.byContradiction
  intro z
  have := drop_low z
  omega
theorem pcN_z : pcN 0 = 0 := by decide
theorem clr_pc (x : Int32) : ∀ k, k ≤ pcN x → pcN (clr x k) + k = pcN x
  | 0, _ => rfl
  | k + 1, hk => by
    have ih := clr_pc x k (by omega)
    have hne : ¬ clr x k = 0 := fun z => by rw [z, pcN_z] at ih; omega
    have := drop_low hne
    show pcN (clr x k &&& (clr x k - 1)) + (k + 1) = pcN x
    omega
theorem clr_0 (x : Int32) : clr x (pcN x) = 0 := pcN_0 (by have := clr_pc x (pcN x) (Nat.le_refl _); omega)
theorem clr_n (x : Int32) {k : Nat} (h : k < pcN x) : ¬ clr x k = 0 := fun z => by
  have := clr_pc x k (by omega)
  rw [z, pcN_z] at this
  omega
