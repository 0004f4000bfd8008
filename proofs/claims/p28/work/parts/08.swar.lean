/-! the count of bits, by sideways sums -/
theorem and_256 (n m : Nat) : n &&& m = 256 * ((n / 256) &&& (m / 256)) + ((n % 256) &&& (m % 256)) := by
  have h1 : (n &&& m) / 256 = (n / 256) &&& (m / 256) := Nat.and_div_two_pow (n := 8)
  have h2 : (n &&& m) % 256 = (n % 256) &&& (m % 256) := Nat.and_mod_two_pow (n := 8)
  rw [← h1, ← h2]; omega
def sideW1 (n m : Nat) : Nat := n - ((n / 2) &&& m)
def sideW2 (n m : Nat) : Nat := (n &&& m) + ((n / 4) &&& m)
def sideW3 (n m : Nat) : Nat := (n + n / 16) &&& m
set_option maxRecDepth 100000 in
theorem sideW1_lo : ∀ l, l < 256 → ∀ h, h < 2 → (128 * h + l / 2) &&& 85 = (l / 2) &&& 85 := by decide +kernel
set_option maxRecDepth 100000 in
theorem sideW2_lo : ∀ l, l < 256 → ∀ h, h < 4 → (64 * h + l / 4) &&& 51 = (l / 4) &&& 51 := by decide +kernel
theorem sideW1_go {h l : Nat} (mh : Nat) (hl : l < 256) : sideW1 (256 * h + l) (256 * mh + 85) = 256 * sideW1 h mh + sideW1 l 85 := by
  unfold sideW1
  rw [and_256 ((256 * h + l) / 2), show (256 * h + l) / 2 / 256 = h / 2 by omega, show (256 * mh + 85) / 256 = mh by omega, show (256 * h + l) / 2 % 256 = 128 * (h % 2) + l / 2 by omega, show (256 * mh + 85) % 256 = 85 by omega, sideW1_lo l hl (h % 2) (by omega)]
  have h1 : (h / 2) &&& mh ≤ h / 2 := Nat.and_le_left
  have h2 : (l / 2) &&& 85 ≤ l / 2 := Nat.and_le_left
  omega
theorem sideW2_go {h l : Nat} (mh : Nat) (hl : l < 256) : sideW2 (256 * h + l) (256 * mh + 51) = 256 * sideW2 h mh + sideW2 l 51 := by
  unfold sideW2
  rw [and_256 (256 * h + l), and_256 ((256 * h + l) / 4), show (256 * h + l) / 256 = h by omega, show (256 * h + l) % 256 = l by omega, show (256 * h + l) / 4 / 256 = h / 4 by omega, show (256 * mh + 51) / 256 = mh by omega, show (256 * h + l) / 4 % 256 = 64 * (h % 4) + l / 4 by omega, show (256 * mh + 51) % 256 = 51 by omega, sideW2_lo l hl (h % 4) (by omega)]
  omega
set_option maxRecDepth 100000 in
theorem sideW3_lo : ∀ l, l < 256 → l % 16 ≤ 4 → l / 16 ≤ 4 → ∀ h, h < 5 → (16 * h + l + l / 16) &&& 15 = (l + l / 16) &&& 15 := by decide +kernel
theorem sideW3_go {h l : Nat} (mh : Nat) (hl : l < 256) (h1 : l % 16 ≤ 4) (h2 : l / 16 ≤ 4) (h3 : h % 16 ≤ 4) : sideW3 (256 * h + l) (256 * mh + 15) = 256 * sideW3 h mh + sideW3 l 15 := by
  unfold sideW3
  rw [and_256 (256 * h + l + (256 * h + l) / 16), show (256 * h + l + (256 * h + l) / 16) / 256 = h + h / 16 by omega, show (256 * mh + 15) / 256 = mh by omega, show (256 * h + l + (256 * h + l) / 16) % 256 = 16 * (h % 16) + l + l / 16 by omega, show (256 * mh + 15) % 256 = 15 by omega, sideW3_lo l hl h1 h2 (h % 16) (by omega)]
set_option maxRecDepth 100000 in
theorem sideW_byte : ∀ l, l < 256 → sideW1 l 85 < 256 ∧ sideW2 (sideW1 l 85) 51 < 256 ∧ sideW2 (sideW1 l 85) 51 % 16 ≤ 4 ∧ sideW2 (sideW1 l 85) 51 / 16 ≤ 4 ∧ sideW3 (sideW2 (sideW1 l 85) 51) 15 = ct (fun i => l.testBit i) 8 := by decide +kernel
theorem sideW_all {a b c d : Nat} (ha : a < 256) (hb : b < 256) (hc : c < 256) (hd : d < 256) : sideW3 (sideW2 (sideW1 (256 * (256 * (256 * a + b) + c) + d) 1431655765) 858993459) 252645135 = 256 * (256 * (256 * ct (fun i => a.testBit i) 8 + ct (fun i => b.testBit i) 8) + ct (fun i => c.testBit i) 8) + ct (fun i => d.testBit i) 8 := by
  obtain ⟨a1, a2, a3, a4, a5⟩ := sideW_byte a ha
  obtain ⟨b1, b2, b3, b4, b5⟩ := sideW_byte b hb
  obtain ⟨c1, c2, c3, c4, c5⟩ := sideW_byte c hc
  obtain ⟨d1, d2, d3, d4, d5⟩ := sideW_byte d hd
  rw [← a5, ← b5, ← c5, ← d5]
  rw [show (1431655765 : Nat) = 256 * (256 * (256 * 85 + 85) + 85) + 85 from rfl, sideW1_go _ hd, sideW1_go _ hc, sideW1_go _ hb]
  rw [show (858993459 : Nat) = 256 * (256 * (256 * 51 + 51) + 51) + 51 from rfl, sideW2_go _ d1, sideW2_go _ c1, sideW2_go _ b1]
  generalize sideW2 (sideW1 a 85) 51 = a' at *
  generalize sideW2 (sideW1 b 85) 51 = b' at *
  generalize sideW2 (sideW1 c 85) 51 = c' at *
  generalize sideW2 (sideW1 d 85) 51 = d' at *
  rw [show (252645135 : Nat) = 256 * (256 * (256 * 15 + 15) + 15) + 15 from rfl, sideW3_go _ d2 d3 d4 (by omega), sideW3_go _ c2 c3 c4 (by omega), sideW3_go _ b2 b3 b4 (by omega)]
theorem ct_add (p : Nat → Bool) (m : Nat) : ∀ n, ct p (m + n) = ct p m + ct (fun i => p (m + i)) n
  | 0 => rfl
  | n + 1 => by
    show ct p (m + n) + _ = ct p m + (ct (fun i => p (m + i)) n + _)
    rw [ct_add p m n, Nat.add_assoc]
    rfl
theorem ct_byte (n k : Nat) : ct (fun i => n.testBit (k + i)) 8 = ct (fun i => (n / 2 ^ k % 256).testBit i) 8 := ct_cong fun i hi => by
  rw [show (256 : Nat) = 2 ^ 8 from rfl, Nat.testBit_mod_two_pow, Nat.testBit_div_two_pow, decide_eq_true hi, Bool.true_and, Nat.add_comm]
theorem ct_32 (n : Nat) : ct (fun i => n.testBit i) 32 = ct (fun i => (n % 256).testBit i) 8 + ct (fun i => (n / 256 % 256).testBit i) 8 + ct (fun i => (n / 65536 % 256).testBit i) 8 + ct (fun i => (n / 16777216 % 256).testBit i) 8 := by
  rw [ct_add _ 24 8, ct_add _ 16 8, ct_add _ 8 8]
  have h0 := ct_byte n 0
  have h1 := ct_byte n 8
  have h2 := ct_byte n 16
  have h3 := ct_byte n 24
  simp only [Nat.zero_add, Nat.pow_zero, Nat.div_one] at h0
  rw [h0, h1, h2, h3]
theorem tn_shr (y : Int32) : (y.toUInt32 >>> ((1 : Int32).toUInt32 &&& Int32.toUInt32 31)).toInt32.toBitVec.toNat = y.toBitVec.toNat / 2 ∧ (y.toUInt32 >>> ((2 : Int32).toUInt32 &&& Int32.toUInt32 31)).toInt32.toBitVec.toNat = y.toBitVec.toNat / 4 ∧ (y.toUInt32 >>> ((4 : Int32).toUInt32 &&& Int32.toUInt32 31)).toInt32.toBitVec.toNat = y.toBitVec.toNat / 16 ∧ (y.toUInt32 >>> ((8 : Int32).toUInt32 &&& Int32.toUInt32 31)).toInt32.toBitVec.toNat = y.toBitVec.toNat / 256 ∧ (y.toUInt32 >>> ((16 : Int32).toUInt32 &&& Int32.toUInt32 31)).toInt32.toBitVec.toNat = y.toBitVec.toNat / 65536 := by
  refine ⟨?_, ?_, ?_, ?_, ?_⟩
  · show y.toBitVec.toNat >>> 1 = _; rw [Nat.shiftRight_eq_div_pow]
  · show y.toBitVec.toNat >>> 2 = _; rw [Nat.shiftRight_eq_div_pow]
  · show y.toBitVec.toNat >>> 4 = _; rw [Nat.shiftRight_eq_div_pow]
  · show y.toBitVec.toNat >>> 8 = _; rw [Nat.shiftRight_eq_div_pow]
  · show y.toBitVec.toNat >>> 16 = _; rw [Nat.shiftRight_eq_div_pow]
theorem tn_and (x y : Int32) : (x &&& y).toBitVec.toNat = x.toBitVec.toNat &&& y.toBitVec.toNat := rfl
theorem tn_add (x y : Int32) : (x + y).toBitVec.toNat = (x.toBitVec.toNat + y.toBitVec.toNat) % 2 ^ 32 := rfl
theorem tn_sub {x y : Int32} (h : y.toBitVec.toNat ≤ x.toBitVec.toNat) : (x - y).toBitVec.toNat = x.toBitVec.toNat - y.toBitVec.toNat := by
  show (x.toBitVec - y.toBitVec).toNat = _
  rw [BitVec.toNat_sub]
  have h1 := x.toBitVec.isLt
  have h2 := y.toBitVec.isLt
  omega
theorem swar_of {x a b c d e : Int32} (ha : a = x - ((x.toUInt32 >>> ((1 : Int32).toUInt32 &&& Int32.toUInt32 31)).toInt32 &&& 1431655765)) (hb : b = (a &&& 858993459) + ((a.toUInt32 >>> ((2 : Int32).toUInt32 &&& Int32.toUInt32 31)).toInt32 &&& 858993459)) (hc : c = (b + (b.toUInt32 >>> ((4 : Int32).toUInt32 &&& Int32.toUInt32 31)).toInt32) &&& 252645135) (hd : d = c + (c.toUInt32 >>> ((8 : Int32).toUInt32 &&& Int32.toUInt32 31)).toInt32) (he : e = d + (d.toUInt32 >>> ((16 : Int32).toUInt32 &&& Int32.toUInt32 31)).toInt32) : swar x = e &&& 63 := by
  subst ha hb hc hd he
  rfl
theorem swar_pc (x : Int32) : swar x = pcI x := by
  have hx := x.toBitVec.isLt
  unfold pcI pcN
  rw [show ct (bt x) 32 = ct (fun i => x.toBitVec.toNat.testBit i) 32 from rfl, ct_32]
  have hA := sideW_all (a := x.toBitVec.toNat / 16777216 % 256) (b := x.toBitVec.toNat / 65536 % 256) (c := x.toBitVec.toNat / 256 % 256) (d := x.toBitVec.toNat % 256) (by omega) (by omega) (by omega) (by omega)
  rw [show 256 * (256 * (256 * (x.toBitVec.toNat / 16777216 % 256) + x.toBitVec.toNat / 65536 % 256) + x.toBitVec.toNat / 256 % 256) + x.toBitVec.toNat % 256 = x.toBitVec.toNat by omega] at hA
  have q0 := ct_le (fun i => (x.toBitVec.toNat % 256).testBit i) 8
  have q1 := ct_le (fun i => (x.toBitVec.toNat / 256 % 256).testBit i) 8
  have q2 := ct_le (fun i => (x.toBitVec.toNat / 65536 % 256).testBit i) 8
  have q3 := ct_le (fun i => (x.toBitVec.toNat / 16777216 % 256).testBit i) 8
  generalize ct (fun i => (x.toBitVec.toNat % 256).testBit i) 8 = n0 at *
  generalize ct (fun i => (x.toBitVec.toNat / 256 % 256).testBit i) 8 = n1 at *
  generalize ct (fun i => (x.toBitVec.toNat / 65536 % 256).testBit i) 8 = n2 at *
  generalize ct (fun i => (x.toBitVec.toNat / 16777216 % 256).testBit i) 8 = n3 at *
  rw [swar_of (x := x) rfl rfl rfl rfl rfl]
  apply Int32.toBitVec_inj.mp
  apply BitVec.eq_of_toNat_eq
  rw [show (nI (n0 + n1 + n2 + n3)).toBitVec.toNat = n0 + n1 + n2 + n3 from pk_tn (by omega)]
  have l1 : (x.toBitVec.toNat / 2) &&& 1431655765 ≤ x.toBitVec.toNat / 2 := Nat.and_le_left
  have e1 : (x - ((x.toUInt32 >>> ((1 : Int32).toUInt32 &&& Int32.toUInt32 31)).toInt32 &&& 1431655765)).toBitVec.toNat = sideW1 x.toBitVec.toNat 1431655765 := by
    have z : ((x.toUInt32 >>> ((1 : Int32).toUInt32 &&& Int32.toUInt32 31)).toInt32 &&& 1431655765).toBitVec.toNat = (x.toBitVec.toNat / 2) &&& 1431655765 := by rw [tn_and, (tn_shr x).1]; rfl
    rw [tn_sub (by rw [z]; omega), z]; rfl
  generalize (x - ((x.toUInt32 >>> ((1 : Int32).toUInt32 &&& Int32.toUInt32 31)).toInt32 &&& 1431655765)) = a at *
  have la := a.toBitVec.isLt
  have l2 : a.toBitVec.toNat &&& 858993459 ≤ 858993459 := Nat.and_le_right
  have l3 : (a.toBitVec.toNat / 4) &&& 858993459 ≤ 858993459 := Nat.and_le_right
  have e2 : ((a &&& 858993459) + ((a.toUInt32 >>> ((2 : Int32).toUInt32 &&& Int32.toUInt32 31)).toInt32 &&& 858993459)).toBitVec.toNat = sideW2 a.toBitVec.toNat 858993459 := by
    rw [tn_add, tn_and, tn_and, (tn_shr a).2.1]
    exact Nat.mod_eq_of_lt (show (a.toBitVec.toNat &&& 858993459) + ((a.toBitVec.toNat / 4) &&& 858993459) < 2 ^ 32 by omega)
  generalize ((a &&& 858993459) + ((a.toUInt32 >>> ((2 : Int32).toUInt32 &&& Int32.toUInt32 31)).toInt32 &&& 858993459)) = b at *
  have lb : b.toBitVec.toNat ≤ 1717986918 := by rw [e2]; show (a.toBitVec.toNat &&& 858993459) + ((a.toBitVec.toNat / 4) &&& 858993459) ≤ _; omega
  have e3 : ((b + (b.toUInt32 >>> ((4 : Int32).toUInt32 &&& Int32.toUInt32 31)).toInt32) &&& 252645135).toBitVec.toNat = sideW3 b.toBitVec.toNat 252645135 := by
    rw [tn_and, tn_add, (tn_shr b).2.2.1, Nat.mod_eq_of_lt (by omega)]; rfl
  generalize ((b + (b.toUInt32 >>> ((4 : Int32).toUInt32 &&& Int32.toUInt32 31)).toInt32) &&& 252645135) = c at *
  rw [e2, e1, hA] at e3
  have e4 : (c + (c.toUInt32 >>> ((8 : Int32).toUInt32 &&& Int32.toUInt32 31)).toInt32).toBitVec.toNat = 16777216 * n3 + 65536 * (n3 + n2) + 256 * (n2 + n1) + (n1 + n0) := by
    rw [tn_add, (tn_shr c).2.2.2.1, e3]; omega
  generalize (c + (c.toUInt32 >>> ((8 : Int32).toUInt32 &&& Int32.toUInt32 31)).toInt32) = d at *
  have e5 : (d + (d.toUInt32 >>> ((16 : Int32).toUInt32 &&& Int32.toUInt32 31)).toInt32).toBitVec.toNat % 64 = n0 + n1 + n2 + n3 := by
    have hd : (16777216 * n3 + 65536 * (n3 + n2) + 256 * (n2 + n1) + (n1 + n0)) / 65536 = 256 * n3 + n3 + n2 := by omega
    rw [tn_add, (tn_shr d).2.2.2.2, e4, hd, Nat.mod_eq_of_lt (show 16777216 * n3 + 65536 * (n3 + n2) + 256 * (n2 + n1) + (n1 + n0) + (256 * n3 + n3 + n2) < 2 ^ 32 by omega)]
    clear e4 hd
    omega
  generalize (d + (d.toUInt32 >>> ((16 : Int32).toUInt32 &&& Int32.toUInt32 31)).toInt32) = e at *
  show (e &&& 63).toBitVec.toNat = _
  rw [tn_and, show ((63 : Int32)).toBitVec.toNat = 2 ^ 6 - 1 from rfl, Nat.and_two_pow_sub_one_eq_mod]
  exact e5
