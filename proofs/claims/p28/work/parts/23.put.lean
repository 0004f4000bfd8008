/-! the reference: put -/
def puN (c : Int64) : Nat → Nat
  | 0 => 0
  | k + 1 => puN c k + (if cdL c (nI k) = 0 then 0 else 1)
def puI (c : Int64) : Nat → Int32
  | 0 => 1
  | k + 1 => if ¬ puI c k = 0 ∧ (cdL c (nI k) = 0 ∨ ((33 ≤ cdL c (nI k) ∧ cdL c (nI k) ≤ 126) ∧ nI (puN c k) = nI k)) then 1 else 0
theorem puN_le (c : Int64) : ∀ k, puN c k ≤ k
  | 0 => Nat.le_refl _
  | k + 1 => by
    have h := puN_le c k
    unfold puN
    split <;> omega
theorem lmask (x : Int64) : (x &&& 255).toInt32 = x.toInt32 &&& 255 := by
  apply Int32.toBitVec_inj.mp
  apply BitVec.eq_of_getLsbD_eq
  intro i hi
  simp [BitVec.getLsbD_signExtend, BitVec.getLsbD_setWidth]
theorem pcd_cdL (c : Int64) (j : Int32) : ((c.toUInt64 >>> ((8 * j).toInt64.toUInt64 &&& Int64.toUInt64 63)).toInt64 &&& 255).toInt32 = cdL c j := lmask _
theorem puI_y1 {c : Int64} {k : Nat} (h : ¬ puI c k = 0) (h2 : cdL c (nI k) = 0) : 1 = puI c (k + 1) := (if_pos ⟨h, Or.inl h2⟩).symm
theorem puI_y2 {c : Int64} {k : Nat} (h : ¬ puI c k = 0) (h2 : 33 ≤ cdL c (nI k) ∧ cdL c (nI k) ≤ 126) (h3 : nI (puN c k) = nI k) : 1 = puI c (k + 1) := (if_pos ⟨h, Or.inr ⟨h2, h3⟩⟩).symm
theorem puI_n1 {c : Int64} {k : Nat} (h : puI c k = 0) : 0 = puI c (k + 1) := (if_neg (fun q => q.1 h)).symm
theorem puI_n2 {c : Int64} {k : Nat} (h0 : ¬ cdL c (nI k) = 0) (h : ¬ (33 ≤ cdL c (nI k) ∧ cdL c (nI k) ≤ 126)) : 0 = puI c (k + 1) := (if_neg (fun q => q.2.elim h0 (fun z => h z.1))).symm
theorem puI_n3 {c : Int64} {k : Nat} (h0 : ¬ cdL c (nI k) = 0) (h : ¬ nI (puN c k) = nI k) : 0 = puI c (k + 1) := (if_neg (fun q => q.2.elim h0 (fun z => h z.2))).symm
theorem puN_y {c : Int64} {k : Nat} (h : ¬ cdL c (nI k) = 0) : nI (puN c k) + 1 = nI (puN c (k + 1)) := by
  show _ = nI (puN c k + (if cdL c (nI k) = 0 then 0 else 1)); rw [if_neg h, nI_succ]
theorem puN_n {c : Int64} {k : Nat} (h : cdL c (nI k) = 0) : nI (puN c k) + 0 = nI (puN c (k + 1)) := by
  show _ = nI (puN c k + (if cdL c (nI k) = 0 then 0 else 1)); rw [if_pos h]; exact Int32.add_zero _
/-- counting down: n - 1 - i -/
def kD (n i : Nat) : Int32 := Int32.ofInt ((n : Int) - 1 - i)
theorem kD_s (n i : Nat) : kD n i + Int32.ofInt (-1) = kD n (i + 1) := by
  unfold kD
  rw [← Int32.ofInt_add]
  congr 1
  omega
theorem kD_n {n i : Nat} (h : i < n) : kD n i = nI (n - 1 - i) := by
  unfold kD nI
  rw [show (n : Int) - 1 - i = ((n - 1 - i : Nat) : Int) by omega]
  rfl
theorem kD_0 {n : Nat} (h : 0 < n) : nI n - 1 = kD n 0 := by
  obtain ⟨m, rfl⟩ : ∃ m, n = m + 1 := ⟨n - 1, by omega⟩
  rw [nI_pred, kD_n (by omega)]
  rfl
theorem kD_e (n : Nat) : kD n n < 0 := by
  unfold kD
  rw [show (n : Int) - 1 - n = -1 by omega]
  decide
theorem kD_p {n i : Nat} (h : i < n) (hn : n ≤ 8) : ¬ kD n i < 0 := by
  rw [kD_n h]; exact nI_pos (by omega)
/-- characters behind the pad -/
def padR (f : Nat → Int32) (c : Int64) (len n i : Nat) : Nat → Int32 := putR f (fun j => cdL c (nI (n - 1 - j))) len i
def mPut (M : SS) (c : Int64) (len n i : Nat) : SS := upC (up2 M 0 6 (nI (len + i))) 5 (padR (M 5) c len n i)
theorem mPut_0 {M : SS} {c : Int64} {len n : Nat} (h : M 0 6 = nI len) : mPut M c len n 0 = M := by
  unfold mPut padR
  rw [putR_0]
  show upC (up2 M 0 6 (nI (len + 0))) 5 ((up2 M 0 6 (nI (len + 0))) 5) = M
  rw [upC_id]
  unfold up2
  have e : upd (M 0) 6 (nI (len + 0)) = M 0 := by
    funext k; unfold upd; split
    · rename_i q; rw [q, h]; rfl
    · rfl
  rw [e, upC_id]
theorem mPut_s {M : SS} {c : Int64} {len n i : Nat} : up2 (up2 (mPut M c len n i) 5 (len + i) (cdL c (nI (n - 1 - i)))) 0 6 (nI (len + i) + 1) = mPut M c len n (i + 1) := by
  unfold mPut up2
  rw [upC_upC, upC_at, upC_comm _ _ _ (by decide : (5 : Nat) ≠ 0), upC_upC, ← nI_succ]
  have e : upd (padR (M 5) c len n i) (len + i) (cdL c (nI (n - 1 - i))) = padR (M 5) c len n (i + 1) := putR_s (M 5) (fun j => cdL c (nI (n - 1 - j))) len i
  rw [e]
  have e2 : upd (upC (upC M 0 (upd (M 0) 6 (nI (len + i)))) 5 (padR (M 5) c len n (i + 1)) 0) 6 (nI (len + i + 1)) = upd (M 0) 6 (nI (len + (i + 1))) := by
    show upd (upd (M 0) 6 _) 6 _ = _
    rw [upd_upd]
    rfl
  rw [e2]
