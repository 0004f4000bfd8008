/-! what follows, and its closure -/
theorem ct_mono {p q : Nat → Bool} : ∀ {n : Nat}, (∀ i, i < n → p i = true → q i = true) → ct p n ≤ ct q n
  | 0, _ => Nat.le_refl _
  | n + 1, h => by
    have h1 := ct_mono (p := p) (q := q) (n := n) (fun i hi => h i (by omega))
    have h2 := h n (by omega)
    unfold ct
    cases hp : p n <;> cases hq : q n <;> simp_all <;> omega
theorem ct_sub_eq {p q : Nat → Bool} : ∀ {n : Nat}, (∀ i, i < n → p i = true → q i = true) → ct p n = ct q n → ∀ i, i < n → q i = true → p i = true
  | 0, _, _, i, hi, _ => absurd hi (Nat.not_lt_zero _)
  | n + 1, h, e, i, hi, hq => by
    have h1 := ct_mono (p := p) (q := q) (n := n) (fun i hi => h i (by omega))
    have h2 := h n (by omega)
    unfold ct at e
    have key : ct p n = ct q n ∧ p n = q n := by
      cases hp : p n <;> cases hq2 : q n <;> simp_all <;> omega
    by_cases hin : i = n
    · subst hin; rw [key.2]; exact hq
    · exact ct_sub_eq (fun i hi => h i (by omega)) key.1 i (by omega) hq
theorem ct_two (p q : Nat → Bool) : ∀ n, ct (fun i => p i && q i) n + ct (fun i => p i && !q i) n = ct p n
  | 0 => rfl
  | n + 1 => by
    have h := ct_two p q n
    unfold ct
    cases hp : p n <;> cases hq : q n <;> simp_all <;> omega
theorem pcI_eq {x y : Int32} (h : pcI x = pcI y) : pcN x = pcN y := (nI_eq (by have := pcN_le x; omega) (by have := pcN_le y; omega)).mp h
theorem pc_sub {x y : Int32} (hs : ∀ i, bt x i = true → bt y i = true) (h : pcN x = pcN y) : ∀ i, i < 32 → bt y i = true → bt x i = true := ct_sub_eq (fun i _ => hs i) h
/-- at a place the rule says that all that stand there are known, or that all that are not known stand there -/
def fires (r k : Int32) (j : Nat) : Prop := (∀ i, i < 32 → bt (k_at j) i = true → bt r i = true → bt k i = true) ∨ (∀ i, i < 32 → bt (k_at j) i = true → bt k i = false → bt r i = true)
theorem t1_of {r k : Int32} {j : Nat} (h : pcI (k_at j &&& r &&& k) = pcI (k_at j &&& r)) : ∀ i, i < 32 → bt (k_at j) i = true → bt r i = true → bt k i = true := by
  intro i hi ha hr
  have := pc_sub (x := k_at j &&& r &&& k) (y := k_at j &&& r) (fun i => by simp only [bt_and, Bool.and_eq_true]; exact fun z => z.1) (pcI_eq h) i hi (by rw [bt_and, ha, hr]; rfl)
  simp only [bt_and, Bool.and_eq_true] at this
  exact this.2
theorem t1_to {r k : Int32} {j : Nat} (h : ∀ i, i < 32 → bt (k_at j) i = true → bt r i = true → bt k i = true) : pcI (k_at j &&& r &&& k) = pcI (k_at j &&& r) := by
  unfold pcI pcN
  congr 1
  refine ct_cong fun i hi => ?_
  have := h i hi
  rw [bt_and, bt_and]
  revert this
  cases bt (k_at j) i <;> cases bt r i <;> cases bt k i <;> simp
theorem t2_nat {r k : Int32} {j : Nat} : pcN (k_at j &&& r &&& k) + pcN (k_at j &&& r &&& (k ^^^ -1)) = pcN (k_at j &&& r) := by
  have h := ct_two (bt (k_at j &&& r)) (bt k) 32
  have e1 : pcN (k_at j &&& r &&& k) = ct (fun i => bt (k_at j &&& r) i && bt k i) 32 := ct_cong fun i _ => bt_and _ _ _
  have e2 : pcN (k_at j &&& r &&& (k ^^^ -1)) = ct (fun i => bt (k_at j &&& r) i && !bt k i) 32 := ct_cong fun i hi => by rw [bt_and, bt_not _ hi]
  rw [e1, e2]; exact h
theorem t2_iff {r k : Int32} {j : Nat} : pcI (k_at j &&& r &&& k) + pcI (k_at j &&& (k ^^^ -1)) = pcI (k_at j &&& r) ↔ pcN (k_at j &&& r &&& (k ^^^ -1)) = pcN (k_at j &&& (k ^^^ -1)) := by
  have h := t2_nat (r := r) (k := k) (j := j)
  have a := pcN_le (k_at j &&& r &&& k)
  have b := pcN_le (k_at j &&& (k ^^^ -1))
  have c := pcN_le (k_at j &&& r)
  unfold pcI
  rw [nI_add, nI_eq (by omega) (by omega)]
  omega
theorem t2_of {r k : Int32} {j : Nat} (h : pcI (k_at j &&& r &&& k) + pcI (k_at j &&& (k ^^^ -1)) = pcI (k_at j &&& r)) : ∀ i, i < 32 → bt (k_at j) i = true → bt k i = false → bt r i = true := by
  intro i hi ha hk
  have := pc_sub (x := k_at j &&& r &&& (k ^^^ -1)) (y := k_at j &&& (k ^^^ -1)) (fun i => by simp only [bt_and, Bool.and_eq_true]; exact fun z => ⟨z.1.1, z.2⟩) (t2_iff.mp h) i hi (by rw [bt_and, ha, bt_not _ hi, hk]; rfl)
  simp only [bt_and, Bool.and_eq_true] at this
  exact this.1.2
theorem t2_to {r k : Int32} {j : Nat} (h : ∀ i, i < 32 → bt (k_at j) i = true → bt k i = false → bt r i = true) : pcI (k_at j &&& r &&& k) + pcI (k_at j &&& (k ^^^ -1)) = pcI (k_at j &&& r) := by
  refine t2_iff.mpr (ct_cong fun i hi => ?_)
  have := h i hi
  rw [bt_and, bt_and, bt_and, bt_not _ hi]
  revert this
  cases bt (k_at j) i <;> cases bt r i <;> cases bt k i <;> simp
theorem fol_t1 {r k : Int32} {j : Nat} (h : pcI (k_at j &&& r &&& k) = pcI (k_at j &&& r)) : (k ||| (k_at j &&& (k ^^^ -1))) &&& r = (k &&& r) ||| 0 := by
  apply bt_ext
  intro i hi
  have := t1_of h i hi
  simp only [bt_and, bt_or, bt_not _ hi, bt_z]
  revert this
  cases bt (k_at j) i <;> cases bt r i <;> cases bt k i <;> simp
theorem fol_t2 {r k : Int32} {j : Nat} (h : pcI (k_at j &&& r &&& k) + pcI (k_at j &&& (k ^^^ -1)) = pcI (k_at j &&& r)) : (k ||| (k_at j &&& (k ^^^ -1))) &&& r = (k &&& r) ||| (k_at j &&& (k ^^^ -1)) := by
  apply bt_ext
  intro i hi
  have := t2_of h i hi
  simp only [bt_and, bt_or, bt_not _ hi]
  revert this
  cases bt (k_at j) i <;> cases bt r i <;> cases bt k i <;> simp
theorem fires_iff {r k : Int32} {j : Nat} : (pcI (k_at j &&& r &&& k) = pcI (k_at j &&& r) ∨ pcI (k_at j &&& r &&& k) + pcI (k_at j &&& (k ^^^ -1)) = pcI (k_at j &&& r)) ↔ fires r k j :=
  ⟨fun h => h.elim (fun z => Or.inl (t1_of z)) (fun z => Or.inr (t2_of z)), fun h => h.elim (fun z => Or.inl (t1_to z)) (fun z => Or.inr (t2_to z))⟩
theorem fol_bt {r k : Int32} {j i : Nat} (hi : i < 32) : bt (folJ r k j) i = true ↔ fires r k j ∧ bt (k_at j) i = true ∧ bt k i = false := by
  unfold folJ
  by_cases h : pcI (k_at j &&& r &&& k) = pcI (k_at j &&& r) ∨ pcI (k_at j &&& r &&& k) + pcI (k_at j &&& (k ^^^ -1)) = pcI (k_at j &&& r)
  · rw [if_pos h, bt_and, bt_not _ hi]
    have := fires_iff.mp h
    cases bt (k_at j) i <;> cases bt k i <;> simp [this]
  · rw [if_neg h, bt_z]
    have : ¬ fires r k j := fun z => h (fires_iff.mpr z)
    simp [this]
def leB (x y : Int32) : Prop := ∀ i, i < 32 → bt x i = true → bt y i = true
theorem fires_mono {r k k2 : Int32} {j : Nat} (h : leB k k2) (hf : fires r k j) : fires r k2 j := by
  rcases hf with hf | hf
  · exact Or.inl fun i hi a b => h i hi (hf i hi a b)
  · refine Or.inr fun i hi a b => hf i hi a ?_
    cases z : bt k i
    · rfl
    · rw [h i hi z] at b; exact absurd b (by decide)
theorem sw_step {r k k2 : Int32} {j : Nat} (h : leB k k2) : leB (k ||| folJ r k j) (k2 ||| folJ r k2 j) := by
  intro i hi hb
  rw [bt_or, Bool.or_eq_true] at hb ⊢
  rcases hb with hb | hb
  · exact Or.inl (h i hi hb)
  · obtain ⟨f, a, b⟩ := (fol_bt hi).mp hb
    cases z : bt k2 i
    · exact Or.inr ((fol_bt hi).mpr ⟨fires_mono h f, a, z⟩)
    · exact Or.inl rfl
theorem swJ_mono {r k k2 : Int32} (h : leB k k2) : ∀ j, leB (swJ r k j) (swJ r k2 j)
  | 0 => h
  | j + 1 => sw_step (swJ_mono h j)
theorem swJ_ge (r k : Int32) : ∀ j, leB k (swJ r k j)
  | 0 => fun _ _ h => h
  | j + 1 => fun i hi h => by
    show bt (swJ r k j ||| folJ r (swJ r k j) j) i = true
    rw [bt_or, swJ_ge r k j i hi h]; rfl
theorem swJ_ne {r k : Int32} {j : Nat} (h : ¬ k_at j &&& (swJ r k j ^^^ -1) = 0) : ¬ swJ r k j ||| (k_at j &&& (swJ r k j ^^^ -1)) = k := by
  intro e
  apply h
  apply bt_ext
  intro i hi
  have h1 := swJ_ge r k j i hi
  have h2 := congrArg (fun z => bt z i) e
  simp only [bt_or, bt_and, bt_not _ hi] at h2
  rw [bt_and, bt_not _ hi, bt_z]
  revert h1 h2
  cases bt (k_at j) i <;> cases bt (swJ r k j) i <;> cases bt k i <;> simp
theorem itN_mono {r k k2 : Int32} (h : leB k k2) : ∀ n, leB (itN (swp r) k n) (itN (swp r) k2 n)
  | 0 => h
  | n + 1 => swJ_mono (itN_mono h n) 8
theorem itN_ge (r k : Int32) : ∀ n, leB k (itN (swp r) k n)
  | 0 => fun _ _ h => h
  | n + 1 => fun i hi h => swJ_ge r _ 8 i hi (itN_ge r k n i hi h)
theorem at_28 : ∀ j, j < 8 → ∀ i, i < 32 → 28 ≤ i → bt (k_at j) i = false := by decide +kernel
theorem swJ_hi (r k : Int32) {i : Nat} (hi : i < 32) (h : 28 ≤ i) : ∀ j, j ≤ 8 → bt (swJ r k j) i = bt k i
  | 0, _ => rfl
  | j + 1, hj => by
    show bt (swJ r k j ||| folJ r (swJ r k j) j) i = bt k i
    rw [bt_or, swJ_hi r k hi h j (by omega)]
    cases z : bt (folJ r (swJ r k j) j) i
    · rw [Bool.or_false]
    · have := ((fol_bt hi).mp z).2.1
      rw [at_28 j (by omega) i hi h] at this
      exact absurd this (by decide)
theorem swp_grow {r x : Int32} (h : ¬ swp r x = x) : ct (bt x) 28 < ct (bt (swp r x)) 28 := by
  have hge : ∀ i, i < 28 → bt x i = true → bt (swp r x) i = true := fun i hi => swJ_ge r x 8 i (by omega)
  rcases Nat.lt_or_eq_of_le (ct_mono hge) with q | q
  · exact q
  · exfalso
    apply h
    apply bt_ext
    intro i hi
    by_cases h28 : 28 ≤ i
    · exact swJ_hi r x hi h28 8 (Nat.le_refl _)
    · have h1 := ct_sub_eq hge q i (by omega)
      have h2 := hge i (by omega)
      cases a : bt x i <;> cases b : bt (swp r x) i <;> simp_all
theorem KK_stop (r k : Int32) : itN (swp r) k 29 = itN (swp r) k 28 := by
  apply Classical.byContradiction
  intro h
  have hs : ∀ n, n ≤ 28 → ¬ swp r (itN (swp r) k n) = itN (swp r) k n := fun n hn e => by
    have e1 := itN_stop (n := 28) (show itN (swp r) k (n + 1) = itN (swp r) k n from e) hn
    have e2 := itN_stop (n := 29) (show itN (swp r) k (n + 1) = itN (swp r) k n from e) (by omega)
    exact h (e2.trans e1.symm)
  have hc : ∀ n, n ≤ 29 → n ≤ ct (bt (itN (swp r) k n)) 28 := fun n => by
    induction n with
    | zero => exact fun _ => Nat.zero_le _
    | succ n ih =>
      intro hn
      have h1 := ih (by omega)
      have h2 := swp_grow (hs n (by omega))
      show n + 1 ≤ ct (bt (swp r (itN (swp r) k n))) 28
      omega
  have h1 := hc 29 (Nat.le_refl _)
  have h2 := ct_le (bt (itN (swp r) k 29)) 28
  omega
theorem KK_ge (r v : Int32) (k : Nat) (h : bt v k = true) : bt (KK r v) k = true := by
  rcases Nat.lt_or_ge k 32 with q | q
  · exact itN_ge r v 28 k q h
  · rw [bt_hi _ q] at h; exact absurd h (by decide)
theorem leB_eq {x y : Int32} (h1 : leB x y) (h2 : leB y x) : x = y := bt_ext fun i hi => by
  have a := h1 i hi
  have b := h2 i hi
  cases p : bt x i <;> cases q : bt y i <;> simp_all
theorem KK_idem (r v : Int32) : KK r (KK r v) = KK r v := by
  have e : swp r (KK r v) = KK r v := KK_stop r v
  have key : ∀ n, itN (swp r) (KK r v) n = KK r v := fun n => by
    induction n with
    | zero => rfl
    | succ n ih => show swp r (itN (swp r) (KK r v) n) = KK r v; rw [ih, e]
  exact key 28
theorem KK_or (r v e : Int32) : KK r (KK r v ||| e) = KK r (v ||| e) := by
  apply leB_eq
  · have h1 : leB (KK r v ||| e) (KK r (v ||| e)) := fun i hi h => by
      rw [bt_or, Bool.or_eq_true] at h
      rcases h with h | h
      · exact itN_mono (k := v) (k2 := v ||| e) (fun i hi z => by rw [bt_or, z]; rfl) 28 i hi h
      · exact itN_ge r (v ||| e) 28 i hi (by rw [bt_or, h, Bool.or_true])
    have h2 := itN_mono (r := r) h1 28
    rw [show itN (swp r) (KK r (v ||| e)) 28 = KK r (v ||| e) from KK_idem r _] at h2
    exact h2
  · exact itN_mono (fun i hi h => by
      rw [bt_or, Bool.or_eq_true] at h ⊢
      rcases h with h | h
      · exact Or.inl (itN_ge r v 28 i hi h)
      · exact Or.inr h) 28
