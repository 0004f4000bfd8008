/-! sums over pairs of places -/
def ek (a b : Nat) : Nat := (eI (nI a) (nI b)).toNatClampNeg
theorem ek_ok : ∀ a, a < 8 → ∀ b, b < 8 → a ≠ b → eI (nI a) (nI b) = nI (ek a b) ∧ ek a b < 28 ∧ ek b a = ek a b ∧ wrE (nI a) (nI b) = 0 := by decide +kernel
/-- how many of the numbers of a list the predicate holds of -/
def sm (p : Nat → Bool) : List Nat → Nat
  | [] => 0
  | i :: l => sm p l + if p i then 1 else 0
def WW (p : Nat → Bool) (w : Nat → Nat) : Nat → Nat
  | 0 => 0
  | n + 1 => WW p w n + if p n then w n else 0
theorem WW_congr {p : Nat → Bool} {w v : Nat → Nat} : ∀ n, (∀ i, i < n → w i = v i) → WW p w n = WW p v n
  | 0, _ => rfl
  | n + 1, h => by unfold WW; rw [WW_congr n (fun i hi => h i (by omega)), h n (by omega)]
theorem WW_add (p : Nat → Bool) (w v : Nat → Nat) : ∀ n, WW p (fun i => w i + v i) n = WW p w n + WW p v n
  | 0 => rfl
  | n + 1 => by unfold WW; rw [WW_add p w v n]; split <;> omega
theorem WW_zero (p : Nat → Bool) : ∀ n, WW p (fun _ => 0) n = 0
  | 0 => rfl
  | n + 1 => by unfold WW; rw [WW_zero p n]; split <;> rfl
theorem WW_single (p : Nat → Bool) (k : Nat) : ∀ n, WW p (fun i => if i = k then 1 else 0) n = if k < n then (if p k then 1 else 0) else 0
  | 0 => rfl
  | n + 1 => by
    unfold WW
    rw [WW_single p k n]
    by_cases h : n = k
    · subst h
      rw [if_neg (Nat.lt_irrefl _), if_pos (Nat.lt_succ_self _), if_pos rfl]; omega
    · rw [if_neg h]
      by_cases z : k < n
      · rw [if_pos z, if_pos (show k < n + 1 by omega)]; split <;> (try split) <;> rfl
      · rw [if_neg z, if_neg (show ¬ k < n + 1 by omega)]; split <;> rfl
theorem sm_W (p : Nat → Bool) (N : Nat) : ∀ l : List Nat, (∀ i, i ∈ l → i < N) → sm p l = WW p (fun i => l.count i) N
  | [], _ => by
    rw [show sm p [] = 0 from rfl, WW_congr N (v := fun _ => 0) (fun i _ => List.count_nil), WW_zero]
  | k :: l, h => by
    have ih := sm_W p N l (fun i hi => h i (List.mem_cons_of_mem _ hi))
    have e : WW p (fun i => (k :: l).count i) N = WW p (fun i => l.count i + (if i = k then 1 else 0)) N := WW_congr N fun i _ => by
      rw [List.count_cons]
      congr 1
      by_cases z : i = k
      · subst z; simp
      · rw [if_neg z, if_neg]; simpa using fun y => z y.symm
    rw [e, WW_add, WW_single, if_pos (h k List.mem_cons_self), ← ih]
    rfl
theorem ct_W (p : Nat → Bool) : ∀ n, ct p n = WW p (fun _ => 1) n
  | 0 => rfl
  | n + 1 => by
    unfold ct WW
    rw [ct_W p n]
theorem ct_and_W (m p : Nat → Bool) : ∀ n, ct (fun i => m i && p i) n = WW p (fun i => if m i then 1 else 0) n
  | 0 => rfl
  | n + 1 => by
    unfold ct WW
    rw [ct_and_W m p n]
    cases m n <;> cases p n <;> rfl
/-- the pairs a < b ahead of the place j = 8 a + b; all pairs; a row -/
def lp : Nat → List Nat
  | 0 => []
  | j + 1 => if j / 8 < j % 8 then ek (j / 8) (j % 8) :: lp j else lp j
def lq : Nat → List Nat
  | 0 => []
  | j + 1 => if j / 8 ≠ j % 8 then ek (j / 8) (j % 8) :: lq j else lq j
def lr (a : Nat) : Nat → List Nat
  | 0 => []
  | b + 1 => if a ≠ b then ek a b :: lr a b else lr a b
theorem lp_28 : (∀ i, i ∈ lp 64 → i < 28) ∧ ∀ i, i < 28 → (lp 64).count i = 1 := by decide +kernel
theorem lq_28 : (∀ i, i ∈ lq 64 → i < 28) ∧ ∀ i, i < 28 → (lq 64).count i = 2 := by decide +kernel
theorem lr_28 : ∀ a, a < 8 → (∀ i, i ∈ lr a 8 → i < 28) ∧ ∀ i, i < 28 → (lr a 8).count i = if bt (k_at a) i then 1 else 0 := by decide +kernel
theorem sm_lp (p : Nat → Bool) : sm p (lp 64) = ct p 28 := by
  rw [sm_W p 28 _ lp_28.1, ct_W]
  exact WW_congr 28 fun i hi => lp_28.2 i hi
theorem WW_two (p : Nat → Bool) (n : Nat) : WW p (fun _ => 2) n = 2 * WW p (fun _ => 1) n := by
  rw [WW_congr n (v := fun _ => 1 + 1) (fun _ _ => rfl), WW_add]; omega
theorem sm_lq (p : Nat → Bool) : sm p (lq 64) = 2 * ct p 28 := by
  rw [sm_W p 28 _ lq_28.1, ct_W, ← WW_two]
  exact WW_congr 28 fun i hi => lq_28.2 i hi
theorem ct_hi {p : Nat → Bool} {n m : Nat} (h : ∀ i, n ≤ i → i < n + m → p i = false) : ct p (n + m) = ct p n := by
  induction m with
  | zero => rfl
  | succ m ih =>
    show ct p (n + m) + (if p (n + m) then 1 else 0) = ct p n
    rw [ih (fun i h1 h2 => h i h1 (by omega)), h (n + m) (by omega) (by omega)]
    rfl
theorem pcN_28 {x : Int32} (h : ∀ i, 28 ≤ i → bt x i = false) : pcN x = ct (bt x) 28 := ct_hi (n := 28) (m := 4) fun i h1 _ => h i h1
theorem at_hi {a i : Nat} (ha : a < 8) (hi : 28 ≤ i) : bt (k_at a) i = false := by
  rcases Nat.lt_or_ge i 32 with h | h
  · exact at_28 a ha i h hi
  · exact bt_hi _ h
theorem sm_lr (x : Int32) {a : Nat} (ha : a < 8) : sm (bt x) (lr a 8) = pcN (k_at a &&& x) := by
  have e : pcN (k_at a &&& x) = ct (fun i => bt (k_at a) i && bt x i) 28 := by
    rw [pcN_28 (fun i hi => by rw [bt_and, at_hi ha hi]; rfl)]
    exact ct_cong fun i _ => bt_and _ _ _
  rw [e, ct_and_W, sm_W _ 28 _ (lr_28 a ha).1]
  exact WW_congr 28 fun i hi => (lr_28 a ha).2 i hi
theorem lp_s {a b : Nat} (hb : b < 8) : lp (8 * a + b + 1) = if a < b then ek a b :: lp (8 * a + b) else lp (8 * a + b) := by
  show (if (8 * a + b) / 8 < (8 * a + b) % 8 then _ else _) = _
  rw [show (8 * a + b) / 8 = a by omega, show (8 * a + b) % 8 = b by omega]
theorem lq_s {a b : Nat} (hb : b < 8) : lq (8 * a + b + 1) = if a ≠ b then ek a b :: lq (8 * a + b) else lq (8 * a + b) := by
  show (if (8 * a + b) / 8 ≠ (8 * a + b) % 8 then _ else _) = _
  rw [show (8 * a + b) / 8 = a by omega, show (8 * a + b) % 8 = b by omega]
def iB (b : Bool) : Int32 := if b then 1 else 0
theorem nI_bit (n : Nat) (b : Bool) : nI n + iB b = nI (n + if b then 1 else 0) := by
  cases b
  · show nI n + 0 = nI n; exact Int32.add_zero _
  · exact nI_1 n
theorem sm_lp_y (p : Nat → Bool) {a b : Nat} (hb : b < 8) (h : a < b) : nI (sm p (lp (8 * a + b))) + iB (p (ek a b)) = nI (sm p (lp (8 * a + b + 1))) := by
  rw [lp_s hb, if_pos h, nI_bit]; rfl
theorem sm_lp_n (p : Nat → Bool) {a b : Nat} (hb : b < 8) (h : ¬ a < b) : nI (sm p (lp (8 * a + b))) + 0 = nI (sm p (lp (8 * a + b + 1))) := by
  rw [lp_s hb, if_neg h]; exact Int32.add_zero _
theorem sm_lq_y (p : Nat → Bool) {a b : Nat} (hb : b < 8) (h : a ≠ b) : nI (sm p (lq (8 * a + b))) + iB (p (ek a b)) = nI (sm p (lq (8 * a + b + 1))) := by
  rw [lq_s hb, if_pos h, nI_bit]; rfl
theorem sm_lr_y (p : Nat → Bool) {a b : Nat} (h : a ≠ b) : nI (sm p (lr a b)) + iB (p (ek a b)) = nI (sm p (lr a (b + 1))) := by
  rw [show lr a (b + 1) = ek a b :: lr a b from if_pos h, nI_bit]; rfl
theorem lp_d {a : Nat} (ha : a < 8) : lp (8 * a + a + 1) = lp (8 * a + a) := by rw [lp_s ha, if_neg (Nat.lt_irrefl _)]
theorem lq_d {a : Nat} (ha : a < 8) : lq (8 * a + a + 1) = lq (8 * a + a) := by rw [lq_s ha, if_neg (fun h => h rfl)]
theorem lr_d (a : Nat) : lr a (a + 1) = lr a a := if_neg (fun h => h rfl)
/-- sums over rows -/
def rs (f : Nat → Nat) : Nat → Nat
  | 0 => 0
  | a + 1 => rs f a + f a
theorem rs_congr {f g : Nat → Nat} : ∀ n, (∀ i, i < n → f i = g i) → rs f n = rs g n
  | 0, _ => rfl
  | n + 1, h => by unfold rs; rw [rs_congr n (fun i hi => h i (by omega)), h n (by omega)]
theorem sm_rows (p : Nat → Bool) : rs (fun a => sm p (lr a 8)) 8 = sm p (lq 64) := by
  have key : ∀ a b, b ≤ 8 → sm p (lq (8 * a + b)) = sm p (lq (8 * a)) + sm p (lr a b) := by
    intro a b
    induction b with
    | zero => intro _; rfl
    | succ b ih =>
      intro hb
      have ih' := ih (by omega)
      show sm p (lq (8 * a + b + 1)) = _
      rw [lq_s (by omega)]
      by_cases h : a ≠ b
      · rw [if_pos h, show lr a (b + 1) = ek a b :: lr a b from if_pos h]
        show sm p (lq (8 * a + b)) + _ = _ + (sm p (lr a b) + _)
        omega
      · rw [if_neg h, show lr a (b + 1) = lr a b from if_neg h]; exact ih'
  have step : ∀ n, n ≤ 8 → rs (fun a => sm p (lr a 8)) n = sm p (lq (8 * n)) := by
    intro n
    induction n with
    | zero => intro _; rfl
    | succ n ih =>
      intro hn
      have e := key n 8 (Nat.le_refl _)
      rw [show 8 * (n + 1) = 8 * n + 8 by omega, e, ← ih (by omega)]
      rfl
  exact step 8 (Nat.le_refl _)
