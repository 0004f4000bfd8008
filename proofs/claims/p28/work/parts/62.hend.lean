/-! what is asked of a place, of a player, of the whole -/
theorem pc_mono {x y : Int32} (h : ∀ i, bt x i = true → bt y i = true) : pcN x ≤ pcN y := ct_mono fun i _ => h i
theorem KK_hi (r v : Int32) {i : Nat} (hi : 28 ≤ i) : bt (KK r v) i = bt v i := by
  rcases Nat.lt_or_ge i 32 with h | h
  · have key : ∀ n, bt (itN (swp r) v n) i = bt v i := by
      intro n
      induction n with
      | zero => rfl
      | succ n ih =>
        show bt (swJ r (itN (swp r) v n) 8) i = _
        rw [swJ_hi r _ h hi 8 (Nat.le_refl _), ih]
    exact key 28
  · rw [bt_hi _ h, bt_hi _ h]
section
variable {s : Nat → Int32}
theorem rK_hi (hg : Good s) : ∀ i, 28 ≤ i → bt (rK s) i = false := by
  obtain ⟨n, d, tr, -, -, -, -, -, -, -, -, -, h17, -⟩ := hg
  intro i hi
  by_cases hb : 0 < s 6
  · rw [show rK s = KK (s 0) (s 17) from if_pos hb, KK_hi _ _ hi]; exact h17 i hi
  · rw [rK_0 hb]; exact bt_z i
theorem rTh_hi (hg : Good s) : ∀ i, 28 ≤ i → bt (rTh s) i = false := fun i hi => by rw [th_and, rK_hi hg i hi]; rfl
theorem end_known (hg : Good s) : sm (bt (rK s)) (lp 64) = pcN (rK s) := by rw [sm_lp, pcN_28 (rK_hi hg)]
theorem end_there (hg : Good s) : sm (bt (rTh s)) (lp 64) = pcN (rTh s) := by rw [sm_lp, pcN_28 (rTh_hi hg)]
theorem end_rev (hg : Good s) : sm (bt (s 17)) (lp 64) = pcN (s 17) := by
  obtain ⟨n, d, tr, -, -, -, -, -, -, -, -, -, h17, -⟩ := hg
  rw [sm_lp, pcN_28 h17]
theorem end_claims (hx : Ext s) {p : Nat} (hp : p < 3) : sm (cB s p) (lp 64) = pcN (s (11 + p) ||| s (14 + p)) := by
  obtain ⟨pu, li, ch, hi, di, n, d, w, -, -, -, -, -, -, -, -, -, h⟩ := hx
  rw [sm_lp, pcN_28 (fun i hi => bit_or (h p hp i hi).1 (h p hp i hi).2)]
  exact ct_cong fun i _ => (bt_or _ _ _).symm
def nkB (s : Nat → Int32) (k : Nat) : Bool := !bt (rK s) k
theorem nk_lr (hg : Good s) {a : Nat} (ha : a < 8) : sm (nkB s) (lr a 8) = pcN (k_at a &&& (rK s ^^^ -1)) := by
  rw [← sm_lr _ ha, sm_W _ 28 _ (lr_28 a ha).1, sm_W _ 28 _ (lr_28 a ha).1]
  have key : ∀ n, n ≤ 28 → WW (nkB s) (fun i => (lr a 8).count i) n = WW (bt (rK s ^^^ -1)) (fun i => (lr a 8).count i) n := by
    intro n
    induction n with
    | zero => intro _; rfl
    | succ n ih =>
      intro hn
      unfold WW
      rw [ih (by omega), bt_not _ (show n < 32 by omega)]
      rfl
  exact key 28 (Nat.le_refl _)
theorem ct_not (p : Nat → Bool) : ∀ n, ct p n + ct (fun i => !p i) n = n
  | 0 => rfl
  | n + 1 => by
    have h := ct_not p n
    show (ct p n + if p n then 1 else 0) + (ct (fun i => !p i) n + if (!p n) then 1 else 0) = n + 1
    cases p n <;> simp <;> omega
theorem end_unknown : rs (fun a => sm (nkB s) (lr a 8)) 8 = 2 * (28 - sm (bt (rK s)) (lp 64)) := by
  rw [sm_rows, sm_lq, sm_lp]
  have := ct_not (bt (rK s)) 28
  show 2 * ct (fun i => !bt (rK s) i) 28 = _
  omega
theorem end_degrees : rs (fun a => pcN (k_at a &&& s 0)) 8 = sm (bt (s 0)) (lq 64) := by
  rw [← sm_rows]
  exact rs_congr 8 fun a ha => (sm_lr _ ha).symm
theorem deg_lo {a : Nat} (ha : a < 8) : sm (bt (rTh s)) (lr a 8) ≤ pcN (k_at a &&& s 0) := by
  rw [sm_lr _ ha]
  refine pc_mono fun i hi => ?_
  rw [bt_and, th_and] at hi
  rw [bt_and]
  cases h1 : bt (k_at a) i <;> cases h2 : bt (s 0) i <;> simp [h1, h2] at hi ⊢
theorem deg_hi (hg : Good s) {a : Nat} (ha : a < 8) : pcN (k_at a &&& s 0) ≤ sm (bt (rTh s)) (lr a 8) + sm (nkB s) (lr a 8) := by
  rw [sm_lr _ ha, nk_lr hg ha]
  have h := t2_nat (r := s 0) (k := rK s) (j := a)
  have e1 : k_at a &&& s 0 &&& rK s = k_at a &&& rTh s := by
    apply bt_ext; intro i hi
    simp only [bt_and, th_and]
    cases bt (k_at a) i <;> cases bt (s 0) i <;> cases bt (rK s) i <;> rfl
  have h2 : pcN (k_at a &&& s 0 &&& (rK s ^^^ -1)) ≤ pcN (k_at a &&& (rK s ^^^ -1)) := pc_mono fun i hi => by
    rw [bt_and, bt_and] at hi
    rw [bt_and]
    revert hi
    generalize bt (rK s ^^^ -1) i = y
    generalize bt (k_at a) i = x
    generalize bt (s 0) i = z
    revert x y z; decide
  rw [e1] at h
  omega
theorem told_c (p : Nat) : ∀ d, tolN s p d = -6 ∨ tolN s p d = 99 ∨ ∃ k, k < 8 ∧ tolN s p d = nI k
  | 0 => Or.inl rfl
  | d + 1 => by
    unfold tolN
    split
    · right
      rcases dd_k (s 0) (s 1) 8 0 ((1 : Int32) <<< (nI p &&& 31)) ((1 : Int32) <<< (nI p &&& 31)) (by omega) with h | ⟨k, hk, h⟩
      · exact Or.inl h
      · exact Or.inr ⟨k, hk, h⟩
    · exact told_c p d
theorem told_0 (hg : Good s) (hb : ¬ 0 < s 6) (p : Nat) : tolN s p (nD s) = -6 := by rw [(good_0 hg hb).1]; rfl
theorem sm_zero (hb : ¬ 0 < s 6) : ∀ l : List Nat, sm (bt (rK s)) l = 0
  | [] => rfl
  | i :: l => by
    show sm (bt (rK s)) l + _ = 0
    rw [sm_zero hb l, rK_0 hb, bt_z]; rfl
/-! players -/
def shN (s : Nat → Int32) (p : Nat) : Nat := pcN (rK s &&& (s (11 + p) &&& (rTh s ^^^ -1) ||| s (14 + p) &&& rTh s))
def clN (s : Nat → Int32) (p : Nat) : Nat := pcN (s (11 + p) ||| s (14 + p))
def seN (s : Nat → Int32) (p : Nat) : Nat := pcN (thI p ||| rK s)
theorem sh_cl (p : Nat) : shN s p ≤ clN s p := pc_mono fun i hi => by
  simp only [bt_and, bt_or] at hi ⊢
  revert hi
  cases bt (s (11 + p)) i <;> cases bt (s (14 + p)) i <;> simp
theorem se_k (p : Nat) : pcN (rK s) ≤ seN s p := pc_mono fun i hi => by rw [bt_or, hi, Bool.or_true]
theorem se_9 {p : Nat} (hp : p < 3) : 9 ≤ seN s p := by
  have h : 9 ≤ pcN (thI p) := (show ∀ p, p < 3 → 9 ≤ pcN (thI p) by decide +kernel) p hp
  exact Nat.le_trans h (pc_mono fun i hi => by rw [bt_or, hi]; rfl)
/-! the road that shows the most -/
theorem more_c (hb : 0 < s 6) {k : Nat} (hk : k < 28) : (bt (rK s) k = true ∧ rMore s (nI k) = 0) ∨ (bt (rK s) k = false ∧ 0 < rMore s (nI k)) := by
  have h32 : k < 32 := by omega
  unfold rMore
  rw [sb_k _ h32]
  cases h : bt (rK s) k
  · right
    refine ⟨rfl, ?_⟩
    rw [if_neg (by decide)]
    have e1 : rKn s (s 17 ||| (1 : Int32) <<< (nI k &&& 31)) = KK (s 0) (s 17 ||| one k) := if_pos hb
    have e2 : rK s = KK (s 0) (s 17) := if_pos hb
    rw [e1, e2]
    rw [e2] at h
    have hlt : pcN (KK (s 0) (s 17)) < pcN (KK (s 0) (s 17 ||| one k)) := by
      refine pc_lt (fun i hi => ?_) h32 h (KK_ge _ _ _ (by rw [bt_or, bt_one h32, decide_eq_true rfl, Bool.or_true]))
      rw [← KK_or]
      exact KK_ge _ _ _ (by rw [bt_or, hi]; rfl)
    have b1 := pcN_le (KK (s 0) (s 17 ||| one k))
    have e3 : pcI (KK (s 0) (s 17 ||| one k)) - pcI (KK (s 0) (s 17)) = nI (pcN (KK (s 0) (s 17 ||| one k)) - pcN (KK (s 0) (s 17))) := nI_subN (by omega)
    rw [e3]
    exact (nI_ltI (a := 0) (by decide) (by omega)).mpr (by omega)
  · exact Or.inl ⟨rfl, rfl⟩
theorem best_c (hb : 0 < s 6) : ∀ n, n ≤ 28 → ((∀ i, i < n → bt (rK s) i = true) ∧ (bsF s n).1 = -6 ∧ (bsF s n).2 = 0) ∨ ((∃ i, i < n ∧ bt (rK s) i = false) ∧ ¬ (bsF s n).1 = -6 ∧ 0 < (bsF s n).2)
  | 0, _ => Or.inl ⟨fun i hi => absurd hi (Nat.not_lt_zero _), rfl, rfl⟩
  | n + 1, hn => by
    have hn6 : ¬ nI n = -6 := nI_m6 (by omega)
    show ((∀ i, i < n + 1 → bt (rK s) i = true) ∧ (if (bsF s n).2 < rMore s (nI n) then nI n else (bsF s n).1) = -6 ∧ (if (bsF s n).2 < rMore s (nI n) then rMore s (nI n) else (bsF s n).2) = 0) ∨ ((∃ i, i < n + 1 ∧ bt (rK s) i = false) ∧ ¬ (if (bsF s n).2 < rMore s (nI n) then nI n else (bsF s n).1) = -6 ∧ 0 < (if (bsF s n).2 < rMore s (nI n) then rMore s (nI n) else (bsF s n).2))
    rcases best_c hb n (by omega) with ⟨h1, h2, h3⟩ | ⟨⟨i, hi, h1⟩, h2, h3⟩
    · rcases more_c hb (show n < 28 by omega) with ⟨m1, m2⟩ | ⟨m1, m2⟩
      · left
        rw [h3, m2, if_neg (by decide), if_neg (by decide)]
        refine ⟨fun i hi => ?_, h2, rfl⟩
        rcases (show i < n ∨ i = n by omega) with z | z
        · exact h1 i z
        · rw [z]; exact m1
      · right
        rw [h3, if_pos m2, if_pos m2]
        exact ⟨⟨n, by omega, m1⟩, hn6, m2⟩
    · right
      refine ⟨⟨i, by omega, h1⟩, ?_, ?_⟩
      · split
        · exact hn6
        · exact h2
      · split
        · rename_i z
          rcases more_c hb (show n < 28 by omega) with ⟨m1, m2⟩ | ⟨m1, m2⟩
          · rw [m2] at z ⊢; exact absurd (Int32.lt_trans h3 z) (by decide)
          · exact m2
        · exact h3
theorem best_28 (hg : Good s) (hb : 0 < s 6) : rBest s 0 = -6 ↔ pcN (rK s) = 28 := by
  have e : rBest s 0 = (bsF s 28).1 := by unfold rBest; exact if_pos (Or.inr rfl)
  rw [e, pcN_28 (rK_hi hg)]
  have hn := ct_not (bt (rK s)) 28
  rcases best_c hb 28 (Nat.le_refl _) with ⟨h1, h2, -⟩ | ⟨⟨i, hi, h1⟩, h2, -⟩
  · refine ⟨fun _ => ?_, fun _ => h2⟩
    have : ct (bt (rK s)) 28 = ct (fun _ => true) 28 := ct_cong fun i hi => h1 i hi
    rw [this]; decide
  · refine ⟨fun z => absurd z h2, fun z => ?_⟩
    have := ct_full (p := bt (rK s)) (n := 28) (by omega) i hi
    rw [this] at h1; exact absurd h1 (by decide)
end
