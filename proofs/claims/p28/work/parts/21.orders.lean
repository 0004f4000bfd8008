/-! the reference: orders carried out; what holds of every row -/
def nT (s : Nat → Int32) : Nat := (rem3 (s 7)).toNatClampNeg
def nD (s : Nat → Int32) : Nat := (s 31).toNatClampNeg
def opBar (s : Nat → Int32) (g dg fi se : Int32) : Int32 := if g = 114 then rBarRoad s fi se else if g = 116 then rBarTreasure s fi else if g = 98 then (if 0 < s 6 then -5 else 0) else if g = 43 ∨ g = 45 then rBarClaim s fi se 1 else if g = 99 then rBarCheck s dg fi se else if g = 100 then rBarDig s (nT s) fi else (if s 6 = 1 then 0 else -5)
def opDo (s : Nat → Int32) (g dg fi se : Int32) : Nat → Int32 := if g = 114 then rLays s fi se else if g = 116 then upd s 1 fi else if g = 98 then upd s 6 1 else if g = 43 then rSays s (nT s) (bitE fi se) 1 else if g = 45 then rSays s (nT s) (bitE fi se) 0 else if g = 99 then rChecks s (nT s) dg.toNatClampNeg (bitE fi se) else if g = 100 then rDigs s (nT s) (nD s) fi.toNatClampNeg (distI (s 0) fi (s 1)) else rEnds s
/-- what holds of every row of a game -/
def Good (s : Nat → Int32) : Prop := ∃ n d tr : Nat, s 7 = nI n ∧ n ≤ 150 ∧ s 31 = nI d ∧ d ≤ n ∧ s 1 = nI tr ∧ tr < 8 ∧ (∀ k, k < d → ∃ q, q < 8 ∧ s (32 + k) = nI q) ∧
  ((s 6 = 0 ∧ s 30 = -6 ∧ n = 0) ∨ (s 6 = 1 ∧ s 30 = -6 ∧ n < 150) ∨ (s 6 = 2 ∧ (¬ s 30 = -6 ∨ n = 150))) ∧
  (∀ i, 28 ≤ i → bt (s 0) i = false) ∧ (∀ i, 28 ≤ i → bt (s 17) i = false) ∧ (∀ p, p < 3 → s (11 + p) &&& s (14 + p) = 0) ∧ (∀ k, k < 4 → 0 ≤ s (2 + k))
theorem rem3_n {n : Nat} (h : n ≤ 150) : rem3 (nI n) = nI (n % 3) := pk_rem (by omega) (by decide) (by decide)
theorem good_t {s : Nat → Int32} (h : Good s) : rem3 (s 7) = nI (nT s) ∧ nT s < 3 := by
  obtain ⟨n, d, tr, h1, h2, -⟩ := h
  have e : nT s = n % 3 := by unfold nT; rw [h1, rem3_n h2, nI_clamp (by omega)]
  rw [e, h1, rem3_n h2]
  exact ⟨rfl, Nat.mod_lt _ (by decide)⟩
theorem good_d {s : Nat → Int32} (h : Good s) : s 31 = nI (nD s) ∧ nD s ≤ 150 ∧ (s 6 = 1 → nD s < 150) := by
  obtain ⟨n, d, tr, h1, h2, h3, h4, h5, h6, h7, h8, -⟩ := h
  have e : nD s = d := by unfold nD; rw [h3, nI_clamp (by omega)]
  rw [e]
  refine ⟨h3, by omega, fun q => ?_⟩
  rcases h8 with ⟨a, -⟩ | ⟨-, -, b⟩ | ⟨a, -⟩
  · rw [a] at q; exact absurd q (by decide)
  · omega
  · rw [a] at q; exact absurd q (by decide)
theorem good_tr {s : Nat → Int32} (h : Good s) : ∃ tr, s 1 = nI tr ∧ tr < 8 := by
  obtain ⟨n, d, tr, h1, h2, h3, h4, h5, h6, -⟩ := h
  exact ⟨tr, h5, h6⟩
theorem barCheck_v {s : Nat → Int32} {q a b : Int32} (h : rBarCheck s q a b = 0) : ∃ p : Nat, p < 3 ∧ q = nI p := by
  unfold rBarCheck at h
  by_cases h1 : 0 ≤ q ∧ q < 3
  · exact pln h1
  · rw [if_neg h1] at h; exact absurd h (by decide)
theorem barDig_v {s : Nat → Int32} {t : Nat} {a : Int32} (h : rBarDig s t a = 0) : (∃ p : Nat, p < 8 ∧ a = nI p) ∧ s 6 = 1 := by
  unfold rBarDig at h
  by_cases h1 : 0 ≤ a ∧ a < 8
  · rw [if_pos h1] at h
    by_cases h2 : s 6 = 1
    · exact ⟨plc h1, h2⟩
    · rw [if_neg h2] at h; exact absurd h (by decide)
  · rw [if_neg h1] at h; exact absurd h (by decide)
theorem is_iff {is : Int32} : (0 ≤ is ∧ is ≤ 1) ↔ (is = 0 ∨ is = 1) := by
  constructor
  · rintro ⟨h1, h2⟩
    have a1 : (0 : Int) ≤ is.toInt := Int32.le_iff_toInt_le.mp h1
    have a2 : is.toInt ≤ (1 : Int) := Int32.le_iff_toInt_le.mp h2
    rcases (show is.toInt = 0 ∨ is.toInt = 1 by omega) with e | e
    · exact Or.inl (toInt_inj e)
    · exact Or.inr (toInt_inj e)
  · rintro (rfl | rfl) <;> decide
/-! what holds of a row goes on to hold -/
theorem wr_z {s : Nat → Int32} {a b : Int32} (h : rBarRoad s a b = 0) : wrE a b = 0 ∧ ¬ 0 < s 6 := by
  unfold rBarRoad at h
  by_cases hw : wrE a b = 0
  · refine ⟨hw, fun z => ?_⟩
    rw [if_pos hw, if_pos z] at h; exact absurd h (by decide)
  · rw [if_neg hw] at h; exact absurd h hw
theorem bitE_hi {a b : Int32} (h : wrE a b = 0) {i : Nat} (hi : 28 ≤ i) : bt (bitE a b) i = false := by
  obtain ⟨k, hk, e⟩ := eI_k h
  rw [bitE_k e, bt_one (by omega)]
  exact decide_eq_false (by omega)
theorem good_road {s : Nat → Int32} {a b : Int32} (h : Good s) (hb : rBarRoad s a b = 0) : Good (rLays s a b) := by
  obtain ⟨n, d, tr, h1, h2, h3, h4, h5, h6, h7, h8, h9, h10, h11, h12⟩ := h
  obtain ⟨hw, -⟩ := wr_z hb
  refine ⟨n, d, tr, h1, h2, h3, h4, h5, h6, fun k hk => ?_, h8, fun i hi => ?_, h10, fun p hp => ?_, fun k hk => ?_⟩
  · obtain ⟨q, hq, e⟩ := h7 k hk
    exact ⟨q, hq, (upd_ne (by omega)).trans e⟩
  · show bt (s 0 ^^^ bitE a b) i = false
    rw [bt_xor, h9 i hi, bitE_hi hw hi]; rfl
  · exact (congrArg (· &&& _) (upd_ne (by omega))).trans ((congrArg (s (11 + p) &&& ·) (upd_ne (by omega))).trans (h11 p hp))
  · rw [show rLays s a b (2 + k) = s (2 + k) from upd_ne (by omega)]; exact h12 k hk
theorem good_treasure {s : Nat → Int32} {a : Int32} (h : Good s) (hb : rBarTreasure s a = 0) : Good (upd s 1 a) := by
  obtain ⟨n, d, tr, h1, h2, h3, h4, h5, h6, h7, h8, h9, h10, h11, h12⟩ := h
  have ha : 0 ≤ a ∧ a < 8 := Decidable.byContradiction fun z => by unfold rBarTreasure at hb; rw [if_neg z] at hb; exact absurd hb (by decide)
  obtain ⟨k, hk, rfl⟩ := plc ha
  refine ⟨n, d, k, h1, h2, h3, h4, rfl, hk, fun k hk => ?_, h8, h9, h10, fun p hp => ?_, fun k hk => ?_⟩
  · obtain ⟨q, hq, e⟩ := h7 k hk
    exact ⟨q, hq, (upd_ne (by omega)).trans e⟩
  · rw [upd_ne (show 11 + p ≠ 1 by omega), upd_ne (show 14 + p ≠ 1 by omega)]; exact h11 p hp
  · rw [upd_ne (show 2 + k ≠ 1 by omega)]; exact h12 k hk
theorem good_begin {s : Nat → Int32} (h : Good s) (hb : ¬ 0 < s 6) : Good (upd s 6 1) := by
  obtain ⟨n, d, tr, h1, h2, h3, h4, h5, h6, h7, h8, h9, h10, h11, h12⟩ := h
  refine ⟨n, d, tr, h1, h2, h3, h4, h5, h6, fun k hk => ?_, Or.inr (Or.inl ?_), h9, h10, fun p hp => ?_, fun k hk => ?_⟩
  · obtain ⟨q, hq, e⟩ := h7 k hk
    exact ⟨q, hq, (upd_ne (by omega)).trans e⟩
  · rcases h8 with ⟨a, b, c⟩ | ⟨a, b, c⟩ | ⟨a, b⟩
    · exact ⟨rfl, b, by omega⟩
    · rw [a] at hb; exact absurd (by decide) hb
    · rw [a] at hb; exact absurd (by decide) hb
  · rw [upd_ne (show 11 + p ≠ 6 by omega), upd_ne (show 14 + p ≠ 6 by omega)]; exact h11 p hp
  · rw [upd_ne (show 2 + k ≠ 6 by omega)]; exact h12 k hk
theorem good_set {s : Nat → Int32} {k : Nat} {v : Int32} (h : Good s) (hk : k < 4) (hv : 0 ≤ v) : Good (upd s (2 + k) v) := by
  obtain ⟨n, d, tr, h1, h2, h3, h4, h5, h6, h7, h8, h9, h10, h11, h12⟩ := h
  refine ⟨n, d, tr, (upd_ne (by omega)).trans h1, h2, (upd_ne (by omega)).trans h3, h4, (upd_ne (by omega)).trans h5, h6, fun j hj => ?_, ?_, fun i hi => ?_, fun i hi => ?_, fun p hp => ?_, fun j hj => ?_⟩
  · obtain ⟨q, hq, e⟩ := h7 j hj
    exact ⟨q, hq, (upd_ne (by omega)).trans e⟩
  · rw [upd_ne (show 6 ≠ 2 + k by omega), upd_ne (show 30 ≠ 2 + k by omega)]; exact h8
  · rw [upd_ne (show 0 ≠ 2 + k by omega)]; exact h9 i hi
  · rw [upd_ne (show 17 ≠ 2 + k by omega)]; exact h10 i hi
  · rw [upd_ne (show 11 + p ≠ 2 + k by omega), upd_ne (show 14 + p ≠ 2 + k by omega)]; exact h11 p hp
  · by_cases e : j = k
    · subst e; rw [upd_at]; exact hv
    · rw [upd_ne (by omega)]; exact h12 j hj
/-- the end of a turn: s1 is the row before it -/
theorem good_ends_of {s s1 : Nat → Int32} (h : Good s) (hb : s 6 = 1) {d1 : Nat} (e7 : s1 7 = s 7) (e6 : s1 6 = 1) (e1 : s1 1 = s 1) (e30 : s1 30 = s 30) (e31 : s1 31 = nI d1) (hd1 : d1 ≤ nD s + 1) (ek : ∀ k, k < d1 → ∃ q, q < 8 ∧ s1 (32 + k) = nI q) (e0 : s1 0 = s 0) (e17 : ∀ i, 28 ≤ i → bt (s1 17) i = false) (e11 : ∀ p, p < 3 → s1 (11 + p) &&& s1 (14 + p) = 0) (e2 : ∀ k, k < 4 → 0 ≤ s1 (2 + k)) : Good (rEnds s1) := by
  obtain ⟨n, d, tr, h1, h2, h3, h4, h5, h6, h7, h8, h9, h10, h11, h12⟩ := h
  have hn : n < 150 ∧ s 30 = -6 := by
    rcases h8 with ⟨a, b, c⟩ | ⟨a, b, c⟩ | ⟨a, b⟩
    · rw [hb] at a; exact absurd a (by decide)
    · exact ⟨c, b⟩
    · rw [hb] at a; exact absurd a (by decide)
  have hd : nD s = d := by unfold nD; rw [h3, nI_clamp (by omega)]
  have q7 : rEnds s1 7 = nI (n + 1) := by show s1 7 + 1 = nI (n + 1); rw [e7, h1, nI_1]
  refine ⟨n + 1, d1, tr, q7, by omega, e31, by omega, e1.trans h5, h6, fun k hk => ?_, ?_, fun i hi => ?_, e17, fun p hp => ?_, fun k hk => ?_⟩
  · obtain ⟨q, hq, e⟩ := ek k hk
    exact ⟨q, hq, by unfold rEnds; rw [upd_ne (by omega), upd_ne (by omega)]; exact e⟩
  · have q6 : rEnds s1 6 = if n + 1 = 150 then 2 else 1 := by
      show (if s1 7 + 1 = 150 then 2 else s1 6) = _
      rw [e7, h1, nI_1, e6]
      by_cases z : n + 1 = 150
      · rw [if_pos z, if_pos (by rw [z]; rfl)]
      · rw [if_neg z, if_neg (fun y : nI (n + 1) = 150 => z ((nI_eq (b := 150) (by omega) (by decide)).mp y))]
    have q30 : rEnds s1 30 = -6 := by show s1 30 = -6; rw [e30]; exact hn.2
    rw [q6, q30]
    by_cases z : n + 1 = 150
    · rw [if_pos z]; exact Or.inr (Or.inr ⟨rfl, Or.inr z⟩)
    · rw [if_neg z]; exact Or.inr (Or.inl ⟨rfl, rfl, by omega⟩)
  · show bt (s1 0) i = false; rw [e0]; exact h9 i hi
  · unfold rEnds; rw [upd_ne (show 11 + p ≠ 6 by omega), upd_ne (show 11 + p ≠ 7 by omega), upd_ne (show 14 + p ≠ 6 by omega), upd_ne (show 14 + p ≠ 7 by omega)]; exact e11 p hp
  · unfold rEnds; rw [upd_ne (show 2 + k ≠ 6 by omega), upd_ne (show 2 + k ≠ 7 by omega)]; exact e2 k hk
theorem good_ends {s : Nat → Int32} (h : Good s) (hb : s 6 = 1) : Good (rEnds s) := by
  have h' := h
  obtain ⟨n, d, tr, h1, h2, h3, h4, h5, h6, h7, h8, h9, h10, h11, h12⟩ := h'
  have hd : nD s = d := by unfold nD; rw [h3, nI_clamp (by omega)]
  exact good_ends_of h hb (d1 := d) rfl hb rfl rfl h3 (by omega) h7 rfl h10 h11 h12
theorem not_and (x b : Int32) : (x ||| b) &&& (b ^^^ -1) = x &&& (b ^^^ -1) := by
  apply bt_ext; intro i hi
  simp only [bt_and, bt_or, bt_not _ hi]
  cases bt x i <;> cases bt b i <;> rfl
theorem says_x {x y b is : Int32} (h : x &&& y = 0) (hi : is = 0 ∨ is = 1) : (if is = 1 then x ||| b else x &&& (b ^^^ -1)) &&& (if is = 0 then y ||| b else y &&& (b ^^^ -1)) = 0 := by
  have key : ∀ i, (bt x i && bt y i) = false := fun i => by
    have e := congrArg (fun z => bt z i) h
    simp only [bt_and, bt_z] at e
    exact e
  rcases hi with rfl | rfl
  · rw [if_neg (by decide), if_pos rfl]
    apply bt_ext; intro i hi
    have k := key i
    simp only [bt_and, bt_or, bt_not _ hi, bt_z]
    revert k
    cases bt x i <;> cases bt y i <;> cases bt b i <;> simp
  · rw [if_pos rfl, if_neg (by decide)]
    apply bt_ext; intro i hi
    have k := key i
    simp only [bt_and, bt_or, bt_not _ hi, bt_z]
    revert k
    cases bt x i <;> cases bt y i <;> cases bt b i <;> simp
theorem good_says {s : Nat → Int32} {a b is : Int32} (h : Good s) (hb : rBarClaim s a b is = 0) : Good (rSays s (nT s) (bitE a b) is) := by
  have hx : wrE a b = 0 ∧ (0 ≤ is ∧ is ≤ 1) ∧ s 6 = 1 := by
    unfold rBarClaim at hb
    by_cases hw : wrE a b = 0
    · rw [if_pos hw] at hb
      by_cases hi : 0 ≤ is ∧ is ≤ 1
      · rw [if_pos hi] at hb
        by_cases h6 : s 6 = 1
        · exact ⟨hw, hi, h6⟩
        · rw [if_neg h6] at hb; exact absurd hb (by decide)
      · rw [if_neg hi] at hb; exact absurd hb (by decide)
    · rw [if_neg hw] at hb; exact absurd hb hw
  have ht := (good_t h).2
  have hi2 : is = 0 ∨ is = 1 := is_iff.mp hx.2.1
  generalize nT s = t at ht
  have h' := h
  obtain ⟨n, d, tr, h1, h2, h3, h4, h5, h6, h7, h8, h9, h10, h11, h12⟩ := h'
  have hd : nD s = d := by unfold nD; rw [h3, nI_clamp (by omega)]
  have o : ∀ j, j ≠ 11 + t → j ≠ 14 + t → rSays2 (rSays1 s t (bitE a b) is) t (bitE a b) is j = s j := fun j q1 q2 => by
    unfold rSays2 rSays1; rw [upd_ne q2, upd_ne q1]
  refine good_ends_of h hx.2.2 (d1 := d) (o 7 (by omega) (by omega)) ((o 6 (by omega) (by omega)).trans hx.2.2) (o 1 (by omega) (by omega)) (o 30 (by omega) (by omega)) ((o 31 (by omega) (by omega)).trans h3) (by omega) (fun k hk => by rw [o _ (by omega) (by omega)]; exact h7 k hk) (o 0 (by omega) (by omega)) (fun i hi => by rw [o 17 (by omega) (by omega)]; exact h10 i hi) (fun p hp => ?_) (fun k hk => by rw [o _ (by omega) (by omega)]; exact h12 k hk)
  by_cases e : p = t
  · subst e
    have e11 : rSays2 (rSays1 s p (bitE a b) is) p (bitE a b) is (11 + p) = if is = 1 then s (11 + p) ||| bitE a b else s (11 + p) &&& (bitE a b ^^^ -1) := by
      unfold rSays2; rw [upd_ne (by omega)]; exact upd_at _ _ _
    have e14 : rSays2 (rSays1 s p (bitE a b) is) p (bitE a b) is (14 + p) = if is = 0 then s (14 + p) ||| bitE a b else s (14 + p) &&& (bitE a b ^^^ -1) := by
      unfold rSays2; rw [upd_at]; unfold rSays1; rw [upd_ne (by omega)]
    rw [e11, e14]
    exact says_x (h11 p hp) hi2
  · rw [o _ (by omega) (by omega), o _ (by omega) (by omega)]; exact h11 p hp
theorem bar_check {s : Nat → Int32} {q a b : Int32} (h : rBarCheck s q a b = 0) : wrE a b = 0 ∧ s 6 = 1 ∧ ∃ p, p < 3 ∧ q = nI p := by
  obtain ⟨p, hp, e⟩ := barCheck_v h
  unfold rBarCheck at h
  by_cases hq : 0 ≤ q ∧ q < 3
  · rw [if_pos hq] at h
    by_cases ha : 0 ≤ a ∧ a < 8
    · rw [if_pos ha] at h
      by_cases hb : 0 ≤ b ∧ b < 8
      · rw [if_pos hb] at h
        by_cases ht : q = rem3 (s 7)
        · rw [if_pos ht] at h; exact absurd h (by decide)
        · rw [if_neg ht] at h
          by_cases hab : a = b
          · rw [if_pos hab] at h; exact absurd h (by decide)
          · rw [if_neg hab] at h
            by_cases h6 : s 6 = 1
            · exact ⟨wrE_4 ha hb hab, h6, p, hp, e⟩
            · rw [if_neg h6] at h; exact absurd h (by decide)
      · rw [if_neg hb] at h; exact absurd h (by decide)
    · rw [if_neg ha] at h; exact absurd h (by decide)
  · rw [if_neg hq] at h; exact absurd h (by decide)
theorem rC_o {s : Nat → Int32} {t p j : Nat} {b : Int32} (h17 : j ≠ 17) (h8 : j ≠ 8 + t) (h9 : j ≠ 8 + p) (h18 : j ≠ 18 + p) (h21 : j ≠ 21 + t) (h24 : j ≠ 24 + t) : (if lieI s p b = 0 then rC2 s t p b else rC5 s t p b) j = s j := by
  split
  · simp only [rC2, rC1, rPays, rGets, upd_ne h17, upd_ne h8, upd_ne h9, upd_ne h18, upd_ne h21, upd_ne h24]
  · simp only [rC5, rC4, rC3, rC2, rC1, rPays, rGets, upd_ne h17, upd_ne h8, upd_ne h9, upd_ne h18, upd_ne h21, upd_ne h24]
theorem rC_17 {s : Nat → Int32} {t p : Nat} {b : Int32} (ht : t < 3) (hp : p < 3) : (if lieI s p b = 0 then rC2 s t p b else rC5 s t p b) 17 = s 17 ||| b := by
  split
  · unfold rC2 rC1
    rw [upd_ne (by omega), upd_at]
    simp only [rPays, rGets, upd_ne (show 17 ≠ 8 + t by omega), upd_ne (show 17 ≠ 8 + p by omega)]
  · simp only [rC5, rC4, rC3, rC2, rC1, rPays, rGets, upd_ne (show 17 ≠ 8 + t by omega), upd_ne (show 17 ≠ 8 + p by omega), upd_ne (show 17 ≠ 24 + t by omega), upd_ne (show 17 ≠ 21 + t by omega), upd_ne (show 17 ≠ 18 + p by omega), upd_at]
theorem good_checks {s : Nat → Int32} {q a b : Int32} (h : Good s) (hb : rBarCheck s q a b = 0) : Good (rChecks s (nT s) q.toNatClampNeg (bitE a b)) := by
  obtain ⟨hw, h6', p, hp, rfl⟩ := bar_check hb
  rw [nI_clamp (by omega)]
  have ht := (good_t h).2
  have h' := h
  obtain ⟨n, d, tr, h1, h2, h3, h4, h5, h6, h7, h8, h9, h10, h11, h12⟩ := h'
  have hd : nD s = d := by unfold nD; rw [h3, nI_clamp (by omega)]
  generalize nT s = t at ht
  have o : ∀ j, j ≠ 17 → j ≠ 8 + t → j ≠ 8 + p → j ≠ 18 + p → j ≠ 21 + t → j ≠ 24 + t → (if lieI s p (bitE a b) = 0 then rC2 s t p (bitE a b) else rC5 s t p (bitE a b)) j = s j := fun j q1 q2 q3 q4 q5 q6 => rC_o q1 q2 q3 q4 q5 q6
  refine good_ends_of h h6' (d1 := d) (o 7 (by omega) (by omega) (by omega) (by omega) (by omega) (by omega)) ((o 6 (by omega) (by omega) (by omega) (by omega) (by omega) (by omega)).trans h6') (o 1 (by omega) (by omega) (by omega) (by omega) (by omega) (by omega)) (o 30 (by omega) (by omega) (by omega) (by omega) (by omega) (by omega)) ((o 31 (by omega) (by omega) (by omega) (by omega) (by omega) (by omega)).trans h3) (by omega) (fun k hk => by rw [o _ (by omega) (by omega) (by omega) (by omega) (by omega) (by omega)]; exact h7 k hk) (o 0 (by omega) (by omega) (by omega) (by omega) (by omega) (by omega)) (fun i hi => ?_) (fun z hz => by rw [o _ (by omega) (by omega) (by omega) (by omega) (by omega) (by omega), o _ (by omega) (by omega) (by omega) (by omega) (by omega) (by omega)]; exact h11 z hz) (fun k hk => by rw [o _ (by omega) (by omega) (by omega) (by omega) (by omega) (by omega)]; exact h12 k hk)
  rw [rC_17 ht hp, bt_or, h10 i hi, bitE_hi hw hi]; rfl
theorem rD4_o {s : Nat → Int32} {t d a j : Nat} (h8 : j ≠ 8 + t) (h27 : j ≠ 27 + t) (h32 : j ≠ 32 + d) (h31 : j ≠ 31) : rD4 s t d a j = s j := by
  simp only [rD4, rD3, rD2, rD1, upd_ne h8, upd_ne h27, upd_ne h32, upd_ne h31]
theorem good_digs {s : Nat → Int32} {a its : Int32} (h : Good s) (hb : rBarDig s (nT s) a = 0) : Good (rDigs s (nT s) (nD s) a.toNatClampNeg its) := by
  obtain ⟨⟨k, hk, rfl⟩, hb6⟩ := barDig_v hb
  rw [nI_clamp (by omega)]
  have ht := (good_t h).2
  have h' := h
  obtain ⟨n, d, tr, h1, h2, h3, h4, h5, h6, h7, h8, h9, h10, h11, h12⟩ := h'
  have hd : nD s = d := by unfold nD; rw [h3, nI_clamp (by omega)]
  rw [hd]
  generalize nT s = t at ht
  have hn : n < 150 := by
    rcases h8 with ⟨x, y, z⟩ | ⟨x, y, z⟩ | ⟨x, y⟩
    · rw [hb6] at x; exact absurd x (by decide)
    · exact z
    · rw [hb6] at x; exact absurd x (by decide)
  have o : ∀ j, j ≠ 8 + t → j ≠ 27 + t → j ≠ 32 + d → j ≠ 31 → rD4 s t d k j = s j := fun j q1 q2 q3 q4 => rD4_o q1 q2 q3 q4
  have e31 : rD4 s t d k 31 = nI (d + 1) := by
    unfold rD4
    rw [upd_at]
    unfold rD3 rD2 rD1
    rw [upd_ne (by omega), upd_ne (by omega), upd_ne (by omega), h3, nI_1]
  have e32 : rD4 s t d k (32 + d) = nI k := by
    unfold rD4
    rw [upd_ne (by omega)]
    exact upd_at _ _ _
  have ek : ∀ j, j < d + 1 → ∃ q, q < 8 ∧ rD4 s t d k (32 + j) = nI q := fun j hj => by
    by_cases e : j = d
    · subst e; exact ⟨k, hk, e32⟩
    · obtain ⟨q, hq, e2⟩ := h7 j (by omega)
      exact ⟨q, hq, (o _ (by omega) (by omega) (by omega) (by omega)).trans e2⟩
  have g5 : Good (rD5 s t d k) := good_ends_of h hb6 (d1 := d + 1) (o 7 (by omega) (by omega) (by omega) (by omega)) ((o 6 (by omega) (by omega) (by omega) (by omega)).trans hb6) (o 1 (by omega) (by omega) (by omega) (by omega)) (o 30 (by omega) (by omega) (by omega) (by omega)) e31 (by omega) ek (o 0 (by omega) (by omega) (by omega) (by omega)) (fun i hi => by rw [o 17 (by omega) (by omega) (by omega) (by omega)]; exact h10 i hi) (fun p hp => by rw [o _ (by omega) (by omega) (by omega) (by omega), o _ (by omega) (by omega) (by omega) (by omega)]; exact h11 p hp) (fun j hj => by rw [o _ (by omega) (by omega) (by omega) (by omega)]; exact h12 j hj)
  unfold rDigs
  split
  · have q7 : rD5 s t d k 7 = nI (n + 1) := by
      show rD4 s t d k 7 + 1 = _
      rw [o 7 (by omega) (by omega) (by omega) (by omega), h1, nI_1]
    have w : ∀ j, j ≠ 6 → j ≠ 30 → j ≠ 8 + t → upd (rD7 s t d k) 6 2 j = rD5 s t d k j := fun j q1 q2 q3 => by
      rw [upd_ne q1]; unfold rD7; rw [upd_ne q2]; unfold rD6 rGets; rw [upd_ne q3]
    have x : ∀ j, j ≠ 6 → j ≠ 7 → rD5 s t d k j = rD4 s t d k j := fun j q1 q2 => by
      unfold rD5 rEnds; rw [upd_ne q1, upd_ne q2]
    refine ⟨n + 1, d + 1, tr, (w 7 (by omega) (by omega) (by omega)).trans q7, by omega, (w 31 (by omega) (by omega) (by omega)).trans ((x 31 (by omega) (by omega)).trans e31), by omega, (w 1 (by omega) (by omega) (by omega)).trans ((x 1 (by omega) (by omega)).trans ((o 1 (by omega) (by omega) (by omega) (by omega)).trans h5)), h6, fun j hj => ?_, Or.inr (Or.inr ⟨rfl, Or.inl ?_⟩), fun i hi => ?_, fun i hi => ?_, fun p hp => ?_, fun j hj => ?_⟩
    · rw [w _ (by omega) (by omega) (by omega), x _ (by omega) (by omega)]; exact ek j hj
    · show ¬ nI t = -6
      exact fun z => absurd (Int32.not_lt.mp (nI_pos (show t < 2 ^ 31 by omega))) (by rw [z]; decide)
    · rw [w 0 (by omega) (by omega) (by omega), x 0 (by omega) (by omega), o 0 (by omega) (by omega) (by omega) (by omega)]; exact h9 i hi
    · rw [w 17 (by omega) (by omega) (by omega), x 17 (by omega) (by omega), o 17 (by omega) (by omega) (by omega) (by omega)]; exact h10 i hi
    · rw [w _ (by omega) (by omega) (by omega), w _ (by omega) (by omega) (by omega), x _ (by omega) (by omega), x _ (by omega) (by omega), o _ (by omega) (by omega) (by omega) (by omega), o _ (by omega) (by omega) (by omega) (by omega)]; exact h11 p hp
    · rw [w _ (by omega) (by omega) (by omega), x _ (by omega) (by omega), o _ (by omega) (by omega) (by omega) (by omega)]; exact h12 j hj
  · exact g5
def opS (g : Int32) : Prop := g = 114 ∨ g = 116 ∨ g = 98 ∨ g = 43 ∨ g = 45 ∨ g = 99 ∨ g = 100 ∨ g = 112
theorem good_op {s : Nat → Int32} {g dg fi se : Int32} (h : Good s) (hg : opS g) (hb : opBar s g dg fi se = 0) : Good (opDo s g dg fi se) := by
  rcases hg with rfl | rfl | rfl | rfl | rfl | rfl | rfl | rfl
  · exact good_road h hb
  · exact good_treasure h hb
  · exact good_begin h (fun q => by have hb2 : (if 0 < s 6 then (-5 : Int32) else 0) = 0 := hb; rw [if_pos q] at hb2; exact absurd hb2 (by decide))
  · exact good_says h hb
  · refine good_says (is := 0) h ?_
    have hb2 : rBarClaim s fi se 1 = 0 := hb
    have e : rBarClaim s fi se 0 = rBarClaim s fi se 1 := by
      unfold rBarClaim; rw [if_pos (c := (0 : Int32) ≤ 0 ∧ (0 : Int32) ≤ 1) (by decide), if_pos (c := (0 : Int32) ≤ 1 ∧ (1 : Int32) ≤ 1) (by decide)]
    rw [e]; exact hb2
  · exact good_checks h hb
  · exact good_digs h hb
  · exact good_ends h (Decidable.byContradiction fun q => by have hb2 : (if s 6 = 1 then (0 : Int32) else -5) = 0 := hb; rw [if_neg q] at hb2; exact absurd hb2 (by decide))
