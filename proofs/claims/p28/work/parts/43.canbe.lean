/-! canBe: alike -/
theorem bt_cbP {F : Nat → Int32} {tr : Nat} {a : Int32} {p : Nat} (hp : p < 32) : ∀ n, n ≤ 8 → (bt (cbP F tr a n) p = true ↔ bt a p = true ∧ (p < n → F p = F tr))
  | 0, _ => ⟨fun h => ⟨h, fun q => absurd q (Nat.not_lt_zero _)⟩, fun h => h.1⟩
  | n + 1, hn => by
    have ih := bt_cbP (F := F) (tr := tr) (a := a) hp n (by omega)
    show bt (cbP F tr a n &&& (if F n = F tr then -1 else one n ^^^ -1)) p = true ↔ _
    rw [bt_and, Bool.and_eq_true, ih]
    by_cases h : F n = F tr
    · rw [if_pos h, bt_m1 hp]
      constructor
      · rintro ⟨⟨h1, h2⟩, -⟩
        refine ⟨h1, fun q => ?_⟩
        rcases Nat.lt_or_ge p n with z | z
        · exact h2 z
        · rw [show p = n by omega]; exact h
      · rintro ⟨h1, h2⟩
        exact ⟨⟨h1, fun q => h2 (by omega)⟩, rfl⟩
    · rw [if_neg h, bt_not _ hp, bt_one (by omega)]
      constructor
      · rintro ⟨⟨h1, h2⟩, h3⟩
        refine ⟨h1, fun q => ?_⟩
        have hne : p ≠ n := fun z => by rw [z] at h3; simp at h3
        exact h2 (by omega)
      · rintro ⟨h1, h2⟩
        have hne : p ≠ n := fun z => h (by have := h2 (by omega); rw [z] at this; exact this)
        exact ⟨⟨h1, fun q => h2 (by omega)⟩, by rw [decide_eq_false hne]; rfl⟩
theorem bt_cbA {r : Int32} {q : Nat → Nat} {F : Nat → Int32} {tr : Nat} {a : Int32} {p : Nat} (hp : p < 32) (htr : tr < 8) : ∀ d, (∀ k, k < d → q k < 8) → (bt (cbA r q F tr a d) p = true ↔ bt a p = true ∧ (p < 8 → ∀ k, k < d → distI r (nI (q k)) (nI p) = distI r (nI (q k)) (nI tr)))
  | 0, _ => ⟨fun h => ⟨h, fun _ k hk => absurd hk (Nat.not_lt_zero _)⟩, fun h => h.1⟩
  | d + 1, hq => by
    have ih := bt_cbA (r := r) (q := q) (F := F) (a := a) hp htr d (fun k hk => hq k (by omega))
    show bt (cbP (md r (q d) (cbF r q F d)) tr (cbA r q F tr a d) 8) p = true ↔ _
    rw [bt_cbP hp 8 (Nat.le_refl _), ih]
    have hd := hq d (by omega)
    constructor
    · rintro ⟨⟨h1, h2⟩, h3⟩
      refine ⟨h1, fun h8 k hk => ?_⟩
      rcases Nat.lt_or_ge k d with z | z
      · exact h2 h8 k z
      · have e := h3 h8
        rw [md_dist hd h8, md_dist hd htr] at e
        rw [show k = d by omega]; exact e
    · rintro ⟨h1, h2⟩
      refine ⟨⟨h1, fun h8 k hk => h2 h8 k (by omega)⟩, fun h8 => ?_⟩
      rw [md_dist hd h8, md_dist hd htr]
      exact h2 h8 d (by omega)
theorem bt_cbK {G : SS} {p : Nat} : ∀ n, n ≤ 8 → (bt (cbK G n) p = true ↔ p < n ∧ ¬ fitI G (nI p) = 0)
  | 0, _ => by
    show bt 0 p = true ↔ _
    rw [bt_z]
    exact ⟨fun h => absurd h (by decide), fun h => absurd h.1 (Nat.not_lt_zero _)⟩
  | n + 1, hn => by
    have ih := bt_cbK (G := G) (p := p) n (by omega)
    by_cases h : fitI G (nI n) = 0
    · rw [show cbK G (n + 1) = cbK G n from if_pos h, ih]
      constructor
      · rintro ⟨h1, h2⟩; exact ⟨by omega, h2⟩
      · rintro ⟨h1, h2⟩
        refine ⟨?_, h2⟩
        rcases Nat.lt_or_ge p n with z | z
        · exact z
        · rw [show p = n by omega] at h2; exact absurd h h2
    · rw [show cbK G (n + 1) = cbK G n ||| one n from if_neg h, bt_or, Bool.or_eq_true, ih, bt_one (by omega), decide_eq_true_iff]
      constructor
      · rintro (⟨h1, h2⟩ | rfl)
        · exact ⟨by omega, h2⟩
        · exact ⟨by omega, h⟩
      · rintro ⟨h1, h2⟩
        rcases Nat.lt_or_ge p n with z | z
        · exact Or.inl ⟨z, h2⟩
        · exact Or.inr (by omega)
theorem fit_iff {G : SS} {a : Int32} : ¬ fitI G a = 0 ↔ ∀ j, j < 8 → (G 5 j = -6 ∨ G 5 j = distI (G 0 1) a (nI j)) := by
  unfold fitI
  split
  · rename_i h; exact ⟨fun _ => h, fun _ => by decide⟩
  · rename_i h; exact ⟨fun z => absurd rfl z, fun z => absurd z h⟩
theorem dist_m6 (r f t : Int32) : ¬ distI r f t = -6 := fun z => by
  have h := dist_0 r f t
  rw [z] at h
  exact absurd h (by decide)
theorem fit_eq {G : SS} {s : Nat → Int32} (h : Vs G s) (hg : Good s) {q : Nat → Nat} (hq : ∀ k, k < nD s → q k < 8 ∧ s (32 + k) = nI (q k)) {p tr : Nat} (hp : p < 8) (htr : s 1 = nI tr) (htr2 : tr < 8) : ¬ fitI G (nI p) = 0 ↔ ∀ k, k < nD s → distI (s 0) (nI (q k)) (nI p) = distI (s 0) (nI (q k)) (nI tr) := by
  rw [fit_iff]
  constructor
  · intro hf k hk
    obtain ⟨h8, e⟩ := hq k hk
    rcases hf (q k) h8 with z | z
    · rw [h.2.2.2.1 _ h8, tol_y _ ⟨k, hk, e⟩] at z
      exact absurd z (dist_m6 _ _ _)
    · rw [h.2.2.2.1 _ h8, tol_y _ ⟨k, hk, e⟩, h.1.1, htr, dist_sym _ hp h8] at z
      exact z.symm
  · intro hf j hj
    rw [h.2.2.2.1 j hj]
    by_cases hd : dugB s (nD s) j
    · obtain ⟨k, hk, e⟩ := id hd
      obtain ⟨h8, e2⟩ := hq k hk
      have ej : q k = j := (nI_eq (by omega) (by omega)).mp (e2.symm.trans e)
      right
      have := hf k hk
      rw [ej] at this
      rw [tol_y _ hd, h.1.1, htr, dist_sym _ hp hj]
      exact this.symm
    · exact Or.inl (tol_n _ hd)
