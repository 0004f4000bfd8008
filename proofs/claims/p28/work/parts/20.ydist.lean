/-! ways: how far -/
def adjP (r : Int32) (a b : Nat) : Prop := a ≠ b ∧ sb r (eI (nI a) (nI b)) = 1
/-- reached behind n steps -/
def rch (r : Int32) (f : Nat) : Nat → Nat → Prop
  | 0, b => b = f
  | n + 1, b => rch r f n b ∨ ∃ a, a < 8 ∧ rch r f n a ∧ adjP r a b
theorem adj_symm {r : Int32} {a b : Nat} (ha : a < 8) (hb : b < 8) (h : adjP r a b) : adjP r b a := by
  have key : ∀ i, i < 8 → ∀ j, j < 8 → eI (nI i) (nI j) = eI (nI j) (nI i) := by decide +kernel
  exact ⟨fun z => h.1 z.symm, by rw [← key a ha b hb]; exact h.2⟩
theorem rch_le {r : Int32} {f b : Nat} {m : Nat} (h : rch r f m b) : ∀ {n}, m ≤ n → rch r f n b := by
  intro n hn
  induction n with
  | zero => rw [show m = 0 by omega] at h; exact h
  | succ n ih =>
    rcases Nat.lt_or_ge n m with z | z
    · rw [show m = n + 1 by omega] at h; exact h
    · exact Or.inl (ih z)
theorem rch_cons {r : Int32} {a c : Nat} (hc : c < 8) (ha : a < 8) (hac : adjP r a c) : ∀ {n b}, rch r c n b → rch r a (n + 1) b
  | 0, b, h => by
    have e : b = c := h
    rw [e]
    exact Or.inr ⟨a, ha, rfl, hac⟩
  | n + 1, b, h => by
    rcases h with h | ⟨d, hd, h1, h2⟩
    · exact Or.inl (rch_cons hc ha hac h)
    · exact Or.inr ⟨d, hd, rch_cons hc ha hac h1, h2⟩
theorem rch_symm {r : Int32} {f : Nat} (hf : f < 8) : ∀ {n b}, b < 8 → rch r f n b → rch r b n f
  | 0, b, _, h => by
    have e : b = f := h
    exact e.symm
  | n + 1, b, hb, h => by
    rcases h with h | ⟨d, hd, h1, h2⟩
    · exact Or.inl (rch_symm hf hb h)
    · exact rch_cons hd hb (adj_symm hd hb h2) (rch_symm hf hd h1)
/-- closed -/
theorem rch_stop {r : Int32} {f n : Nat} (h : ∀ b, b < 8 → rch r f (n + 1) b → rch r f n b) : ∀ k b, b < 8 → rch r f (n + k) b → rch r f n b
  | 0, _, _, q => q
  | k + 1, b, hb, q => by
    rcases q with q | ⟨a, ha, h1, h2⟩
    · exact rch_stop h k b hb q
    · exact h b hb (Or.inr ⟨a, ha, rch_stop h k a ha h1, h2⟩)
theorem ct_mono2 {p q : Nat → Bool} : ∀ {n : Nat}, (∀ k, k < n → p k = true → q k = true) → ct p n ≤ ct q n
  | 0, _ => Nat.le_refl _
  | n + 1, h => by
    have ih := ct_mono2 (p := p) (q := q) (n := n) (fun k hk => h k (by omega))
    have hn := h n (by omega)
    show ct p n + (if p n then 1 else 0) ≤ ct q n + (if q n then 1 else 0)
    cases hp : p n
    · simp; omega
    · rw [hn hp]; simp; exact ih
theorem ct_grow {p q : Nat → Bool} {m : Nat} (hm : p m = false) (hq : q m = true) : ∀ {n : Nat}, m < n → (∀ k, k < n → p k = true → q k = true) → ct p n + 1 ≤ ct q n
  | 0, h, _ => absurd h (Nat.not_lt_zero _)
  | n + 1, hmn, h => by
    show ct p n + (if p n then 1 else 0) + 1 ≤ ct q n + (if q n then 1 else 0)
    by_cases e : m = n
    · subst e
      rw [hm, hq]
      have := ct_mono2 (p := p) (q := q) (n := m) (fun k hk => h k (by omega))
      simp; exact this
    · have ih := ct_grow hm hq (n := n) (by omega) (fun k hk => h k (by omega))
      have hn := h n (by omega)
      cases hp : p n
      · simp; omega
      · rw [hn hp]; simp; omega
theorem ct_full {p : Nat → Bool} : ∀ {n : Nat}, n ≤ ct p n → ∀ k, k < n → p k = true
  | 0, _, _, h => absurd h (Nat.not_lt_zero _)
  | n + 1, h, k, hk => by
    have h2 : n + 1 ≤ ct p n + (if p n then 1 else 0) := h
    have h3 := ct_le p n
    cases hp : p n
    · rw [hp] at h2; simp at h2; omega
    · rw [hp] at h2; simp at h2
      by_cases e : k = n
      · rw [e]; exact hp
      · exact ct_full h2 k (by omega)
/-- what is reached is reached in seven steps -/
theorem rch_seven {r : Int32} {f : Nat} (hf : f < 8) : ∀ n b, b < 8 → rch r f n b → rch r f 7 b := by
  have dec : ∃ P : Nat → Nat → Bool, ∀ n b, P n b = true ↔ rch r f n b := by
    refine ⟨fun n b => @decide (rch r f n b) (Classical.propDecidable _), fun n b => ?_⟩
    exact @decide_eq_true_iff _ (Classical.propDecidable _)
  obtain ⟨P, hP⟩ := dec
  have key : ∀ m, m ≤ 7 → (∃ k, k < m ∧ ∀ b, b < 8 → rch r f (k + 1) b → rch r f k b) ∨ m + 1 ≤ ct (P m) 8 := by
    intro m hm
    induction m with
    | zero =>
      right
      have h0 : P 0 f = true := (hP 0 f).mpr rfl
      have := ct_grow (p := fun _ => false) (q := P 0) (m := f) rfl h0 (n := 8) hf (fun k _ h => by cases h)
      omega
    | succ m ih =>
      rcases ih (by omega) with ⟨k, hk, h⟩ | h
      · exact Or.inl ⟨k, by omega, h⟩
      · by_cases z : ∀ b, b < 8 → rch r f (m + 1) b → rch r f m b
        · exact Or.inl ⟨m, by omega, z⟩
        · right
          have : ∃ b, b < 8 ∧ rch r f (m + 1) b ∧ ¬ rch r f m b := Classical.byContradiction fun y => z fun b hb hr => Classical.byContradiction fun w => y ⟨b, hb, hr, w⟩
          obtain ⟨b, hb, h1, h2⟩ := this
          have hm0 : P m b = false := by
            cases e : P m b
            · rfl
            · exact absurd ((hP m b).mp e) h2
          have := ct_grow (p := P m) (q := P (m + 1)) (m := b) hm0 ((hP (m + 1) b).mpr h1) (n := 8) hb (fun k _ q => (hP (m + 1) k).mpr (Or.inl ((hP m k).mp q)))
          omega
  intro n b hb hr
  rcases key 7 (Nat.le_refl _) with ⟨k, hk, h⟩ | h
  · have := rch_stop h n b hb (rch_le hr (by omega))
    exact rch_le this (by omega)
  · exact (hP 7 b).mp (ct_full h b hb)
/-- v says how far -/
def isD (r : Int32) (f t : Nat) (v : Int32) : Prop := (∃ s, s < 8 ∧ v = nI s ∧ rch r f s t ∧ ∀ j, j < s → ¬ rch r f j t) ∨ (v = 99 ∧ ∀ s, s < 8 → ¬ rch r f s t)
theorem isD_one {r : Int32} {f t : Nat} {v w : Int32} (h1 : isD r f t v) (h2 : isD r f t w) : v = w := by
  rcases h1 with ⟨s, hs, rfl, a, b⟩ | ⟨rfl, a⟩
  · rcases h2 with ⟨s', hs', rfl, a', b'⟩ | ⟨-, a'⟩
    · rcases Nat.lt_trichotomy s s' with z | z | z
      · exact absurd a (b' s z)
      · rw [z]
      · exact absurd a' (b s' z)
    · exact absurd a (a' s hs)
  · rcases h2 with ⟨s', hs', rfl, a', b'⟩ | ⟨rfl, a'⟩
    · exact absurd a' (a s' hs')
    · rfl
theorem isD_symm {r : Int32} {f t : Nat} {v : Int32} (hf : f < 8) (ht : t < 8) (h : isD r f t v) : isD r t f v := by
  rcases h with ⟨s, hs, e, a, b⟩ | ⟨e, a⟩
  · exact Or.inl ⟨s, hs, e, rch_symm hf ht a, fun j hj q => b j hj (rch_symm ht hf q)⟩
  · exact Or.inr ⟨e, fun s hs q => a s hs (rch_symm ht hf q)⟩
/-! the reference's relaxing -/
def mJ (r : Int32) (f k a b : Nat) (F : Nat → Int32) : Prop := ∃ D : Nat → Nat, (∀ j, j < 8 → F j = nI (D j) ∧ D j ≤ 99 ∧ (D j = 99 ∨ rch r f (D j) j)) ∧ (∀ j, j < 8 → ∀ s, s ≤ k → rch r f s j → D j ≤ s) ∧ (∀ a' j, a' < 8 → j < 8 → (a' < a ∨ (a' = a ∧ j < b)) → adjP r a' j → ∀ s, s ≤ k → rch r f s a' → D j ≤ s + 1)
theorem nI_lt99 {k : Nat} (h : k ≤ 99) : nI k < 99 ↔ k < 99 := nI_ltI (b := 99) (by omega) (by decide)
def updN (D : Nat → Nat) (b x j : Nat) : Nat := if j = b then x else D j
theorem updN_at {D : Nat → Nat} {b x : Nat} : updN D b x b = x := if_pos rfl
theorem updN_ne {D : Nat → Nat} {b x j : Nat} (h : j ≠ b) : updN D b x j = D j := if_neg h
theorem mJ_step {r : Int32} {f k a b : Nat} {F : Nat → Int32} (hk : k ≤ 50) (ha : a < 8) (hb : b < 8) (h : mJ r f k a b F) : mJ r f k a (b + 1) (rlx r a b F) := by
  obtain ⟨D, h1, h2, h3⟩ := h
  have ea := h1 a ha
  have eb := h1 b hb
  have elt : F a < 99 ↔ D a < 99 := by rw [ea.1]; exact nI_lt99 ea.2.1
  have elt2 : F a + 1 < F b ↔ D a + 1 < D b := by rw [ea.1, eb.1, nI_1]; exact nI_ltI (by omega) (by omega)
  by_cases hc : (adjP r a b ∧ D a < 99) ∧ D a + 1 < D b
  · have hc' : (a ≠ b ∧ sb r (eI (nI a) (nI b)) = 1 ∧ F a < 99) ∧ F a + 1 < F b := ⟨⟨hc.1.1.1, hc.1.1.2, elt.mpr hc.1.2⟩, elt2.mpr hc.2⟩
    rw [rlx_y hc']
    refine ⟨updN D b (D a + 1), fun j hj => ?_, fun j hj s hs hr => ?_, fun a' j ha' hj hlt had s hs hr => ?_⟩
    · by_cases e : j = b
      · subst e
        rw [upd_at, updN_at, ea.1, nI_1]
        refine ⟨rfl, by omega, Or.inr ?_⟩
        rcases ea.2.2 with z | z
        · exact absurd z (by omega)
        · exact Or.inr ⟨a, ha, z, hc.1.1⟩
      · rw [upd_ne e, updN_ne e]; exact h1 j hj
    · have := h2 j hj s hs hr
      by_cases e : j = b
      · subst e; rw [updN_at]; omega
      · rw [updN_ne e]; exact this
    · by_cases e : j = b
      · rw [e, updN_at]
        by_cases e2 : a' = a
        · subst e2; have := h2 a' ha s hs hr; omega
        · have := h3 a' j ha' hj (by omega) had s hs hr
          rw [e] at this; omega
      · rw [updN_ne e]; exact h3 a' j ha' hj (by omega) had s hs hr
  · have hc' : ¬ ((a ≠ b ∧ sb r (eI (nI a) (nI b)) = 1 ∧ F a < 99) ∧ F a + 1 < F b) := fun z => hc ⟨⟨⟨z.1.1, z.1.2.1⟩, elt.mp z.1.2.2⟩, elt2.mp z.2⟩
    rw [rlx_n hc']
    refine ⟨D, fun j hj => ?_, h2, fun a' j ha' hj hlt had s hs hr => ?_⟩
    · by_cases e : j = b
      · subst e; rw [upd_at]; exact h1 j hj
      · rw [upd_ne e]; exact h1 j hj
    · by_cases e : a' = a ∧ j = b
      · obtain ⟨rfl, rfl⟩ := e
        have h4 := h2 a' ha s hs hr
        by_cases z : D a' + 1 < D j
        · exact absurd ⟨⟨had, by omega⟩, z⟩ hc
        · omega
      · exact h3 a' j ha' hj (by omega) had s hs hr
theorem mJ_B {r : Int32} {f k a : Nat} {F : Nat → Int32} (hk : k ≤ 50) (ha : a < 8) (h : mJ r f k a 0 F) : ∀ b, b ≤ 8 → mJ r f k a b (mB r a F b)
  | 0, _ => h
  | b + 1, hb => mJ_step hk ha (by omega) (mJ_B hk ha h b (by omega))
theorem mJ_next {r : Int32} {f k a : Nat} {F : Nat → Int32} (h : mJ r f k a 8 F) : mJ r f k (a + 1) 0 F := by
  obtain ⟨D, h1, h2, h3⟩ := h
  exact ⟨D, h1, h2, fun a' j ha' hj hlt => h3 a' j ha' hj (by omega)⟩
theorem mJ_A {r : Int32} {f k : Nat} {F : Nat → Int32} (hk : k ≤ 50) (h : mJ r f k 0 0 F) : ∀ a, a ≤ 8 → mJ r f k a 0 (mA r F a)
  | 0, _ => h
  | a + 1, ha => mJ_next (mJ_B hk (by omega) (mJ_A hk h a (by omega)) 8 (Nat.le_refl _))
theorem mJ_round {r : Int32} {f k : Nat} {F : Nat → Int32} (h : mJ r f k 8 0 F) : mJ r f (k + 1) 0 0 F := by
  obtain ⟨D, h1, h2, h3⟩ := h
  refine ⟨D, h1, fun j hj s hs hr => ?_, fun a' j ha' hj hlt => by omega⟩
  by_cases e : s ≤ k
  · exact h2 j hj s e hr
  · obtain rfl : s = k + 1 := by omega
    rcases hr with hr | ⟨a, ha, h4, h5⟩
    · have := h2 j hj k (Nat.le_refl _) hr; omega
    · exact h3 a j ha hj (Or.inl ha) h5 k (Nat.le_refl _) h4
theorem mJ_R {r : Int32} {f : Nat} {F : Nat → Int32} (h : mJ r f 0 0 0 F) : ∀ k, k ≤ 50 → mJ r f k 0 0 (mR r F k)
  | 0, _ => h
  | k + 1, hk => mJ_round (mJ_A (by omega) (mJ_R h k (by omega)) 8 (Nat.le_refl _))
theorem iF_at (f : Nat) (F : Nat → Int32) : ∀ n j, j < n → iF f F n j = if j = f then 0 else 99
  | 0, _, h => absurd h (Nat.not_lt_zero _)
  | n + 1, j, h => by
    show upd (iF f F n) n (if n = f then 0 else 99) j = _
    by_cases e : j = n
    · subst e; rw [upd_at]
    · rw [upd_ne e]; exact iF_at f F n j (by omega)
theorem mJ_start (r : Int32) (f : Nat) (F : Nat → Int32) : mJ r f 0 0 0 (iF f F 8) := by
  refine ⟨updN (fun _ => 99) f 0, fun j hj => ?_, fun j hj s hs hr => ?_, fun a' j ha' hj hlt => by omega⟩
  · rw [iF_at f F 8 j hj]
    by_cases e : j = f
    · rw [if_pos e, e, updN_at]; exact ⟨rfl, by omega, Or.inr rfl⟩
    · rw [if_neg e, updN_ne e]; exact ⟨rfl, by omega, Or.inl rfl⟩
  · obtain rfl : s = 0 := by omega
    have e : j = f := hr
    rw [e, updN_at]; exact Nat.le_refl _
theorem md_isD {r : Int32} {f q : Nat} {F : Nat → Int32} (hf : f < 8) (hq : q < 8) : isD r f q (md r f F q) := by
  obtain ⟨D, h1, h2, -⟩ := mJ_R (mJ_start r f F) 8 (by decide)
  obtain ⟨e, e99, hs⟩ := h1 q hq
  have hle := h2 q hq
  have e' : md r f F q = nI (D q) := e
  rw [e']
  by_cases z : ∃ s, s < 8 ∧ rch r f s q
  · obtain ⟨s, hs8, hr⟩ := z
    have hd : D q ≤ s := hle s (by omega) hr
    refine Or.inl ⟨D q, by omega, rfl, ?_, fun j hj hr2 => ?_⟩
    · rcases hs with z | z
      · omega
      · exact z
    · have := hle j (by omega) hr2; omega
  · have hn : ∀ s, s < 8 → ¬ rch r f s q := fun s hs hr => z ⟨s, hs, hr⟩
    rcases hs with y | y
    · exact Or.inr ⟨by rw [y]; rfl, hn⟩
    · exact absurd (rch_seven hf _ q hq y) (hn 7 (by decide))
/-! the class's breadth-first way -/
theorem meet_at : ∀ p, p < 8 → ∀ j, j < 8 → p ≠ j → ∃ e, e < 28 ∧ eI (nI p) (nI j) = nI e ∧ k_at p &&& k_at j = one e := by decide +kernel
theorem pbJ_bt {r : Int32} {p : Nat} (hp : p < 8) : ∀ n, n ≤ 8 → ∀ b, (bt (pbJ (r &&& k_at p) p n) b = true ↔ b < n ∧ adjP r p b)
  | 0, _, b => by
    show bt 0 b = true ↔ _
    rw [bt_z]
    exact ⟨fun h => absurd h (by decide), fun h => absurd h.1 (Nat.not_lt_zero _)⟩
  | n + 1, hn, b => by
    have ih := pbJ_bt (r := r) hp n (by omega) b
    have hcond : (n ≠ p ∧ ¬ r &&& k_at p &&& k_at n = 0) ↔ adjP r p n := by
      by_cases e : n = p
      · exact ⟨fun z => absurd e z.1, fun z => absurd e.symm z.1⟩
      · obtain ⟨k, hk, ek, ea⟩ := meet_at p hp n (by omega) (fun z => e z.symm)
        unfold adjP
        rw [Int32.and_assoc, ea, and_one (by omega), ek, sb_k r (show k < 32 by omega)]
        cases bt r k
        · exact ⟨fun z => absurd rfl z.2, fun z => absurd z.2 (by decide)⟩
        · exact ⟨fun _ => ⟨fun z => e z.symm, rfl⟩, fun _ => ⟨e, by decide⟩⟩
    show bt (if n ≠ p ∧ ¬ r &&& k_at p &&& k_at n = 0 then pbJ (r &&& k_at p) p n ||| one n else pbJ (r &&& k_at p) p n) b = true ↔ _
    by_cases hc : n ≠ p ∧ ¬ r &&& k_at p &&& k_at n = 0
    · rw [if_pos hc, bt_or, Bool.or_eq_true, ih, bt_one (by omega), decide_eq_true_iff]
      constructor
      · rintro (⟨h1, h2⟩ | rfl)
        · exact ⟨by omega, h2⟩
        · exact ⟨by omega, hcond.mp hc⟩
      · rintro ⟨h1, h2⟩
        by_cases e : b = n
        · exact Or.inr e
        · exact Or.inl ⟨by omega, h2⟩
    · rw [if_neg hc, ih]
      constructor
      · rintro ⟨h1, h2⟩; exact ⟨by omega, h2⟩
      · rintro ⟨h1, h2⟩
        have e : b ≠ n := fun z => hc (hcond.mpr (by rw [z] at h2; exact h2))
        exact ⟨by omega, h2⟩
theorem sb_z {x : Int32} {k : Nat} (hk : k < 32) : (x >>> (nI k &&& 31)) &&& 1 = 0 ↔ bt x k = false := by
  have := sb_k x hk
  unfold sb at this
  rw [this]
  cases bt x k <;> simp
theorem nbJ_bt {r m : Int32} : ∀ n, n ≤ 8 → ∀ b, (bt (nbJ r m n) b = true ↔ b < 8 ∧ ∃ a, a < n ∧ bt m a = true ∧ adjP r a b)
  | 0, _, b => by
    show bt 0 b = true ↔ _
    rw [bt_z]
    exact ⟨fun h => absurd h (by decide), fun ⟨_, a, h, _⟩ => absurd h (Nat.not_lt_zero _)⟩
  | n + 1, hn, b => by
    have ih := nbJ_bt (r := r) (m := m) n (by omega) b
    show bt (if (m >>> (nI n &&& 31)) &&& 1 = 0 then nbJ r m n else nbJ r m n ||| pbI r n) b = true ↔ _
    by_cases hc : bt m n = false
    · rw [if_pos ((sb_z (by omega)).mpr hc), ih]
      constructor
      · rintro ⟨h1, a, h2, h3⟩; exact ⟨h1, a, by omega, h3⟩
      · rintro ⟨h1, a, h2, h3, h4⟩
        have e : a ≠ n := fun z => by rw [z, hc] at h3; exact absurd h3 (by decide)
        exact ⟨h1, a, by omega, h3, h4⟩
    · rw [if_neg (fun z => hc ((sb_z (by omega)).mp z)), bt_or, Bool.or_eq_true, ih]
      rw [show bt (pbI r n) b = true ↔ _ from pbJ_bt (r := r) (show n < 8 by omega) 8 (Nat.le_refl _) b]
      have hc' : bt m n = true := by simpa using hc
      constructor
      · rintro (⟨h1, a, h2, h3⟩ | ⟨h1, h2⟩)
        · exact ⟨h1, a, by omega, h3⟩
        · exact ⟨h1, n, by omega, hc', h2⟩
      · rintro ⟨h1, a, h2, h3, h4⟩
        by_cases e : a = n
        · rw [e] at h4; exact Or.inr ⟨h1, h4⟩
        · exact Or.inl ⟨h1, a, by omega, h3, h4⟩
theorem dd_isD {r : Int32} {f t : Nat} (hf : f < 8) (ht : t < 8) : ∀ n s, n + s = 8 → ∀ re ed : Int32, (∀ b, bt re b = true ↔ b < 8 ∧ rch r f s b) → (∀ b, bt ed b = true ↔ b < 8 ∧ rch r f s b ∧ ∀ j, j < s → ¬ rch r f j b) → (∀ j, j < s → ¬ rch r f j t) → isD r f t (dd r (nI t) n s re ed)
  | 0, s, hs, re, ed, _, _, hn => Or.inr ⟨rfl, fun j hj => hn j (by omega)⟩
  | n + 1, s, hs, re, ed, hre, hed, hn => by
    show isD r f t (if ed = 0 then 99 else if (ed >>> (nI t &&& 31)) &&& 1 = 0 then dd r (nI t) n (s + 1) (re ||| (nbI r ed &&& (re ^^^ -1))) (nbI r ed &&& (re ^^^ -1)) else nI s)
    have hlast : bt ed t = false → ¬ rch r f s t := fun z y => by
      have := (hed t).mpr ⟨ht, y, hn⟩
      rw [z] at this; exact absurd this (by decide)
    by_cases h0 : ed = 0
    · rw [if_pos h0]
      have hz : ∀ b, ¬ bt ed b = true := fun b z => by rw [h0, bt_z] at z; exact absurd z (by decide)
      have hs0 : s ≠ 0 := fun z => hz f ((hed f).mpr ⟨hf, by rw [z]; exact rfl, fun j hj => by omega⟩)
      obtain ⟨s', rfl⟩ : ∃ s', s = s' + 1 := ⟨s - 1, by omega⟩
      have hst : ∀ b, b < 8 → rch r f (s' + 1) b → rch r f s' b := fun b hb hr => Classical.byContradiction fun z => hz b ((hed b).mpr ⟨hb, hr, fun j hj y => z (rch_le y (by omega))⟩)
      refine Or.inr ⟨rfl, fun j hj hr => ?_⟩
      exact hn s' (by omega) (rch_stop hst j t ht (rch_le hr (by omega)))
    · rw [if_neg h0]
      by_cases h1 : bt ed t = false
      · rw [if_pos ((sb_z (by omega)).mpr h1)]
        have hnb : ∀ b, (bt (nbI r ed &&& (re ^^^ -1)) b = true ↔ b < 8 ∧ rch r f (s + 1) b ∧ ∀ j, j < s + 1 → ¬ rch r f j b) := fun b => by
          rcases Nat.lt_or_ge b 32 with hb32 | hb32
          · rw [bt_and, Bool.and_eq_true, bt_not _ hb32, show bt (nbI r ed) b = true ↔ _ from nbJ_bt (r := r) (m := ed) 8 (Nat.le_refl _) b]
            constructor
            · rintro ⟨⟨hb, a, ha, h2, h3⟩, h4⟩
              have hnr : ¬ rch r f s b := fun z => by
                rw [(hre b).mpr ⟨hb, z⟩] at h4; exact absurd h4 (by decide)
              exact ⟨hb, Or.inr ⟨a, ha, ((hed a).mp h2).2.1, h3⟩, fun j hj z => hnr (rch_le z (by omega))⟩
            · rintro ⟨hb, h2, h3⟩
              have hnr : ¬ rch r f s b := h3 s (by omega)
              refine ⟨⟨hb, ?_⟩, ?_⟩
              · rcases h2 with z | ⟨a, ha, h4, h5⟩
                · exact absurd z hnr
                · exact ⟨a, ha, (hed a).mpr ⟨ha, h4, fun j hj z => hnr (rch_le (show rch r f (j + 1) b from Or.inr ⟨a, ha, z, h5⟩) (by omega))⟩, h5⟩
              · cases e : bt re b
                · rfl
                · exact absurd ((hre b).mp e).2 hnr
          · rw [bt_hi _ hb32]
            exact ⟨fun z => absurd z (by decide), fun z => by omega⟩
        refine dd_isD hf ht n (s + 1) (by omega) _ _ (fun b => ?_) hnb (fun j hj => ?_)
        · rw [bt_or, Bool.or_eq_true, hre b, hnb b]
          constructor
          · rintro (⟨h2, h3⟩ | ⟨h2, h3, -⟩)
            · exact ⟨h2, Or.inl h3⟩
            · exact ⟨h2, h3⟩
          · rintro ⟨h2, h3⟩
            by_cases z : rch r f s b
            · exact Or.inl ⟨h2, z⟩
            · exact Or.inr ⟨h2, h3, fun j hj y => z (rch_le y (by omega))⟩
        · by_cases e : j = s
          · rw [e]; exact hlast h1
          · exact hn j (by omega)
      · rw [if_neg (fun z => h1 ((sb_z (by omega)).mp z))]
        have h1' : bt ed t = true := by simpa using h1
        exact Or.inl ⟨s, by omega, rfl, ((hed t).mp h1').2.1, hn⟩
theorem dist_isD {r : Int32} {f t : Nat} (hf : f < 8) (ht : t < 8) : isD r f t (distI r (nI f) (nI t)) := by
  have h0 : ∀ b, (bt (one f) b = true ↔ b < 8 ∧ rch r f 0 b) := fun b => by
    rw [bt_one (by omega), decide_eq_true_iff]
    exact ⟨fun z => ⟨by omega, z⟩, fun z => z.2⟩
  exact dd_isD hf ht 8 0 rfl (one f) (one f) h0 (fun b => by rw [h0 b]; exact ⟨fun z => ⟨z.1, z.2, fun j hj => by omega⟩, fun z => ⟨z.1, z.2.1⟩⟩) (fun j hj => by omega)
/-- the reference's distances are the ways' -/
theorem md_dist {r : Int32} {f q : Nat} {F : Nat → Int32} (hf : f < 8) (hq : q < 8) : md r f F q = distI r (nI f) (nI q) := isD_one (md_isD hf hq) (dist_isD hf hq)
theorem dist_sym (r : Int32) {a b : Nat} (ha : a < 8) (hb : b < 8) : distI r (nI a) (nI b) = distI r (nI b) (nI a) := isD_one (dist_isD ha hb) (isD_symm hb ha (dist_isD hb ha))
