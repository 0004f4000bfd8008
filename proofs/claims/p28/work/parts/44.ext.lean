/-! what holds of a row beside Good: sums over the players -/
def S3 (f : Nat → Nat) : Nat := f 0 + f 1 + f 2
def upN (f : Nat → Nat) (t v : Nat) : Nat → Nat := fun p => if p = t then v else f p
theorem upN_at (f : Nat → Nat) (t v : Nat) : upN f t v t = v := if_pos rfl
theorem upN_ne {f : Nat → Nat} {t v p : Nat} (h : p ≠ t) : upN f t v p = f p := if_neg h
theorem S3_up {f : Nat → Nat} {t v : Nat} (ht : t < 3) : S3 (upN f t v) + f t = S3 f + v := by
  rcases (show t = 0 ∨ t = 1 ∨ t = 2 by omega) with rfl | rfl | rfl <;> simp [S3, upN] <;> omega
theorem S3_ge (f : Nat → Nat) {p : Nat} (hp : p < 3) : f p ≤ S3 f := by
  rcases (show p = 0 ∨ p = 1 ∨ p = 2 by omega) with rfl | rfl | rfl <;> simp [S3] <;> omega
def NumAt (s : Nat → Int32) (c : Nat) (f : Nat → Nat) : Prop := ∀ p, p < 3 → s (c + p) = nI (f p)
theorem NumAt.same {s s2 : Nat → Int32} {c : Nat} {f : Nat → Nat} (h : NumAt s c f) (e : ∀ p, p < 3 → s2 (c + p) = s (c + p)) : NumAt s2 c f := fun p hp => (e p hp).trans (h p hp)
theorem NumAt.up {s s2 : Nat → Int32} {c t v : Nat} {f : Nat → Nat} (h : NumAt s c f) (e : s2 (c + t) = nI v) (eo : ∀ p, p < 3 → p ≠ t → s2 (c + p) = s (c + p)) : NumAt s2 c (upN f t v) := fun p hp => by
  by_cases q : p = t
  · subst q; rw [upN_at]; exact e
  · rw [upN_ne q]; exact (eo p hp q).trans (h p hp)
/-- the sums; m: by how much the turns may lag behind -/
def ExtN (s : Nat → Int32) (m : Nat) : Prop := ∃ (pu li ch hi di : Nat → Nat) (n d w : Nat), (NumAt s 8 pu ∧ NumAt s 18 li ∧ NumAt s 21 ch ∧ NumAt s 24 hi ∧ NumAt s 27 di) ∧ (s 7 = nI n ∧ n ≤ 150 ∧ s 31 = nI d ∧ s 5 = nI w ∧ w ≤ 200) ∧ S3 ch = pcN (s 17) ∧ S3 li = S3 hi ∧ (∀ p, p < 3 → hi p ≤ ch p) ∧ S3 di = d ∧ S3 ch + S3 di ≤ n + m ∧ ((s 30 = -6 ∧ S3 pu ≤ 60) ∨ (∃ p, p < 3 ∧ s 30 = nI p ∧ 0 < di p ∧ s 6 = 2 ∧ S3 pu ≤ 260)) ∧ (¬ 0 < s 6 → s 17 = 0) ∧ (∀ p, p < 3 → ∀ i, 28 ≤ i → bt (s (11 + p)) i = false ∧ bt (s (14 + p)) i = false)
abbrev Ext (s : Nat → Int32) : Prop := ExtN s 0
theorem ExtN.congr {s s2 : Nat → Int32} {m : Nat} (h : ExtN s m) (e : ∀ k, 5 ≤ k → k ≤ 31 → s2 k = s k) : ExtN s2 m := by
  obtain ⟨pu, li, ch, hi, di, n, d, w, ⟨p1, p2, p3, p4, p5⟩, ⟨q1, q2, q3, q4, q5⟩, a1, a2, a3, a4, a5, a6, a7, a8⟩ := h
  refine ⟨pu, li, ch, hi, di, n, d, w, ⟨p1.same fun p hp => e _ (by omega) (by omega), p2.same fun p hp => e _ (by omega) (by omega), p3.same fun p hp => e _ (by omega) (by omega), p4.same fun p hp => e _ (by omega) (by omega), p5.same fun p hp => e _ (by omega) (by omega)⟩, ⟨(e 7 (by decide) (by decide)).trans q1, q2, (e 31 (by decide) (by decide)).trans q3, (e 5 (by decide) (by decide)).trans q4, q5⟩, ?_, a2, a3, a4, a5, ?_, ?_, fun p hp i hi => ?_⟩
  · rw [e 17 (by decide) (by decide)]; exact a1
  · rw [e 30 (by decide) (by decide), e 6 (by decide) (by decide)]; exact a6
  · rw [e 17 (by decide) (by decide), e 6 (by decide) (by decide)]; exact a7
  · rw [e (11 + p) (by omega) (by omega), e (14 + p) (by omega) (by omega)]; exact a8 p hp i hi
theorem ext_road {s : Nat → Int32} {a b : Int32} (h : Ext s) : Ext (rLays s a b) := ExtN.congr h fun k h1 _ => upd_ne (by omega)
theorem ext_treasure {s : Nat → Int32} {a : Int32} (h : Ext s) : Ext (upd s 1 a) := ExtN.congr h fun k h1 _ => upd_ne (by omega)
theorem hi_200 {v : Int32} (h1 : loS 3 ≤ v) (h2 : v ≤ hiS 3) : ∃ w, v = nI w ∧ w ≤ 200 := by
  obtain ⟨j, h, e⟩ := nI_of2 (x := v) (M := 200) (n := 200) (by decide) (Int32.not_lt.mpr (Int32.le_trans (show (0 : Int32) ≤ loS 3 by decide) h1)) (Int32.le_trans h2 (show hiS 3 ≤ 200 by decide))
  exact ⟨j, e, h⟩
theorem ext_set {s : Nat → Int32} {k : Nat} {v : Int32} (h : Ext s) (hk : k < 4) (h1 : loS (nI k) ≤ v) (h2 : v ≤ hiS (nI k)) : Ext (upd s (2 + k) v) := by
  by_cases e : k = 3
  · subst e
    obtain ⟨w', rfl, hw'⟩ := hi_200 h1 h2
    obtain ⟨pu, li, ch, hi, di, n, d, w, ⟨p1, p2, p3, p4, p5⟩, ⟨q1, q2, q3, q4, q5⟩, a⟩ := h
    have o : ∀ j, j ≠ 5 → upd s (2 + 3) (nI w') j = s j := fun j hj => upd_ne hj
    refine ⟨pu, li, ch, hi, di, n, d, w', ⟨p1.same fun p hp => o _ (by omega), p2.same fun p hp => o _ (by omega), p3.same fun p hp => o _ (by omega), p4.same fun p hp => o _ (by omega), p5.same fun p hp => o _ (by omega)⟩, ⟨q1, q2, q3, rfl, hw'⟩, ?_⟩
    rw [o 17 (by decide), o 30 (by decide), o 6 (by decide)]
    refine ⟨a.1, a.2.1, a.2.2.1, a.2.2.2.1, a.2.2.2.2.1, a.2.2.2.2.2.1, a.2.2.2.2.2.2.1, fun p hp i hi => ?_⟩
    rw [o (11 + p) (by omega), o (14 + p) (by omega)]
    exact a.2.2.2.2.2.2.2 p hp i hi
  · exact ExtN.congr h fun j h1 _ => upd_ne (by omega)
theorem ext_begin {s : Nat → Int32} (h : Ext s) (hb : ¬ 0 < s 6) : Ext (upd s 6 1) := by
  obtain ⟨pu, li, ch, hi, di, n, d, w, ⟨p1, p2, p3, p4, p5⟩, q, a1, a2, a3, a4, a5, a6, a7, a8⟩ := h
  have o : ∀ j, j ≠ 6 → upd s 6 1 j = s j := fun j hj => upd_ne hj
  refine ⟨pu, li, ch, hi, di, n, d, w, ⟨p1.same fun p hp => o _ (by omega), p2.same fun p hp => o _ (by omega), p3.same fun p hp => o _ (by omega), p4.same fun p hp => o _ (by omega), p5.same fun p hp => o _ (by omega)⟩, q, a1, a2, a3, a4, a5, ?_, fun z => absurd (show (0 : Int32) < 1 by decide) z, fun p hp i hi => ?_⟩
  · rcases a6 with a6 | ⟨p, -, -, -, e, -⟩
    · exact Or.inl a6
    · rw [e] at hb; exact absurd (by decide) hb
  · rw [o (11 + p) (by omega), o (14 + p) (by omega)]; exact a8 p hp i hi
theorem ends_o {s : Nat → Int32} {j : Nat} (h6 : j ≠ 6) (h7 : j ≠ 7) : rEnds s j = s j := by unfold rEnds; rw [upd_ne h6, upd_ne h7]
/-- the end of a turn -/
theorem ext_ends {s : Nat → Int32} (h : ExtN s 1) (hb : s 6 = 1) {n : Nat} (e7 : s 7 = nI n) (hn : n < 150) : Ext (rEnds s) := by
  obtain ⟨pu, li, ch, hi, di, n', d, w, ⟨p1, p2, p3, p4, p5⟩, ⟨q1, q2, q3, q4, q5⟩, a1, a2, a3, a4, a5, a6, a7, a8⟩ := h
  have en : n' = n := (nI_eq (by omega) (by omega)).mp (q1.symm.trans e7)
  subst en
  refine ⟨pu, li, ch, hi, di, n' + 1, d, w, ⟨p1.same fun p hp => ends_o (by omega) (by omega), p2.same fun p hp => ends_o (by omega) (by omega), p3.same fun p hp => ends_o (by omega) (by omega), p4.same fun p hp => ends_o (by omega) (by omega), p5.same fun p hp => ends_o (by omega) (by omega)⟩, ⟨?_, by omega, q3, q4, q5⟩, a1, a2, a3, a4, by omega, ?_, fun z => absurd (ends_6 hb) z, fun p hp i hi => ?_⟩
  · show s 7 + 1 = nI (n' + 1); rw [q1, nI_1]
  · rcases a6 with a6 | ⟨p, -, -, -, e, -⟩
    · exact Or.inl a6
    · rw [e] at hb; exact absurd hb (by decide)
  · rw [ends_o (by omega) (by omega), ends_o (by omega) (by omega)]; exact a8 p hp i hi
theorem ExtN.mono {s : Nat → Int32} {m m' : Nat} (h : ExtN s m) (hm : m ≤ m') : ExtN s m' := by
  obtain ⟨pu, li, ch, hi, di, n, d, w, p, q, a1, a2, a3, a4, a5, a6⟩ := h
  exact ⟨pu, li, ch, hi, di, n, d, w, p, q, a1, a2, a3, a4, by omega, a6⟩
theorem good_n {s : Nat → Int32} (h : Good s) (hb : s 6 = 1) : ∃ n, s 7 = nI n ∧ n < 150 ∧ s 30 = -6 := by
  obtain ⟨n, d, tr, h1, h2, h3, h4, h5, h6, h7, h8, -⟩ := h
  rcases h8 with ⟨a, -⟩ | ⟨-, b, c⟩ | ⟨a, -⟩
  · rw [a] at hb; exact absurd hb (by decide)
  · exact ⟨n, h1, c, b⟩
  · rw [a] at hb; exact absurd hb (by decide)
theorem ext_pass {s : Nat → Int32} (h : Ext s) (hg : Good s) (hb : s 6 = 1) : Ext (rEnds s) := by
  obtain ⟨n, e7, hn, -⟩ := good_n hg hb
  exact ext_ends (ExtN.mono h (by decide)) hb e7 hn
theorem bit_or {x b : Int32} {i : Nat} (hx : bt x i = false) (hb : bt b i = false) : bt (x ||| b) i = false := by rw [bt_or, hx, hb]; rfl
theorem bit_and {x b : Int32} {i : Nat} (hx : bt x i = false) : bt (x &&& b) i = false := by rw [bt_and, hx]; rfl
theorem ext_says {s : Nat → Int32} {t : Nat} {b is : Int32} (h : Ext s) (hg : Good s) (hb : s 6 = 1) (ht : t < 3) (hbi : ∀ i, 28 ≤ i → bt b i = false) : Ext (rSays s t b is) := by
  obtain ⟨n, e7, hn, -⟩ := good_n hg hb
  have o : ∀ j, j ≠ 11 + t → j ≠ 14 + t → rSays2 (rSays1 s t b is) t b is j = s j := fun j h1 h2 => by unfold rSays2 rSays1; rw [upd_ne h2, upd_ne h1]
  refine ext_ends (n := n) ?_ ((o 6 (by omega) (by omega)).trans hb) ((o 7 (by omega) (by omega)).trans e7) hn
  obtain ⟨pu, li, ch, hi, di, n', d, w, ⟨p1, p2, p3, p4, p5⟩, ⟨q1, q2, q3, q4, q5⟩, a1, a2, a3, a4, a5, a6, a7, a8⟩ := h
  refine ⟨pu, li, ch, hi, di, n', d, w, ⟨p1.same fun p hp => o _ (by omega) (by omega), p2.same fun p hp => o _ (by omega) (by omega), p3.same fun p hp => o _ (by omega) (by omega), p4.same fun p hp => o _ (by omega) (by omega), p5.same fun p hp => o _ (by omega) (by omega)⟩, ⟨(o _ (by omega) (by omega)).trans q1, q2, (o _ (by omega) (by omega)).trans q3, (o _ (by omega) (by omega)).trans q4, q5⟩, ?_, a2, a3, a4, by omega, ?_, fun z => ?_, fun p hp i hi => ?_⟩
  · rw [o 17 (by omega) (by omega)]; exact a1
  · rw [o 30 (by omega) (by omega), o 6 (by omega) (by omega)]; exact a6
  · rw [o 17 (by omega) (by omega)]; rw [o 6 (by omega) (by omega)] at z; exact a7 z
  · obtain ⟨b1, b2⟩ := a8 p hp i hi
    by_cases e : p = t
    · subst e
      have v1 : rSays2 (rSays1 s p b is) p b is (11 + p) = if is = 1 then s (11 + p) ||| b else s (11 + p) &&& (b ^^^ -1) := by
        unfold rSays2; rw [upd_ne (by omega)]; exact upd_at _ _ _
      have v2 : rSays2 (rSays1 s p b is) p b is (14 + p) = if is = 0 then s (14 + p) ||| b else s (14 + p) &&& (b ^^^ -1) := by
        unfold rSays2; rw [upd_at]; unfold rSays1; rw [upd_ne (by omega)]
      rw [v1, v2]
      constructor
      · split
        · exact bit_or b1 (hbi i hi)
        · exact bit_and b1
      · split
        · exact bit_or b2 (hbi i hi)
        · exact bit_and b2
    · rw [o _ (by omega) (by omega), o _ (by omega) (by omega)]; exact ⟨b1, b2⟩
theorem pc_or_one {x : Int32} {k : Nat} (hk : k < 32) (h : bt x k = false) : pcN (x ||| one k) = pcN x + 1 := by
  have key : ∀ n, ct (bt (x ||| one k)) n = ct (bt x) n + if k < n then 1 else 0 := by
    intro n
    induction n with
    | zero => rfl
    | succ n ih =>
      have e : bt (x ||| one k) n = (bt x n || decide (n = k)) := by rw [bt_or, bt_one hk]
      unfold ct
      rw [ih, e]
      by_cases q : n = k
      · subst q; rw [h]; simp
      · rw [decide_eq_false q, Bool.or_false]
        by_cases z : k < n
        · rw [if_pos z, if_pos (show k < n + 1 by omega)]; omega
        · rw [if_neg z, if_neg (show ¬ k < n + 1 by omega)]; omega
  have := key 32
  rw [if_pos hk] at this
  exact this
theorem nI_subN {a b : Nat} (h : b ≤ a) : nI a - nI b = nI (a - b) := by
  have e : nI (a - b) + nI b = nI a := by rw [nI_add]; congr 1; omega
  rw [← e, Int32.add_sub_cancel]
theorem nn_of {c : Int32} (h : 0 ≤ c) : ∃ k, k < 2 ^ 31 ∧ c = nI k := nI_of (Int32.not_lt.mpr h)
/-- what is paid goes from one purse to the other -/
theorem pays_ext {s : Nat → Int32} {f t : Nat} {c : Int32} {pu : Nat → Nat} (hf : f < 3) (ht : t < 3) (hne : f ≠ t) (hc : 0 ≤ c) (hpu : NumAt s 8 pu) (hs : S3 pu ≤ 260) : ∃ pu', S3 pu' = S3 pu ∧ NumAt (rPays s f t c) 8 pu' ∧ ∀ k, (k < 8 ∨ 10 < k) → rPays s f t c k = s k := by
  have b1 := S3_ge pu hf
  have b2 := S3_ge pu ht
  have hx : ∃ x, x ≤ pu f ∧ rPaid s f c = nI x := by
    unfold rPaid
    rw [hpu f hf]
    by_cases q : nI (pu f) < c
    · rw [if_pos q]; exact ⟨pu f, Nat.le_refl _, rfl⟩
    · rw [if_neg q]
      obtain ⟨k, hk, rfl⟩ := nn_of hc
      refine ⟨k, ?_, rfl⟩
      apply Classical.byContradiction
      intro z
      exact q ((nI_ltI (by omega) hk).mpr (by omega))
  obtain ⟨x, hx, ex⟩ := hx
  have e1 : upd s (8 + f) (s (8 + f) - rPaid s f c) (8 + t) = s (8 + t) := upd_ne (by omega)
  have vf : rPays s f t c (8 + f) = nI (pu f - x) := by
    unfold rPays rGets
    rw [upd_ne (by omega), upd_at, hpu f hf, ex, nI_subN hx]
  have vt : rPays s f t c (8 + t) = nI (pu t + x) := by
    unfold rPays rGets
    rw [upd_at, e1, hpu t ht, ex, nI_add, if_neg]
    exact fun z => absurd ((nI_ltI (a := 9999) (by decide) (by omega)).mp z) (by omega)
  have vo : ∀ k, k ≠ 8 + f → k ≠ 8 + t → rPays s f t c k = s k := fun k h1 h2 => by unfold rPays rGets; rw [upd_ne h2, upd_ne h1]
  refine ⟨upN (upN pu f (pu f - x)) t (pu t + x), ?_, ?_, fun k hk => vo k (by omega) (by omega)⟩
  · have a1 := S3_up (f := upN pu f (pu f - x)) (v := pu t + x) ht
    have a2 := S3_up (f := pu) (v := pu f - x) hf
    rw [upN_ne (Ne.symm hne)] at a1
    omega
  · intro p hp
    by_cases q : p = t
    · subst q; rw [upN_at]; exact vt
    · rw [upN_ne q]
      by_cases z : p = f
      · subst z; rw [upN_at]; exact vf
      · rw [upN_ne z, vo _ (by omega) (by omega)]; exact hpu p hp
