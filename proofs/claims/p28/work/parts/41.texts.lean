/-! texts, undo and the slots: alike -/
theorem keep_h8 {S : SS} {f q : Nat} : keepK (holdK S f) f q 8 = keepK S f q 8 := by
  unfold keepK up2; rw [upC_at, upC_at, upC_at, upC_at, hold_1 (by decide)]
theorem flt_one {P : Nat → Int32} {L K K2 : Nat} (h : FltAt P L K) (h2 : FltAt P L K2) : K = K2 := by
  have key : ∀ {A B : Nat}, FltAt P L A → FltAt P L B → ¬ A < B := by
    rintro A B ⟨a1, a2, a3⟩ ⟨b1, b2, b3⟩ hlt
    rcases a3 with ⟨x, y⟩ | ⟨x, y⟩
    · exact b2 (dS_0 y B (by omega))
    · omega
  have k1 := key h h2
  have k2 := key h2 h
  omega
theorem flt_both {P : Nat → Int32} {L : Nat} {v : Int32} (h : FaultV P L v) : fautI P L L 0 = v := by
  rcases fau_all P L with ⟨h5, e⟩ | ⟨K, hK, e⟩
  · rcases h with ⟨-, rfl⟩ | ⟨K2, hK2, -⟩
    · exact e
    · exact absurd hK2 (flt_no h5)
  · rcases h with ⟨h5, -⟩ | ⟨K2, hK2, rfl⟩
    · exact absurd hK (flt_no h5)
    · rw [e, flt_one hK hK2]
theorem exF_good (l : Launch) {P : Nat → Int32} {L : Nat} (hL2 : L ≤ 80) (h5 : dS P L = 5) : ∀ m e s c, (e = L + 1 ∨ (e ≤ L ∧ dS P e = 1)) → Good s → Good (exF P L m e s c).1
  | 0, _, _, _, _, hg => hg
  | m + 1, e, s, c, he, hg => by
    unfold exF
    by_cases hlt : e < L
    · rw [if_pos hlt]
      have hd : dS P e = 1 := by
        rcases he with h | h
        · omega
        · exact h.2
      obtain ⟨hok, hK5⟩ := ord_of l hL2 hlt hd h5
      have hKL := hok.1
      by_cases hb : opBar s (P e) (dgO P e) (fiO P e) (seO P e) = 0
      · rw [if_pos hb]
        refine exF_good l hL2 h5 m _ _ _ ?_ (good_op hg (ord_S hok) hb)
        by_cases q : e + lenO (P e) = L
        · exact Or.inl (by omega)
        · exact Or.inr ⟨by omega, (semi_at h5 hK5 (by omega)).2⟩
      · rw [if_neg hb]; exact hg
    · rw [if_neg hlt]; exact hg
theorem pu_0 {c : Int64} {k : Nat} (h : puI c k = 0) : ∀ j, k ≤ j → puI c j = 0 := by
  intro j hj
  obtain ⟨m, rfl⟩ : ∃ m, j = k + m := ⟨j - k, by omega⟩
  induction m with
  | zero => exact h
  | succ m ih => exact if_neg (fun q => q.1 (ih (by omega)))
theorem pu_end {c : Int64} {k : Nat} (h : ∀ j, k ≤ j → j < 8 → cdL c (nI j) = 0) (hp : ¬ puI c k = 0) : ∀ j, k ≤ j → j ≤ 8 → puN c j = puN c k ∧ ¬ puI c j = 0 := by
  intro j hj hj8
  obtain ⟨m, rfl⟩ : ∃ m, j = k + m := ⟨j - k, by omega⟩
  induction m with
  | zero => exact ⟨rfl, hp⟩
  | succ m ih =>
    obtain ⟨h1, h2⟩ := ih (by omega) (by omega)
    have h0 := h (k + m) (by omega) (by omega)
    constructor
    · show puN c (k + m) + (if cdL c (nI (k + m)) = 0 then 0 else 1) = _
      rw [if_pos h0]; exact h1
    · rw [show puI c (k + (m + 1)) = 1 from (puI_y1 h2 h0).symm]; decide
theorem pu_low {c : Int64} {k : Nat} (hn : puN c k < k) : ∀ j, k ≤ j → puN c j < j := by
  intro j hj
  obtain ⟨m, rfl⟩ : ∃ m, j = k + m := ⟨j - k, by omega⟩
  induction m with
  | zero => exact hn
  | succ m ih =>
    have h := ih (by omega)
    show puN c (k + m) + (if cdL c (nI (k + m)) = 0 then 0 else 1) < k + (m + 1)
    split <;> omega
theorem ch_go (c : Int64) : ∀ n k, n + k = 8 → puN c k = k → ¬ puI c k = 0 → (chG c n k = -2 ∧ (nI (puN c 8) = 0 ∨ puI c 8 = 0)) ∨ (0 < puN c 8 ∧ ¬ puI c 8 = 0 ∧ chG c n k = nI (puN c 8))
  | 0, k, hk, h1, h2 => by
    have hk8 : k = 8 := by omega
    subst hk8
    refine Or.inr ⟨by omega, h2, ?_⟩
    rw [h1]
    show chF c 8 = nI 8
    exact if_neg (fun q => q.elim (fun z => by omega) (fun z => absurd z.1 (by omega)))
  | n + 1, k, hk, h1, h2 => by
    have hk8 : k < 8 := by omega
    by_cases h0 : cdL c (nI k) = 0
    · have e : chG c (n + 1) k = chF c k := if_pos h0
      rw [e]
      by_cases hz : ∀ j, k ≤ j → j < 8 → cdL c (nI j) = 0
      · obtain ⟨a1, a2⟩ := pu_end hz h2 8 (by omega) (Nat.le_refl _)
        rw [h1] at a1
        by_cases hk0 : k = 0
        · exact Or.inl ⟨if_pos (Or.inl hk0), Or.inl (by rw [a1, hk0]; rfl)⟩
        · refine Or.inr ⟨by omega, a2, ?_⟩
          rw [a1]
          exact if_neg (by
            rintro (q | q)
            · exact hk0 q
            · exact q.2 ((shr_0 c hk8).mpr hz))
      · have hs : ¬ lg_cmp (c.toUInt64 >>> ((8 * nI k).toInt64.toUInt64 &&& Int64.toUInt64 63)).toInt64 0 = 0 := fun z => hz ((shr_0 c hk8).mp z)
        refine Or.inl ⟨if_pos (Or.inr ⟨hk8, hs⟩), Or.inr ?_⟩
        have hx : ∃ j, k ≤ j ∧ j < 8 ∧ ¬ cdL c (nI j) = 0 := Classical.byContradiction fun z => hz (fun j y1 y2 => Decidable.byContradiction fun w => z ⟨j, y1, y2, w⟩)
        obtain ⟨j, hj1, hj2, hj3⟩ := hx
        have hlow : puN c (k + 1) < k + 1 := by
          show puN c k + (if cdL c (nI k) = 0 then 0 else 1) < k + 1
          rw [if_pos h0]; omega
        have hjk : k + 1 ≤ j := by
          rcases Nat.lt_or_ge k j with q | q
          · exact q
          · have : j = k := by omega
            rw [this] at hj3; exact absurd h0 hj3
        have hl2 := pu_low hlow j hjk
        exact pu_0 (puI_n3 hj3 (fun z => by have := (nI_eq (by omega) (by omega)).mp z; omega)).symm 8 (by omega)
    · by_cases hb : cdL c (nI k) < 33 ∨ 126 < cdL c (nI k)
      · have e : chG c (n + 1) k = -2 := (if_neg h0).trans (if_pos hb)
        refine Or.inl ⟨e, Or.inr (pu_0 (puI_n2 h0 (fun z => ?_)).symm 8 (by omega))⟩
        rcases hb with q | q
        · exact absurd z.1 (Int32.not_le.mpr q)
        · exact absurd z.2 (Int32.not_le.mpr q)
      · have e : chG c (n + 1) k = chG c n (k + 1) := (if_neg h0).trans (if_neg hb)
        rw [e]
        refine ch_go c n (k + 1) (by omega) ?_ ?_
        · show puN c k + (if cdL c (nI k) = 0 then 0 else 1) = k + 1
          rw [if_neg h0]; omega
        · rw [← puI_y2 h2 ⟨Int32.not_lt.mp (fun q => hb (Or.inl q)), Int32.not_lt.mp (fun q => hb (Or.inr q))⟩ (by rw [h1])]; decide
theorem ch_pu (c : Int64) : (chI c = -2 ∧ (nI (puN c 8) = 0 ∨ puI c 8 = 0)) ∨ (0 < puN c 8 ∧ ¬ puI c 8 = 0 ∧ chI c = nI (puN c 8)) := ch_go c 8 0 rfl rfl (by show ¬ (1 : Int32) = 0; decide)
theorem RelS.hi2 {S S2 M M2 : SS} (h : RelS S M) (e : ∀ k, k < 59 ∨ 60 < k → S2 k = S k) (e3 : M2 3 = M 3) (e4 : M2 4 = M 4) : RelS S2 M2 := h.hi (fun k hk => e k (by omega)) e3 e4
/-- only the pad has changed -/
theorem Rel.pad {S M S2 M2 : SS} {L : Nat} (h : Rel S M) (hS : ∀ k, k < 59 ∨ 60 < k → S2 k = S k) (h1 : M2 1 = M 1) (h2 : M2 2 = M 2) (h3 : M2 3 = M 3) (h4 : M2 4 = M 4) (h02 : M2 0 2 = M 0 2) (hL : RelL S2 M2 L) : Rel S2 M2 := by
  obtain ⟨hV, ⟨f, np, hp⟩, -, hs⟩ := h
  refine ⟨?_, ⟨f, np, hp.1, ?_, hp.2.2.1, ?_, h02.trans hp.2.2.2.2.1, fun j hj => ?_⟩, ⟨L, hL⟩, hs.hi2 hS h3 h4⟩
  · rw [h1]; exact hV.congr (fun i hi => hS _ (by omega))
  · rw [hS 8 (by omega)]; exact hp.2.1
  · rw [hS 8 (by omega)]; exact hp.2.2.2.1
  · rw [h2]
    have h6 := hp.2.2.1
    have hf := hp.1
    exact (hp.2.2.2.2.2 j hj).congr (fun i hi => hS _ (by omega))
theorem nI_ge80 {q : Nat} (h : 80 < q) (h2 : q < 2 ^ 31) : ¬ nI q ≤ 80 := fun z => absurd ((nI_leI (b := 80) h2 (by decide)).mp z) (by omega)
theorem q_01 {q : Int32} (h : q = 0 ∨ q = 1) : ∃ k : Nat, k < 2 ∧ q = nI k := by
  rcases h with rfl | rfl
  · exact ⟨0, by decide, rfl⟩
  · exact ⟨1, by decide, rfl⟩
theorem save_rel {S M : SS} (h : Rel S M) {q : Nat} (hq : q < 2) : Rel (saveK S q) (mSave M q) := by
  obtain ⟨hV, ⟨f, np, hp⟩, ⟨L, hL⟩, hs⟩ := h
  have hA := slA_ge q
  have sk : ∀ k, k < 61 → saveK S q k = S k := by
    intro k hk; unfold saveK up2; rw [upC_ne (by omega)]; exact putG_out (by omega)
  have m3 : ∀ r k, r < 2 → k < 182 → r ≠ q → mSave M q 3 (182 * r + k) = M 3 (182 * r + k) := by
    intro r k hr hk hne
    show putR (M 3) (M 1) (182 * q) 182 (182 * r + k) = _
    exact putR_out (by omega)
  refine ⟨hV.congr (fun i hi => sk _ (by omega)), ⟨f, np, hp.1, ?_, hp.2.2.1, ?_, hp.2.2.2.2.1, fun j hj => ?_⟩, ⟨L, hL.1, ?_, hL.2.2.1, ?_⟩, fun r hr => ?_⟩
  · rw [sk 8 (by decide)]; exact hp.2.1
  · rw [sk 8 (by decide)]; exact hp.2.2.2.1
  · have h6 := hp.2.2.1
    have hf := hp.1
    exact (hp.2.2.2.2.2 j hj).congr (fun i hi => sk _ (by omega))
  · rw [sk 59 (by decide)]; exact hL.2.1
  · rw [sk 60 (by decide)]; exact hL.2.2.2
  · by_cases e : r = q
    · subst e
      refine Or.inr ⟨?_, ?_, (hV.congr (fun i hi => ?_)).congrS (fun k hk => ?_)⟩
      · show ¬ upd (M 4) r 1 r = 0; rw [upd_at]; decide
      · unfold saveK up2; rw [upC_at, upd_at]; decide
      · show saveK S r (slA r + i) = S (1 + i)
        unfold saveK up2; rw [upC_ne (by omega)]; exact putG_in hi
      · show putR (M 3) (M 1) (182 * r) 182 (182 * r + k) = M 1 k
        rw [putR_in (by omega) (by omega)]; exact congrArg (M 1) (by omega)
    · have e4 : mSave M q 4 r = M 4 r := upd_ne e
      have nn : ∀ i, i < 8 → ¬ (slA q ≤ slA r - 1 + i ∧ slA r - 1 + i < slA q + 7) ∧ slA r - 1 + i ≠ slA q - 1 := by
        rcases (show (q = 0 ∧ r = 1) ∨ (q = 1 ∧ r = 0) by omega) with ⟨rfl, rfl⟩ | ⟨rfl, rfl⟩
        · intro i hi
          show ¬ (62 ≤ 70 - 1 + i ∧ 70 - 1 + i < 62 + 7) ∧ 70 - 1 + i ≠ 62 - 1
          omega
        · intro i hi
          show ¬ (70 ≤ 62 - 1 + i ∧ 62 - 1 + i < 70 + 7) ∧ 62 - 1 + i ≠ 70 - 1
          omega
      have s1 : ∀ i, i < 8 → saveK S q (slA r - 1 + i) = S (slA r - 1 + i) := by
        intro i hi
        unfold saveK up2
        rw [upC_ne (nn i hi).2]; exact putG_out (nn i hi).1
      rw [e4, show saveK S q (slA r - 1) = S (slA r - 1) from s1 0 (by decide)]
      rcases hs r hr with h | ⟨h1, h2, h3⟩
      · exact Or.inl h
      · refine Or.inr ⟨h1, h2, (h3.congr (fun i hi => ?_)).congrS (fun k hk => m3 r k hr hk e)⟩
        have hB := slA_ge r
        have := s1 (i + 1) (by omega)
        rw [show slA r - 1 + (i + 1) = slA r + i by omega] at this
        exact this
theorem rest_rel {S M : SS} (h : Rel S M) {f np q : Nat} (hp : RelP S M f np) (hq : q < 2) (hg : VG (gm S (slA q)) (row (M 3) (182 * q))) : Rel (restK S f np q) (mRest M np q) := by
  have hA := slA_ge q
  have hf := hp.1
  obtain ⟨L, hL⟩ := h.2.2.1
  refine h.keep hp ((hg.congr (fun i hi => ?_)).congrS (fun k hk => ?_)) rfl rfl rfl rfl ?_ (fun k h1 h2 => ?_) ⟨L, hL.1, ?_, hL.2.2.1, ?_⟩ (fun k hk => ?_)
  · show putG (keepK (holdK S f) f np) 1 7 (gm S (slA q)) (1 + i) = S (slA q + i)
    exact putG_in hi
  · show putR (M 1) (fun k => M 3 (182 * q + k)) 0 182 k = M 3 (182 * q + k)
    rw [putR_in (by omega) (by omega)]; rfl
  · show putG (keepK (holdK S f) f np) 1 7 (gm S (slA q)) 8 = _
    rw [putG_hi (by decide)]
    unfold keepK up2; rw [upC_at, upC_at, upC_at, upC_at, hold_1 (by decide)]
  · show putG (keepK (holdK S f) f np) 1 7 (gm S (slA q)) k = _
    rw [putG_hi (by omega), keepK_8 (by omega)]
  · show putG (keepK (holdK S f) f np) 1 7 (gm S (slA q)) 59 1 = _
    rw [putG_hi (by decide), keepK_8 (by decide), hold_hi hf (by decide)]; exact hL.2.1
  · show putG (keepK (holdK S f) f np) 1 7 (gm S (slA q)) 60 = _
    rw [putG_hi (by decide), keepK_8 (by decide), hold_hi hf (by decide)]; exact hL.2.2.2
  · show putG (keepK (holdK S f) f np) 1 7 (gm S (slA q)) k = _
    rw [putG_hi (by omega), keepK_8 (by omega), hold_hi hf (by omega)]
