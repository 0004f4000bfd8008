/-! a game of the class against a row of the reference -/
def tolN (s : Nat → Int32) (p : Nat) : Nat → Int32
  | 0 => -6
  | k + 1 => if s (32 + k) = nI p then distI (s 0) (nI p) (s 1) else tolN s p k
def PlV (q s : Nat → Int32) (p : Nat) : Prop := q 0 = s (8 + p) ∧ q 1 = s (11 + p) ∧ q 2 = s (14 + p) ∧ q 3 = s (18 + p) ∧ q 4 = s (21 + p) ∧ q 5 = s (24 + p) ∧ q 6 = s (27 + p)
def Vs0 (c s : Nat → Int32) : Prop := c 1 = s 0 ∧ c 2 = s 1 ∧ c 3 = (if 0 < s 6 then 1 else 0) ∧ c 4 = s 17 ∧ c 5 = rK s ∧ c 6 = s 7 ∧ c 7 = s 30 ∧ c 13 = s 31
def Vs (G : SS) (s : Nat → Int32) : Prop := Vs0 (G 0) s ∧ (∀ k, k < 4 → G 1 k = s (2 + k)) ∧ (PlV (G 2) s 0 ∧ PlV (G 3) s 1 ∧ PlV (G 4) s 2) ∧ (∀ p, p < 8 → G 5 p = tolN s p (nD s)) ∧ ∀ k, k < 150 → G 6 k = s (32 + k)
theorem Vs.congr {G H : SS} {s : Nat → Int32} (h : Vs G s) (e : ∀ i, i < 7 → H i = G i) : Vs H s := by
  unfold Vs
  rw [e 0 (by decide), e 1 (by decide), e 2 (by decide), e 3 (by decide), e 4 (by decide), e 5 (by decide), e 6 (by decide)]
  exact h
theorem Vs.pl {G : SS} {s : Nat → Int32} (h : Vs G s) {p : Nat} (hp : p < 3) : PlV (G (2 + p)) s p := by
  rcases (show p = 0 ∨ p = 1 ∨ p = 2 by omega) with rfl | rfl | rfl
  · exact h.2.2.1.1
  · exact h.2.2.1.2.1
  · exact h.2.2.1.2.2
theorem tolN_congr {s s2 : Nat → Int32} (p : Nat) (e0 : s2 0 = s 0) (e1 : s2 1 = s 1) : ∀ d, (∀ k, k < d → s2 (32 + k) = s (32 + k)) → tolN s2 p d = tolN s p d
  | 0, _ => rfl
  | d + 1, ek => by
    unfold tolN
    rw [ek d (by omega), e0, e1, tolN_congr p e0 e1 d (fun k hk => ek k (by omega))]
theorem rK_congr {s s2 : Nat → Int32} (e0 : s2 0 = s 0) (e17 : s2 17 = s 17) (e6 : 0 < s2 6 ↔ 0 < s 6) : rK s2 = rK s := by
  unfold rK rKn; rw [e0, e17]
  by_cases h : 0 < s 6
  · rw [if_pos h, if_pos (e6.mpr h)]
  · rw [if_neg h, if_neg (fun q => h (e6.mp q))]
theorem rK_0 {s : Nat → Int32} (h : ¬ 0 < s 6) : rK s = 0 := if_neg h
theorem Vs.stage {G : SS} {s : Nat → Int32} (h : Vs G s) (hg : Good s) : stI G = s 6 := by
  obtain ⟨⟨-, -, h3, -, -, h6, h7, -⟩, -⟩ := h
  obtain ⟨n, d, tr, e7, hn, -, -, -, -, -, hs, -⟩ := hg
  unfold stI
  rw [h3, h6, h7, e7]
  rcases hs with ⟨a, b, rfl⟩ | ⟨a, b, c⟩ | ⟨a, b⟩
  · rw [a]; rfl
  · rw [a, if_pos (show (0 : Int32) < 1 by decide), if_neg (by decide), if_pos ⟨b, Int32.not_le.mp (nI_ge (b := 150) c (by decide))⟩]
  · rw [a, if_pos (show (0 : Int32) < 2 by decide), if_neg (by decide), if_neg]
    rintro ⟨q1, q2⟩
    rcases b with b | rfl
    · exact b q1
    · exact absurd q2 (by decide)
theorem Vs.began {G : SS} {s : Nat → Int32} (h : Vs G s) : (G 0 3 = 0 ↔ ¬ 0 < s 6) ∧ (G 0 3 = 0 ∨ G 0 3 = 1) := by
  rw [h.1.2.2.1]
  by_cases q : 0 < s 6
  · rw [if_pos q]; exact ⟨⟨fun z => absurd z (by decide), fun z => absurd q z⟩, Or.inr rfl⟩
  · rw [if_neg q]; exact ⟨⟨fun _ => q, fun _ => rfl⟩, Or.inl rfl⟩
theorem Vs.turn {G : SS} {s : Nat → Int32} (h : Vs G s) (hg : Good s) : rem3 (G 0 6) = nI (nT s) := by rw [h.1.2.2.2.2.2.1]; exact (good_t hg).1
theorem good_0 {s : Nat → Int32} (hg : Good s) (h : ¬ 0 < s 6) : nD s = 0 ∧ s 6 = 0 := by
  obtain ⟨n, d, tr, e7, hn, e31, hd, -, -, -, hs, -⟩ := hg
  rcases hs with ⟨a, b, rfl⟩ | ⟨a, b, c⟩ | ⟨a, b⟩
  · refine ⟨?_, a⟩
    unfold nD; rw [e31, nI_clamp (by omega)]; omega
  · rw [a] at h; exact absurd (by decide) h
  · rw [a] at h; exact absurd (by decide) h
/-- a step that leaves the roads, the treasure, what is revealed and the diggings -/
theorem Vs.step {G G2 : SS} {s s2 : Nat → Int32} (h : Vs G s) (e0 : s2 0 = s 0) (e1 : s2 1 = s 1) (e17 : s2 17 = s 17) (e6 : 0 < s2 6 ↔ 0 < s 6) (e31 : s2 31 = s 31) (ek : ∀ k, s2 (32 + k) = s (32 + k))
    (c1 : G2 0 1 = G 0 1) (c2 : G2 0 2 = G 0 2) (c3 : G2 0 3 = G 0 3) (c4 : G2 0 4 = G 0 4) (c5 : G2 0 5 = G 0 5) (c6 : G2 0 6 = s2 7) (c7 : G2 0 7 = s2 30) (c13 : G2 0 13 = G 0 13)
    (a1 : ∀ k, k < 4 → G2 1 k = s2 (2 + k)) (p0 : PlV (G2 2) s2 0) (p1 : PlV (G2 3) s2 1) (p2 : PlV (G2 4) s2 2) (a5 : G2 5 = G 5) (a6 : G2 6 = G 6) : Vs G2 s2 := by
  obtain ⟨⟨h1, h2, h3, h4, h5, h6, h7, h13⟩, -, -, ht, hd⟩ := h
  have en : nD s2 = nD s := by unfold nD; rw [e31]
  refine ⟨⟨c1.trans (h1.trans e0.symm), c2.trans (h2.trans e1.symm), c3.trans (h3.trans ?_), c4.trans (h4.trans e17.symm), c5.trans (h5.trans (rK_congr e0 e17 e6).symm), c6, c7, c13.trans (h13.trans e31.symm)⟩, a1, ⟨p0, p1, p2⟩, fun p hp => ?_, fun k hk => ?_⟩
  · by_cases q : 0 < s 6
    · rw [if_pos q, if_pos (e6.mpr q)]
    · rw [if_neg q, if_neg (fun z => q (e6.mp z))]
  · rw [a5, ht p hp, en, tolN_congr p e0 e1 _ (fun k _ => ek k)]
  · rw [a6, hd k hk, ek k]
theorem sel (k : Nat) (s : Nat → Int32) (j : Nat) (v : Int32) (h : j ≠ 32 + k) : upd s j v (32 + k) = s (32 + k) := upd_ne (Ne.symm h)
/-- roads -/
theorem sim_road {G : SS} {s : Nat → Int32} (h : Vs G s) (hg : Good s) {a b : Int32} (hw : wrE a b = 0) (hb : ¬ 0 < s 6) : lyV G a b = pcI (s 0 ^^^ bitE a b) ∧ Vs (lyS G a b) (rLays s a b) := by
  have h3 := h.began.1.mpr hb
  obtain ⟨⟨h1, h2, h3', h4, h5, h6, h7, h13⟩, hs, hp, ht, hd⟩ := h
  obtain ⟨hD, -⟩ := good_0 hg hb
  refine ⟨by unfold lyV; rw [if_pos hw, if_pos h3, h1], ?_⟩
  have e : lyS G a b = up2 G 0 1 (G 0 1 ^^^ bitE a b) := if_pos ⟨hw, h3⟩
  rw [e]
  refine ⟨⟨?_, h2, h3', h4, ?_, h6, h7, h13⟩, fun k hk => (hs k hk).trans (upd_ne (by omega)).symm, hp, fun p hp => ?_, fun k hk => (hd k hk).trans (upd_ne (by omega)).symm⟩
  · show G 0 1 ^^^ bitE a b = s 0 ^^^ bitE a b; rw [h1]
  · show G 0 5 = rK (rLays s a b); rw [h5, rK_0 hb, rK_0 (s := rLays s a b) hb]
  · show G 5 p = tolN (rLays s a b) p (nD s)
    rw [ht p hp, hD]; rfl
theorem sim_treasure {G : SS} {s : Nat → Int32} (h : Vs G s) (hg : Good s) {a : Int32} (ha : 0 ≤ a ∧ a < 8) (hb : ¬ 0 < s 6) : trV G a = s 1 ∧ Vs (trS G a) (upd s 1 a) := by
  have h3 := h.began.1.mpr hb
  obtain ⟨⟨h1, h2, h3', h4, h5, h6, h7, h13⟩, hs, hp, ht, hd⟩ := h
  obtain ⟨hD, -⟩ := good_0 hg hb
  refine ⟨by unfold trV; rw [if_pos ha, if_pos h3, h2], ?_⟩
  have e : trS G a = up2 G 0 2 a := if_pos ⟨ha, h3⟩
  rw [e]
  refine ⟨⟨h1, rfl, h3', h4, ?_, h6, h7, h13⟩, fun k hk => (hs k hk).trans (upd_ne (by omega)).symm, hp, fun p hp => ?_, fun k hk => (hd k hk).trans (upd_ne (by omega)).symm⟩
  · show G 0 5 = rK (upd s 1 a); rw [h5, rK_0 hb, rK_0 (s := upd s 1 a) hb]
  · show G 5 p = tolN (upd s 1 a) p (nD s)
    rw [ht p hp, hD]; rfl
theorem sim_begin {G : SS} {s : Nat → Int32} (h : Vs G s) (hg : Good s) (hb : ¬ 0 < s 6) : bgV G = pcI (rKn (upd s 6 1) (s 17)) ∧ Vs (bgS G) (upd s 6 1) := by
  have h3 := h.began.1.mpr hb
  obtain ⟨⟨h1, h2, h3', h4, h5, h6, h7, h13⟩, hs, hp, ht, hd⟩ := h
  obtain ⟨hD, -⟩ := good_0 hg hb
  have ek : rKn (upd s 6 1) (s 17) = KK (s 0) (s 17) := if_pos (show (0 : Int32) < 1 by decide)
  refine ⟨by unfold bgV; rw [if_pos h3, ek, h1, h4], ?_⟩
  have e : bgS G = up2 (up2 G 0 3 1) 0 5 (KK (G 0 1) (G 0 4)) := if_pos h3
  rw [e]
  refine ⟨⟨h1, h2, rfl, h4, ?_, h6, h7, h13⟩, fun k hk => (hs k hk).trans (upd_ne (by omega)).symm, hp, fun p hp => ?_, fun k hk => (hd k hk).trans (upd_ne (by omega)).symm⟩
  · show KK (G 0 1) (G 0 4) = rKn (upd s 6 1) (s 17); rw [ek, h1, h4]
  · show G 5 p = tolN (upd s 6 1) p (nD s)
    rw [ht p hp, hD]; rfl
theorem sim_set {G : SS} {s : Nat → Int32} (h : Vs G s) {k : Nat} (hk : k < 4) (v : Int32) : Vs (up2 G 1 k v) (upd s (2 + k) v) := by
  refine h.step ?_ ?_ ?_ ?_ ?_ (fun j => sel j s (2 + k) v (by omega)) rfl rfl rfl rfl rfl ?_ ?_ rfl (fun j hj => ?_) ?_ ?_ ?_ rfl rfl
  · exact upd_ne (by omega)
  · exact upd_ne (by omega)
  · exact upd_ne (by omega)
  · rw [upd_ne (show 6 ≠ 2 + k by omega)]
  · exact upd_ne (by omega)
  · rw [upd_ne (show 7 ≠ 2 + k by omega)]; exact h.1.2.2.2.2.2.1
  · rw [upd_ne (show 30 ≠ 2 + k by omega)]; exact h.1.2.2.2.2.2.2.1
  · show upd (G 1) k v j = upd s (2 + k) v (2 + j)
    unfold upd
    by_cases e : j = k
    · rw [if_pos e, if_pos (by omega)]
    · rw [if_neg e, if_neg (by omega), h.2.1 j hj]
  all_goals
    unfold PlV
    iterate 7 rw [upd_ne (by omega)]
  · exact h.2.2.1.1
  · exact h.2.2.1.2.1
  · exact h.2.2.1.2.2
theorem ends_6 {s : Nat → Int32} (h : s 6 = 1) : 0 < rEnds s 6 := by
  show 0 < (if s 7 + 1 = 150 then 2 else s 6)
  split
  · decide
  · rw [h]; decide
theorem sim_pass {G : SS} {s : Nat → Int32} (h : Vs G s) (hg : Good s) (hb : s 6 = 1) : psV G = rem3 (rEnds s 7) ∧ Vs (psS G) (rEnds s) := by
  have hst : stI G = 1 := (h.stage hg).trans hb
  have h6 := h.1.2.2.2.2.2.1
  refine ⟨by unfold psV; rw [if_pos hst, h6]; rfl, ?_⟩
  have e : psS G = up2 G 0 6 (G 0 6 + 1) := if_pos hst
  rw [e]
  refine h.step rfl rfl rfl ⟨fun _ => by rw [hb]; decide, fun _ => ends_6 hb⟩ rfl (fun k => ?_) rfl rfl rfl rfl rfl ?_ h.1.2.2.2.2.2.2.1 rfl (fun k hk => (h.2.1 k hk).trans (by unfold rEnds; rw [upd_ne (by omega), upd_ne (by omega)])) h.2.2.1.1 h.2.2.1.2.1 h.2.2.1.2.2 rfl rfl
  · unfold rEnds; rw [sel _ _ _ _ (by omega), sel _ _ _ _ (by omega)]
  · show G 0 6 + 1 = s 7 + 1; rw [h6]
theorem says_o {s : Nat → Int32} {t : Nat} {b is : Int32} {j : Nat} (h7 : j ≠ 7) (h6 : j ≠ 6) (h11 : j ≠ 11 + t) (h14 : j ≠ 14 + t) : rSays s t b is j = s j := by
  unfold rSays rEnds rSays2 rSays1
  rw [upd_ne h6, upd_ne h7, upd_ne h14, upd_ne h11]
theorem says_7 {s : Nat → Int32} {t : Nat} {b is : Int32} (h3 : t < 3) : rSays s t b is 7 = s 7 + 1 := by
  show rSays2 (rSays1 s t b is) t b is 7 + 1 = s 7 + 1
  unfold rSays2 rSays1
  rw [upd_ne (by omega), upd_ne (by omega)]
theorem says_11 {s : Nat → Int32} {t : Nat} {b is : Int32} (h3 : t < 3) : rSays s t b is (11 + t) = if is = 1 then s (11 + t) ||| b else s (11 + t) &&& (b ^^^ -1) := by
  unfold rSays rEnds rSays2
  rw [upd_ne (by omega), upd_ne (by omega), upd_ne (by omega)]
  exact upd_at _ _ _
theorem says_14 {s : Nat → Int32} {t : Nat} {b is : Int32} (h3 : t < 3) : rSays s t b is (14 + t) = if is = 0 then s (14 + t) ||| b else s (14 + t) &&& (b ^^^ -1) := by
  unfold rSays rEnds rSays2
  rw [upd_ne (by omega), upd_ne (by omega), upd_at]
  unfold rSays1
  rw [upd_ne (by omega)]
theorem sayF_1 {q : Nat → Int32} {b is : Int32} (hi : is = 0 ∨ is = 1) : sayF q b (if is = 1 then 1 else 0) 1 = if is = 1 then q 1 ||| b else q 1 &&& (b ^^^ -1) := by
  rcases hi with rfl | rfl <;> rfl
theorem sayF_2 {q : Nat → Int32} {b is : Int32} (hi : is = 0 ∨ is = 1) : sayF q b (if is = 1 then 1 else 0) 2 = if is = 0 then q 2 ||| b else q 2 &&& (b ^^^ -1) := by
  rcases hi with rfl | rfl <;> rfl
theorem sim_claim {G : SS} {s : Nat → Int32} (h : Vs G s) (hg : Good s) (hb : s 6 = 1) {is : Int32} (hi : is = 0 ∨ is = 1) (b : Int32) {t : Nat} (h3 : t < 3) : mkV G t b is = rClaims (rSays s t b is) t ∧ Vs (mkS G t b is) (rSays s t b is) := by
  have hpl := h.pl h3
  have g6 : 0 < rSays s t b is 6 := by
    have e : rSays2 (rSays1 s t b is) t b is 6 = 1 := by unfold rSays2 rSays1; rw [upd_ne (by omega), upd_ne (by omega)]; exact hb
    exact ends_6 e
  have PL : ∀ p, p < 3 → PlV (mkS G t b is (2 + p)) (rSays s t b is) p := by
    intro p hp
    have hq := h.pl hp
    by_cases e : p = t
    · subst e
      have em : mkS G p b is (2 + p) = sayF (G (2 + p)) b (if is = 1 then 1 else 0) := by unfold mkS up2; rw [upC_ne (by omega), upC_at]
      rw [em]
      unfold PlV
      rw [sayF_1 hi, sayF_2 hi, says_11 hp, says_14 hp, says_o (by omega) (by omega) (by omega) (by omega), says_o (by omega) (by omega) (by omega) (by omega), says_o (by omega) (by omega) (by omega) (by omega), says_o (by omega) (by omega) (by omega) (by omega), says_o (by omega) (by omega) (by omega) (by omega), hq.2.1, hq.2.2.1]
      exact ⟨hq.1, rfl, rfl, hq.2.2.2⟩
    · have em : mkS G t b is (2 + p) = G (2 + p) := by unfold mkS up2; rw [upC_ne (by omega), upC_ne (by omega)]
      rw [em]
      unfold PlV
      rw [says_o (by omega) (by omega) (by omega) (by omega), says_o (by omega) (by omega) (by omega) (by omega), says_o (by omega) (by omega) (by omega) (by omega), says_o (by omega) (by omega) (by omega) (by omega), says_o (by omega) (by omega) (by omega) (by omega), says_o (by omega) (by omega) (by omega) (by omega), says_o (by omega) (by omega) (by omega) (by omega)]
      exact hq
  have m0 : mkS G t b is 0 = upd (G 0) 6 (G 0 6 + 1) := by unfold mkS up2; rw [upC_at, upC_ne (by omega)]
  have mj : ∀ j, j ≠ 0 → j ≠ 2 + t → mkS G t b is j = G j := fun j h1 h2 => by unfold mkS up2; rw [upC_ne h1, upC_ne h2]
  constructor
  · unfold mkV rClaims
    rw [sayF_1 hi, sayF_2 hi, says_11 h3, says_14 h3, hpl.2.1, hpl.2.2.1]
  · refine h.step (says_o (by omega) (by omega) (by omega) (by omega)) (says_o (by omega) (by omega) (by omega) (by omega)) (says_o (by omega) (by omega) (by omega) (by omega)) ⟨fun _ => by rw [hb]; decide, fun _ => g6⟩ (says_o (by omega) (by omega) (by omega) (by omega)) (fun k => says_o (by omega) (by omega) (by omega) (by omega)) ?_ ?_ ?_ ?_ ?_ ?_ ?_ ?_ (fun k hk => ?_) (PL 0 (by decide)) (PL 1 (by decide)) (PL 2 (by decide)) (mj 5 (by decide) (by omega)) (mj 6 (by decide) (by omega))
    · rw [m0]; rfl
    · rw [m0]; rfl
    · rw [m0]; rfl
    · rw [m0]; rfl
    · rw [m0]; rfl
    · rw [m0, says_7 h3]; show G 0 6 + 1 = s 7 + 1; rw [h.1.2.2.2.2.2.1]
    · rw [m0, says_o (by omega) (by omega) (by omega) (by omega)]; exact h.1.2.2.2.2.2.2.1
    · rw [m0]; rfl
    · rw [mj 1 (by decide) (by omega), says_o (by omega) (by omega) (by omega) (by omega)]; exact h.2.1 k hk
