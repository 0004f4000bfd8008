/-! the class against the reference -/
def row (A : Nat → Int32) (o : Nat) : Nat → Int32 := fun k => A (o + k)
def VG (G : SS) (s : Nat → Int32) : Prop := Vs G s ∧ Good s
theorem Good.congrS {s s2 : Nat → Int32} (h : Good s) (e : ∀ k, k < 182 → s2 k = s k) : Good s2 := by
  obtain ⟨n, d, tr, h1, h2, h3, h4, h5, h6, h7, h8, h9, h10, h11, h12⟩ := h
  refine ⟨n, d, tr, (e 7 (by decide)).trans h1, h2, (e 31 (by decide)).trans h3, h4, (e 1 (by decide)).trans h5, h6, fun k hk => ?_, ?_, ?_, ?_, fun p hp => ?_, fun k hk => ?_⟩
  · rw [e (32 + k) (by omega)]; exact h7 k hk
  · rw [e 6 (by decide), e 30 (by decide)]; exact h8
  · rw [e 0 (by decide)]; exact h9
  · rw [e 17 (by decide)]; exact h10
  · rw [e (11 + p) (by omega), e (14 + p) (by omega)]; exact h11 p hp
  · rw [e (2 + k) (by omega)]; exact h12 k hk
theorem VG.congrS {G : SS} {s s2 : Nat → Int32} (h : VG G s) (e : ∀ k, k < 182 → s2 k = s k) : VG G s2 := by
  obtain ⟨⟨⟨h1, h2, h3, h4, h5, h6, h7, h13⟩, hs, ⟨p0, p1, p2⟩, ht, hd⟩, hg⟩ := h
  have hP : ∀ {q : Nat → Int32} {p : Nat}, p < 3 → PlV q s p → PlV q s2 p := by
    intro q p hp hq
    unfold PlV
    rw [e (8 + p) (by omega), e (11 + p) (by omega), e (14 + p) (by omega), e (18 + p) (by omega), e (21 + p) (by omega), e (24 + p) (by omega), e (27 + p) (by omega)]
    exact hq
  have e0 := e 0 (by decide)
  have e1 := e 1 (by decide)
  have e6 := e 6 (by decide)
  have en : nD s2 = nD s := by unfold nD; rw [e 31 (by decide)]
  have hn := (good_d hg).2.1
  refine ⟨⟨⟨h1.trans e0.symm, h2.trans e1.symm, ?_, h4.trans (e 17 (by decide)).symm, h5.trans (rK_congr e0 (e 17 (by decide)) (by rw [e6])).symm, h6.trans (e 7 (by decide)).symm, h7.trans (e 30 (by decide)).symm, h13.trans (e 31 (by decide)).symm⟩, fun k hk => (hs k hk).trans (e _ (by omega)).symm, ⟨hP (by decide) p0, hP (by decide) p1, hP (by decide) p2⟩, fun p hp => ?_, fun k hk => (hd k hk).trans (e _ (by omega)).symm⟩, hg.congrS e⟩
  · rw [e6]; exact h3
  · rw [ht p hp, en, tolN_congr p e0 e1 _ (fun k hk => e _ (by omega))]
theorem VG.congr {G H : SS} {s : Nat → Int32} (h : VG G s) (e : ∀ i, i < 7 → H i = G i) : VG H s := ⟨h.1.congr e, h.2⟩
def RelP (S M : SS) (f np : Nat) : Prop := f < 7 ∧ S 8 1 = nI f ∧ np ≤ 6 ∧ S 8 2 = nI np ∧ M 0 2 = nI np ∧ ∀ j, j < np → VG (gm S (10 + 7 * ((f + 7 - np + j) % 7))) (row (M 2) (182 * j))
def RelL (S M : SS) (L : Nat) : Prop := L ≤ 80 ∧ S 59 1 = nI L ∧ M 0 6 = nI L ∧ S 60 = M 5
def RelS (S M : SS) : Prop := ∀ q, q < 2 → (M 4 q = 0 ∧ S (slA q - 1) 1 = 0) ∨ (¬ M 4 q = 0 ∧ ¬ S (slA q - 1) 1 = 0 ∧ VG (gm S (slA q)) (row (M 3) (182 * q)))
def Rel (S M : SS) : Prop := VG (gm S 1) (M 1) ∧ (∃ f np, RelP S M f np) ∧ (∃ L, RelL S M L) ∧ RelS S M
/-- the reference's other cells do not count -/
theorem Rel.ref {S M M2 : SS} (h : Rel S M) (e1 : M2 1 = M 1) (e2 : M2 2 = M 2) (e3 : M2 3 = M 3) (e4 : M2 4 = M 4) (e5 : M2 5 = M 5) (e02 : M2 0 2 = M 0 2) (e06 : M2 0 6 = M 0 6) : Rel S M2 := by
  unfold Rel RelP RelL RelS at *
  rw [e1, e2, e3, e4, e5, e02, e06]
  exact h
theorem slA_ge (q : Nat) : 62 ≤ slA q ∧ slA q ≤ 70 := by unfold slA; split <;> omega
theorem RelS.hi {S S2 M M2 : SS} (h : RelS S M) (e : ∀ k, 61 ≤ k → S2 k = S k) (e3 : M2 3 = M 3) (e4 : M2 4 = M 4) : RelS S2 M2 := by
  intro q hq
  have h1 := slA_ge q
  rw [e3, e4, e _ (by omega)]
  rcases h q hq with h | ⟨h, h2, h3⟩
  · exact Or.inl h
  · exact Or.inr ⟨h, h2, h3.congr (fun i _ => e _ (by omega))⟩
theorem hold_hi {S : SS} {f k : Nat} (hf : f < 7) (hk : 59 ≤ k) : holdK S f k = S k := putG_out (by omega)
theorem hold_f {S : SS} {f i : Nat} (hi : i < 7) : holdK S f (10 + 7 * f + i) = S (1 + i) := putG_in hi
theorem hold_c {S : SS} {f c i : Nat} (hc : c ≠ f) (hi : i < 7) : holdK S f (10 + 7 * c + i) = S (10 + 7 * c + i) := putG_out (by omega)
/-- a change that fails -/
theorem Rel.drop {S M G2 : SS} {f np : Nat} (h : Rel S M) (hp : RelP S M f np) (hG : VG G2 (M 1)) : Rel (putG (holdK S f) 1 7 G2) M := by
  obtain ⟨-, -, ⟨L, hL⟩, hS⟩ := h
  have hf := hp.1
  refine ⟨hG.congr gm_put, ⟨f, np, hp.1, by rw [goK_8]; exact hp.2.1, hp.2.2.1, by rw [goK_8]; exact hp.2.2.2.1, hp.2.2.2.2.1, fun j hj => ?_⟩, ⟨L, hL.1, ?_, hL.2.2.1, ?_⟩, hS.hi (fun k hk => by rw [putG_hi (by omega), hold_hi hf (by omega)]) rfl rfl⟩
  · refine (hp.2.2.2.2.2 j hj).congr (fun i hi => ?_)
    have h6 := hp.2.2.1
    show putG (holdK S f) 1 7 G2 (10 + 7 * ((f + 7 - np + j) % 7) + i) = _
    rw [putG_hi (by omega), hold_c (by omega) hi]
  · rw [putG_hi (by decide), hold_hi hf (by decide)]; exact hL.2.1
  · rw [putG_hi (by decide), hold_hi hf (by decide)]; exact hL.2.2.2
theorem recP_lo {M : SS} {np j k : Nat} (h : np < 6) (hj : j < np) (hk : k < 182) : rRecP M np (182 * j + k) = M 2 (182 * j + k) := by
  unfold rRecP putR; rw [if_neg (by omega), if_neg (by omega)]
theorem recP_at {M : SS} {np k : Nat} (h : np < 6) (hk : k < 182) : rRecP M np (182 * np + k) = M 1 k := by
  unfold rRecP putR; rw [if_neg (by omega), if_pos (by omega)]; exact congrArg (M 1) (by omega)
theorem recP_6 {M : SS} {j k : Nat} (hj : j < 5) (hk : k < 182) : rRecP M 6 (182 * j + k) = M 2 (182 * (j + 1) + k) := by
  unfold rRecP putR
  rw [if_pos rfl, if_neg (by omega), if_pos (by omega)]
  exact congrArg (M 2) (by omega)
theorem recP_65 {M : SS} {k : Nat} (hk : k < 182) : rRecP M 6 (182 * 5 + k) = M 1 k := by
  unfold rRecP putR
  rw [if_pos rfl, if_pos (by omega)]
  exact congrArg (M 1) (by omega)
/-- the past behind a change: S2 is S, its past has the game of before, its free place has moved on -/
theorem Rel.keep {S S2 M M2 : SS} {f np : Nat} (h : Rel S M) (hp : RelP S M f np) (hG : VG (gm S2 1) (M2 1)) (e2 : M2 2 = rRecP M np) (e3 : M2 3 = M 3) (e4 : M2 4 = M 4) (e02 : M2 0 2 = nI (if np = 6 then 6 else np + 1))
    (k8 : S2 8 = keepK S f np 8) (kc : ∀ k, 10 ≤ k → k < 59 → S2 k = holdK S f k) (hL : ∃ L, RelL S2 M2 L) (k61 : ∀ k, 61 ≤ k → S2 k = S k) : Rel S2 M2 := by
  obtain ⟨hV, -, -, hS⟩ := h
  obtain ⟨hf, hF, h6, hQ, hM, hc⟩ := hp
  refine ⟨hG, ⟨(f + 1) % 7, min (np + 1) 6, Nat.mod_lt _ (by decide), ?_, by omega, ?_, ?_, fun j hj => ?_⟩, hL, hS.hi k61 e3 e4⟩
  · rw [k8]; unfold keepK up2; rw [upC_at, upd_ne (by decide), upC_at]; exact upd_at _ _ _
  · rw [k8]; unfold keepK up2; rw [upC_at]; exact upd_at _ _ _
  · rw [e02]; congr 1; split <;> omega
  · have top : ∀ c, c = f → (∀ k, k < 182 → M2 2 (182 * j + k) = M 1 k) → VG (gm S2 (10 + 7 * c)) (row (M2 2) (182 * j)) := by
      intro c hc e
      subst hc
      exact (hV.congr (fun i hi => by show S2 (10 + 7 * c + i) = S (1 + i); rw [kc _ (by omega) (by omega), hold_f hi])).congrS e
    have old : ∀ c i, c ≠ f → c < 7 → i < np → c = (f + 7 - np + i) % 7 → (∀ k, k < 182 → M2 2 (182 * j + k) = M 2 (182 * i + k)) → VG (gm S2 (10 + 7 * c)) (row (M2 2) (182 * j)) := by
      intro c i h1 h2 hi e0 e
      have hh := hc i hi
      rw [← e0] at hh
      exact (hh.congr (fun z hz => by show S2 (10 + 7 * c + z) = S (10 + 7 * c + z); rw [kc _ (by omega) (by omega), hold_c h1 hz])).congrS e
    rw [e2] at *
    by_cases h : np = 6
    · subst h
      by_cases hj5 : j = 5
      · subst hj5
        exact top _ (by omega) (fun k hk => recP_65 hk)
      · exact old _ (j + 1) (by omega) (by omega) (by omega) (by omega) (fun k hk => recP_6 (by omega) hk)
    · by_cases hjn : j = np
      · subst hjn
        exact top _ (by omega) (fun k hk => recP_at (by omega) hk)
      · exact old _ j (by omega) (by omega) (by omega) (by omega) (fun k hk => recP_lo (by omega) (by omega) hk)
