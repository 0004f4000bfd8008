/-! the pad -/
def SameG (M M2 : SS) : Prop := M2 1 = M 1 ∧ M2 2 = M 2 ∧ M2 3 = M 3 ∧ M2 4 = M 4 ∧ M2 0 2 = M 0 2
theorem SameG.rfl' {M : SS} : SameG M M := ⟨rfl, rfl, rfl, rfl, rfl⟩
theorem SameG.trans {M M2 M3 : SS} (h : SameG M M2) (h2 : SameG M2 M3) : SameG M M3 := ⟨h2.1.trans h.1, h2.2.1.trans h.2.1, h2.2.2.1.trans h.2.2.1, h2.2.2.2.1.trans h.2.2.2.1, h2.2.2.2.2.trans h.2.2.2.2⟩
theorem SameG.inv {M M2 : SS} (h : SameG M M2) (hi : InvM M) : InvM M2 := hi.congr h.1 h.2.1 h.2.2.1 h.2.2.2.1 h.2.2.2.2
theorem upd_self (f : Nat → Int32) (k : Nat) : upd f k (f k) = f := by
  funext j
  by_cases h : j = k
  · subst h; exact upd_at _ _ _
  · exact upd_ne h
theorem RelK.full {S M : SS} (h : Rel S M) : RelK S M := by
  obtain ⟨L, hL⟩ := h.2.2.1
  refine ⟨L, M 5 0, h.ref rfl rfl rfl rfl ?_ rfl hL.2.2.1.symm⟩
  show upd (M 5) 0 (M 5 0) = M 5
  exact upd_self _ _
/-- the pad is empty, its first sign is not known -/
def R0 (S M : SS) : Prop := ∃ x : Int32, Rel S (mPd M 0 (upd (M 5) 0 x))
theorem R0.toK {S M : SS} (h : R0 S M) : RelK S M := by
  obtain ⟨x, h⟩ := h
  exact ⟨0, x, h⟩
theorem len_of {S M : SS} {L : Nat} {P : Nat → Int32} (h : Rel S (mPd M L P)) (hL80 : L < 2 ^ 31) : L ≤ 80 ∧ S 59 1 = nI L ∧ S 60 = P := by
  obtain ⟨L', h1, h2, h3, h4⟩ := h.2.2.1
  have e : L = L' := (nI_eq hL80 (by omega)).mp h3
  subst e
  exact ⟨h1, h2, h4⟩
theorem Rel.pads {S S2 M : SS} {L L2 : Nat} {P P2 : Nat → Int32} (h : Rel S (mPd M L P)) (hS : ∀ k, k < 59 ∨ 60 < k → S2 k = S k) (hL : L2 ≤ 80) (e1 : S2 59 1 = nI L2) (e2 : S2 60 = P2) : Rel S2 (mPd M L2 P2) := h.pad hS rfl rfl rfl rfl rfl ⟨hL, e1, rfl, e2⟩
theorem rk_wipe (l : Launch) {S M : SS} (h : RelK S M) : ∃ (L : Nat) (S2 : SS), L ≤ 80 ∧ CtS l yX6_wipe cX6_wipe 1 (some .int) (rmD 1) [.ref 0] 77 shK S (some (.int (nI L))) S2 ∧ R0 S2 M := by
  obtain ⟨L0, x, h⟩ := h
  obtain ⟨L, hL⟩ := h.2.2.1
  have hC := ct_X6_wipe l S
  rw [hL.2.1] at hC
  exact ⟨L, _, hL.1, hC, x, h.pads (fun k hk => putG_out (by omega)) (by decide) rfl hL.2.2.2⟩
theorem rl_wipe (l : Launch) {S M : SS} {L : Nat} {P : Nat → Int32} (hL : L < 2 ^ 31) (h : Rel S (mPd M L P)) : ∃ S2 : SS, CtS l yX6_wipe cX6_wipe 1 (some .int) (rmD 1) [.ref 0] 77 shK S (some (.int (nI L))) S2 ∧ Rel S2 (mPd M 0 P) := by
  obtain ⟨h1, h2, h3⟩ := len_of h hL
  have hC := ct_X6_wipe l S
  rw [h2] at hC
  exact ⟨_, hC, h.pads (fun k hk => putG_out (by omega)) (by decide) rfl h3⟩
theorem rk_put_bad (l : Launch) {S : SS} {c : Int64} (hc : chI c = -2) : CtS l yX6_put cX6_put 3 (some .int) (rmD 3) [.ref 0, .long c] 77 shK S (some (.int (-2))) S := by
  have hC := ct_X6_put_bad l S c (by rw [hc]; decide)
  rw [hc] at hC
  exact hC
theorem rl_fault (l : Launch) {S M : SS} {L : Nat} {P : Nat → Int32} (hL : L < 2 ^ 31) (h : Rel S (mPd M L P)) : CtS l yX6_fault cX6_fault 1 (some .int) (rmD 4) [.ref 0] 77 shK S (some (.int (fautI P L L 0))) S := by
  obtain ⟨h1, h2, h3⟩ := len_of h hL
  have hC := ct_X6_fault l S h2 h1
  rw [h3] at hC
  exact hC
theorem r0_fault (l : Launch) {S M : SS} (h : R0 S M) : CtS l yX6_fault cX6_fault 1 (some .int) (rmD 4) [.ref 0] 77 shK S (some (.int 0)) S := by
  obtain ⟨x, h⟩ := h
  exact rl_fault l (by decide) h
theorem r0_carry (l : Launch) {S M : SS} (h : R0 S M) : CtS l yX6_carryOut cX6_carryOut 3 (some .int) (rmD 7) [.ref 0] 77 shK S (some (.int (-3))) S := by
  obtain ⟨x, h⟩ := h
  obtain ⟨h1, h2, h3⟩ := len_of h (by decide)
  exact ct_X6_carryOut_bad l S h2 h1 (K := 0) ⟨Nat.le_refl _, by show ¬ (1 : Int32) = 0; decide, Or.inr ⟨rfl, by show ¬ (1 : Int32) = 5; decide⟩⟩ rfl
/-- the first sign -/
theorem r0_put (l : Launch) {c : Int64} (hc : chI c = nI 1) {S M : SS} (h : R0 S M) : ∃ S2 : SS, CtS l yX6_put cX6_put 3 (some .int) (rmD 3) [.ref 0, .long c] 77 shK S (some (.int 1)) S2 ∧ Rel S2 (mPd M 1 (padR (M 5) c 0 1 1)) := by
  obtain ⟨x, h⟩ := h
  obtain ⟨h1, h2, h3⟩ := len_of h (by decide)
  refine ⟨_, ct_X6_put l S c (len := 0) (n := 1) h2 hc (by decide) (by decide) (by decide), h.pads (fun k hk => putG_out (by omega)) (by decide) rfl ?_⟩
  show padR (S 60) c 0 1 1 = _
  rw [h3]
  funext j
  unfold padR putR
  by_cases hj : 0 ≤ j ∧ j < 0 + 1
  · rw [if_pos hj, if_pos hj]
  · rw [if_neg hj, if_neg hj]; exact upd_ne (by omega)
theorem r1_fault (l : Launch) {S M : SS} (h : Rel S (mPd M 1 (padR (M 5) 59 0 1 1))) : CtS l yX6_fault cX6_fault 1 (some .int) (rmD 4) [.ref 0] 77 shK S (some (.int 0)) S := by
  have hC := rl_fault l (by decide) h
  have e : fautI (padR (M 5) 59 0 1 1) 1 1 0 = 0 := by
    have e0 : padR (M 5) 59 0 1 1 0 = 59 := by
      unfold padR putR
      rw [if_pos (by omega)]
      decide +kernel
    have e1 : dS (padR (M 5) 59 0 1 1) 1 = 0 := by
      show dueI 1 (padR (M 5) 59 0 1 1 0) = 0
      rw [e0]; decide
    show (if dS (padR (M 5) 59 0 1 1) (0 + 1) = 0 then nI 0 else _) = 0
    rw [if_pos e1]; rfl
  rw [e] at hC
  exact hC
/-- any sign -/
theorem rl_put (l : Launch) (M : SS) (L : Nat) (P : Nat → Int32) (hL : L < 2 ^ 31) (c : Int64) : ∃ (v : Int32) (L2 : Nat) (P2 : Nat → Int32), L2 < 2 ^ 31 ∧ ∀ S, Rel S (mPd M L P) → ∃ S2, CtS l yX6_put cX6_put 3 (some .int) (rmD 3) [.ref 0, .long c] 77 shK S (some (.int v)) S2 ∧ Rel S2 (mPd M L2 P2) := by
  rcases ch_pu c with ⟨e, hb⟩ | ⟨hn0, hi0, e⟩
  · exact ⟨-2, L, P, hL, fun S h => ⟨S, rk_put_bad l e, h⟩⟩
  · have hn8 := puN_le c 8
    by_cases hm : L + puN c 8 ≤ 80
    · refine ⟨nI (L + puN c 8), L + puN c 8, padR P c L (puN c 8) (puN c 8), by omega, fun S h => ?_⟩
      obtain ⟨h1, h2, h3⟩ := len_of h hL
      refine ⟨_, ct_X6_put l S c h2 e hn0 hn8 hm, h.pads (fun k hk => putG_out (by omega)) hm rfl ?_⟩
      show padR (S 60) c L (puN c 8) (puN c 8) = _
      rw [h3]
    · refine ⟨-4, L, P, hL, fun S h => ⟨S, ?_, h⟩⟩
      obtain ⟨h1, h2, h3⟩ := len_of h hL
      have hm1 : ¬ S 59 1 + chI c ≤ 80 := by
        rw [h2, e, nI_add]; exact nI_ge80 (by omega) (by omega)
      exact ct_X6_put_many l S c (by rw [e]; exact nI_pos (by omega)) hm1
theorem exF_gx (l : Launch) {P : Nat → Int32} {L : Nat} (hL2 : L ≤ 80) (h5 : dS P L = 5) : ∀ m e s c, (e = L + 1 ∨ (e ≤ L ∧ dS P e = 1)) → GX s → GX (exF P L m e s c).1
  | 0, _, _, _, _, hg => hg
  | m + 1, e, s, c, he, hg => by
    unfold exF
    by_cases hlt : e < L
    · rw [if_pos hlt]
      have hd : dS P e = 1 := by
        rcases he with h | h
        · omega
        · exact h.2
      obtain ⟨hok, hK5⟩ := ord_of l hL2 hlt hd h5
      have hKL := hok.1
      by_cases hb : opBar s (P e) (dgO P e) (fiO P e) (seO P e) = 0
      · rw [if_pos hb]
        refine exF_gx l hL2 h5 m _ _ _ ?_ ⟨good_op hg.1 (ord_S hok) hb, extb_op hg.2 hg.1 (ord_S hok) hb⟩
        by_cases q : e + lenO (P e) = L
        · exact Or.inl (by omega)
        · exact Or.inr ⟨by omega, (semi_at h5 hK5 (by omega)).2⟩
      · rw [if_neg hb]; exact hg
    · rw [if_neg hlt]; exact hg
/-- the text is carried out -/
theorem rl_carry (l : Launch) {M : SS} (L : Nat) (P : Nat → Int32) (hL : L < 2 ^ 31) (hi : InvM M) : ∃ (v : Int32) (M2 : SS), InvM M2 ∧ ∀ S, Rel S (mPd M L P) → ∃ S2, CtS l yX6_carryOut cX6_carryOut 3 (some .int) (rmD 7) [.ref 0] 77 shK S (some (.int v)) S2 ∧ RelK S2 M2 := by
  by_cases h80 : L ≤ 80
  · rcases fau_all P L with ⟨h5, e6⟩ | ⟨K, hK, eK⟩
    · have hgx : GX (exF P L (L + 2) 0 (M 1) 0).1 := exF_gx l h80 h5 _ _ _ _ (Or.inr ⟨Nat.zero_le _, rfl⟩) hi.1
      refine ⟨nI (exF P L (L + 2) 0 (M 1) 0).2, mPd (mDone M (exF P L (L + 2) 0 (M 1) 0).1) 0 P, (inv_done hi hgx).congr rfl rfl rfl rfl rfl, fun S h => ?_⟩
      obtain ⟨f, np, hp⟩ := h.2.1
      have en : npM M = np := npM_of hp
      obtain ⟨h1, h2, h3⟩ := len_of h hL
      obtain ⟨S2, a1, a2, a3, hC⟩ := ct_X6_carryOut (s := M 1) l h2 h1 (by rw [h3]; exact h5) (by rw [h3]; exact e6) hp.1 hp.2.1 hp.2.2.1 hp.2.2.2.1 h.1.2 h.1.1
      rw [h3] at a1 hC
      refine ⟨S2, hC, RelK.full ?_⟩
      have hf := hp.1
      refine h.keep hp (M2 := mPd (mDone M (exF P L (L + 2) 0 (M 1) 0).1) 0 P) ⟨a1, hgx.1⟩ ?_ rfl rfl ?_ ((a3 8 (by decide) (by decide)).trans keep_h8) (fun k h1 h2 => (a3 k (by omega) (by omega)).trans (keepK_8 (by omega))) ⟨0, by decide, a2, rfl, ?_⟩ (fun k hk => (a3 k (by omega) (by omega)).trans ((keepK_8 (by omega)).trans (hold_hi hf (by omega))))
      · show rRecP M (npM M) = rRecP M np
        rw [en]
      · show nI (if npM M = 6 then 6 else npM M + 1) = _
        rw [en]
      · rw [a3 60 (by decide) (by decide), keepK_8 (by decide), hold_hi hf (by decide), h3]; rfl
    · refine ⟨-3, mPd M L P, hi.congr rfl rfl rfl rfl rfl, fun S h => ⟨S, ?_, RelK.full h⟩⟩
      obtain ⟨h1, h2, h3⟩ := len_of h hL
      exact ct_X6_carryOut_bad l S h2 h1 (by rw [h3]; exact hK) (by rw [h3]; exact eK)
  · exact ⟨0, M, hi, fun S h => absurd (len_of h hL).1 h80⟩
