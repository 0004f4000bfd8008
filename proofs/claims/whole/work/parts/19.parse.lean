/-! orders in a text: P the signs, L how many; k where an order begins -/
def lenO (g : Int32) : Nat := if g = 99 then 4 else if g = 114 ∨ g = 43 ∨ g = 45 then 3 else if g = 116 ∨ g = 100 then 2 else 1
def plS (c : Int32) : Prop := 97 ≤ c ∧ c ≤ 104
def dgS (c : Int32) : Prop := 48 ≤ c ∧ c ≤ 57
def dgO (P : Nat → Int32) (k : Nat) : Int32 := if P k = 99 then P (k + 1) - 48 else 0
def fiO (P : Nat → Int32) (k : Nat) : Int32 := if P k = 99 then P (k + 2) - 97 else if P k = 98 ∨ P k = 112 then 0 else P (k + 1) - 97
def seO (P : Nat → Int32) (k : Nat) : Int32 := if P k = 99 then P (k + 3) - 97 else if P k = 114 ∨ P k = 43 ∨ P k = 45 then P (k + 2) - 97 else 0
/-- an order stands at k, and it ends within the text -/
def OrdOK (P : Nat → Int32) (L k : Nat) : Prop := k + lenO (P k) ≤ L ∧ ((P k = 99 ∧ dgS (P (k + 1)) ∧ plS (P (k + 2)) ∧ plS (P (k + 3))) ∨ ((P k = 114 ∨ P k = 43 ∨ P k = 45) ∧ plS (P (k + 1)) ∧ plS (P (k + 2))) ∨ ((P k = 116 ∨ P k = 100) ∧ plS (P (k + 1))) ∨ (P k = 98 ∨ P k = 112))
/-! the reading of a text sign by sign -/
def ltrI (s : Int32) : Int32 := if s = 114 ∨ s = 43 ∨ s = 45 then 3 else if s = 116 ∨ s = 100 then 4 else if s = 99 then 2 else if s = 98 ∨ s = 112 then 5 else 0
def dueI (d s : Int32) : Int32 := if d = 1 then ltrI s else if d = 2 then (if 48 ≤ s ∧ s ≤ 57 then 3 else 0) else if d = 3 then (if 97 ≤ s ∧ s ≤ 104 then 4 else 0) else if d = 4 then (if 97 ≤ s ∧ s ≤ 104 then 5 else 0) else if d = 5 then (if s = 59 then 1 else 0) else 0
def dS (P : Nat → Int32) : Nat → Int32
  | 0 => 1
  | k + 1 => dueI (dS P k) (P k)
/-- the reading goes well up to K, and there it fails, or the text ends too early -/
def FltAt (P : Nat → Int32) (L K : Nat) : Prop := K ≤ L ∧ ¬ dS P K = 0 ∧ ((K < L ∧ dS P (K + 1) = 0) ∨ (K = L ∧ ¬ dS P L = 5))
theorem it_lt {P : Nat → Int32} {L k : Nat} (h : k < L) : itI P L k = P k := if_pos h
theorem it_ge {P : Nat → Int32} {L k : Nat} (h : ¬ k < L) : itI P L k = 0 := if_neg h
theorem wk0 (k : Nat) : wiK k 0 = k + 1 := if_pos rfl
theorem wk1 (k : Nat) : wiK k 1 = k := if_neg (by decide)
theorem d1 (s : Int32) : dueI 1 s = ltrI s := if_pos rfl
theorem d2 (s : Int32) : dueI 2 s = if 48 ≤ s ∧ s ≤ 57 then 3 else 0 := rfl
theorem d3 (s : Int32) : dueI 3 s = if 97 ≤ s ∧ s ≤ 104 then 4 else 0 := rfl
theorem d4 (s : Int32) : dueI 4 s = if 97 ≤ s ∧ s ≤ 104 then 5 else 0 := rfl
theorem d5 (s : Int32) : dueI 5 s = if s = 59 then 1 else 0 := rfl
theorem d0 (s : Int32) : dueI 0 s = 0 := rfl
theorem dS_s (P : Nat → Int32) (k : Nat) : dS P (k + 1) = dueI (dS P k) (P k) := rfl
/-- one place that is read: it goes on, or the reading fails there -/
theorem rd_step {P : Nat → Int32} {L k : Nat} {d d' lo hi : Int32} (hk : k ≤ L) (hd : dS P k = d) (hdn : ¬ d = 0) (hd5 : ¬ d = 5) (hdue : ∀ s, dueI d s = if lo ≤ s ∧ s ≤ hi then d' else 0) (hlo : 0 < lo) :
    (wiB P L k 0 lo hi = 0 ∧ k < L ∧ (lo ≤ P k ∧ P k ≤ hi) ∧ dS P (k + 1) = d') ∨ (wiB P L k 0 lo hi = 1 ∧ FltAt P L k) := by
  by_cases h : k < L
  · by_cases h2 : lo ≤ P k ∧ P k ≤ hi
    · refine Or.inl ⟨wi_y rfl (by rw [it_lt h]; exact h2), h, h2, ?_⟩
      rw [dS_s, hd, hdue, if_pos h2]
    · refine Or.inr ⟨wi_n2 (by rw [it_lt h]; exact h2), hk, by rw [hd]; exact hdn, Or.inl ⟨h, ?_⟩⟩
      rw [dS_s, hd, hdue, if_neg h2]
  · have hL : k = L := by omega
    refine Or.inr ⟨wi_n2 (fun z => ?_), hk, by rw [hd]; exact hdn, Or.inr ⟨hL, by rw [← hL, hd]; exact hd5⟩⟩
    rw [it_ge h] at z
    exact absurd (Int32.lt_of_lt_of_le hlo z.1) (by decide)
theorem wi_w1 (P : Nat → Int32) (L k : Nat) (lo hi : Int32) : wiB P L k 1 lo hi = 1 := wi_n1 (by decide)
/-- an order, from k on: it stands there whole, or the reading fails at K -/
def OrdC (l : Launch) (M : SS) (L k : Nat) : Prop := ∃ (K : Nat) (w sg dg fi se : Int32), CtS l yX7_order cX7_order 3 none (rmD 2) [.ref 0] 7 shM M none (od3 M K w sg dg fi se) ∧
  ((w = 0 ∧ OrdOK (M 5) L k ∧ dS (M 5) K = 5 ∧ K = k + lenO (M 5 k) ∧ sg = M 5 k ∧ dg = dgO (M 5) k ∧ fi = fiO (M 5) k ∧ se = seO (M 5) k) ∨ (w = 1 ∧ FltAt (M 5) L K))
theorem ct_X7_order (l : Launch) {M : SS} {L k : Nat} (hk : M 0 10 = nI k) (hL : M 0 6 = nI L) (hL2 : L ≤ 80) (hkL : k ≤ L) (hw : M 0 11 = 0) (hd : dS (M 5) k = 1) : OrdC l M L k := by
  rcases Nat.lt_or_ge k L with hlt | hge
  · have two : ∀ g : Int32, (g = 114 ∨ g = 43 ∨ g = 45) → M 5 k = g → CtS l yX7_order cX7_order 3 none (rmD 2) [.ref 0] 7 shM M none (od3 M (wiK (wiK (k + 1) (wiB (M 5) L (k + 1) 0 97 104)) (wiB (M 5) L (wiK (k + 1) (wiB (M 5) L (k + 1) 0 97 104)) (wiB (M 5) L (k + 1) 0 97 104) 97 104)) (wiB (M 5) L (wiK (k + 1) (wiB (M 5) L (k + 1) 0 97 104)) (wiB (M 5) L (k + 1) 0 97 104) 97 104) g 0 (itI (M 5) L (k + 1) - 97) (itI (M 5) L (wiK (k + 1) (wiB (M 5) L (k + 1) 0 97 104)) - 97)) → OrdC l M L k := by
      intro g hg3 hg hC
      have h1 : dS (M 5) (k + 1) = 3 := by rw [dS_s, hd, d1, hg]; exact if_pos hg3
      have hn99 : ¬ g = 99 := by rcases hg3 with rfl | rfl | rfl <;> decide
      have hnbp : ¬ (g = 98 ∨ g = 112) := by rcases hg3 with rfl | rfl | rfl <;> decide
      rcases rd_step (L := L) (by omega) h1 (by decide) (by decide) d3 (by decide) with ⟨w1, a1, a2, a3⟩ | ⟨w1, f1⟩
      · rw [w1, wk0] at hC
        rcases rd_step (L := L) (by omega) a3 (by decide) (by decide) d4 (by decide) with ⟨w2, b1, b2, b3⟩ | ⟨w2, f2⟩
        · rw [w2, wk0, it_lt a1, it_lt b1] at hC
          have hlen : lenO (M 5 k) = 3 := by rw [hg]; unfold lenO; rw [if_neg hn99, if_pos hg3]
          refine ⟨_, _, _, _, _, _, hC, Or.inl ⟨rfl, ⟨by rw [hlen]; omega, Or.inr (Or.inl ⟨by rw [hg]; exact hg3, a2, b2⟩)⟩, b3, by rw [hlen], hg.symm, ?_, ?_, ?_⟩⟩
          · unfold dgO; rw [hg, if_neg hn99]
          · unfold fiO; rw [hg, if_neg hn99, if_neg hnbp]
          · unfold seO; rw [hg, if_neg hn99, if_pos hg3]
        · rw [w2, wk1] at hC
          exact ⟨_, _, _, _, _, _, hC, Or.inr ⟨rfl, f2⟩⟩
      · rw [w1, wk1, wi_w1, wk1] at hC
        exact ⟨_, _, _, _, _, _, hC, Or.inr ⟨rfl, f1⟩⟩
    have one : ∀ g : Int32, (g = 116 ∨ g = 100) → M 5 k = g → CtS l yX7_order cX7_order 3 none (rmD 2) [.ref 0] 7 shM M none (od3 M (wiK (k + 1) (wiB (M 5) L (k + 1) 0 97 104)) (wiB (M 5) L (k + 1) 0 97 104) g 0 (itI (M 5) L (k + 1) - 97) 0) → OrdC l M L k := by
      intro g hg2 hg hC
      have hn3 : ¬ (g = 114 ∨ g = 43 ∨ g = 45) := by rcases hg2 with rfl | rfl <;> decide
      have hn99 : ¬ g = 99 := by rcases hg2 with rfl | rfl <;> decide
      have hnbp : ¬ (g = 98 ∨ g = 112) := by rcases hg2 with rfl | rfl <;> decide
      have h1 : dS (M 5) (k + 1) = 4 := by rw [dS_s, hd, d1, hg]; exact (if_neg hn3).trans (if_pos hg2)
      rcases rd_step (L := L) (by omega) h1 (by decide) (by decide) d4 (by decide) with ⟨w1, a1, a2, a3⟩ | ⟨w1, f1⟩
      · rw [w1, wk0, it_lt a1] at hC
        have hlen : lenO (M 5 k) = 2 := by rw [hg]; unfold lenO; rw [if_neg hn99, if_neg hn3, if_pos hg2]
        refine ⟨_, _, _, _, _, _, hC, Or.inl ⟨rfl, ⟨by rw [hlen]; omega, Or.inr (Or.inr (Or.inl ⟨by rw [hg]; exact hg2, a2⟩))⟩, a3, by rw [hlen], hg.symm, ?_, ?_, ?_⟩⟩
        · unfold dgO; rw [hg, if_neg hn99]
        · unfold fiO; rw [hg, if_neg hn99, if_neg hnbp]
        · unfold seO; rw [hg, if_neg hn99, if_neg hn3]
      · rw [w1, wk1] at hC
        exact ⟨_, _, _, _, _, _, hC, Or.inr ⟨rfl, f1⟩⟩
    have non : ∀ g : Int32, (g = 98 ∨ g = 112) → M 5 k = g → CtS l yX7_order cX7_order 3 none (rmD 2) [.ref 0] 7 shM M none (od3 M (k + 1) 0 g 0 0 0) → OrdC l M L k := by
      intro g hg2 hg hC
      have hn3 : ¬ (g = 114 ∨ g = 43 ∨ g = 45) := by rcases hg2 with rfl | rfl <;> decide
      have hn2 : ¬ (g = 116 ∨ g = 100) := by rcases hg2 with rfl | rfl <;> decide
      have hn99 : ¬ g = 99 := by rcases hg2 with rfl | rfl <;> decide
      have h1 : dS (M 5) (k + 1) = 5 := by rw [dS_s, hd, d1, hg]; exact (if_neg hn3).trans ((if_neg hn2).trans ((if_neg hn99).trans (if_pos hg2)))
      have hlen : lenO (M 5 k) = 1 := by rw [hg]; unfold lenO; rw [if_neg hn99, if_neg hn3, if_neg hn2]
      refine ⟨_, _, _, _, _, _, hC, Or.inl ⟨rfl, ⟨by rw [hlen]; omega, Or.inr (Or.inr (Or.inr (by rw [hg]; exact hg2)))⟩, h1, by rw [hlen], hg.symm, ?_, ?_, ?_⟩⟩
      · unfold dgO; rw [hg, if_neg hn99]
      · unfold fiO; rw [hg, if_neg hn99, if_pos hg2]
      · unfold seO; rw [hg, if_neg hn99, if_neg hn3]
    by_cases g1 : M 5 k = 114
    · exact two 114 (by decide) g1 (ct_X7_order_114 l M hk hL hL2 hlt hw g1)
    by_cases g2 : M 5 k = 43
    · exact two 43 (by decide) g2 (ct_X7_order_43 l M hk hL hL2 hlt hw g2)
    by_cases g3 : M 5 k = 45
    · exact two 45 (by decide) g3 (ct_X7_order_45 l M hk hL hL2 hlt hw g3)
    by_cases g4 : M 5 k = 99
    · have hC := ct_X7_order_99 l M hk hL hL2 hlt hw g4
      have h1 : dS (M 5) (k + 1) = 2 := by rw [dS_s, hd, d1, g4]; rfl
      rcases rd_step (L := L) (by omega) h1 (by decide) (by decide) d2 (by decide) with ⟨w1, a1, a2, a3⟩ | ⟨w1, f1⟩
      · rw [w1, wk0] at hC
        rcases rd_step (L := L) (by omega) a3 (by decide) (by decide) d3 (by decide) with ⟨w2, b1, b2, b3⟩ | ⟨w2, f2⟩
        · rw [w2, wk0] at hC
          rcases rd_step (L := L) (by omega) b3 (by decide) (by decide) d4 (by decide) with ⟨w3, c1, c2, c3⟩ | ⟨w3, f3⟩
          · rw [w3, wk0, it_lt a1, it_lt b1, it_lt c1] at hC
            have hlen : lenO (M 5 k) = 4 := by rw [g4]; rfl
            refine ⟨_, _, _, _, _, _, hC, Or.inl ⟨rfl, ⟨by rw [hlen]; omega, Or.inl ⟨g4, a2, b2, c2⟩⟩, c3, by rw [hlen], g4.symm, ?_, ?_, ?_⟩⟩
            · unfold dgO; rw [if_pos g4]
            · unfold fiO; rw [if_pos g4]
            · unfold seO; rw [if_pos g4]
          · rw [w3, wk1] at hC
            exact ⟨_, _, _, _, _, _, hC, Or.inr ⟨rfl, f3⟩⟩
        · rw [w2, wk1, wi_w1, wk1] at hC
          exact ⟨_, _, _, _, _, _, hC, Or.inr ⟨rfl, f2⟩⟩
      · rw [w1, wk1, wi_w1, wk1, wi_w1, wk1] at hC
        exact ⟨_, _, _, _, _, _, hC, Or.inr ⟨rfl, f1⟩⟩
    by_cases g5 : M 5 k = 116
    · exact one 116 (by decide) g5 (ct_X7_order_116 l M hk hL hL2 hlt hw g5)
    by_cases g6 : M 5 k = 100
    · exact one 100 (by decide) g6 (ct_X7_order_100 l M hk hL hL2 hlt hw g6)
    by_cases g7 : M 5 k = 98
    · exact non 98 (by decide) g7 (ct_X7_order_98 l M hk hL hL2 hlt hw g7)
    by_cases g8 : M 5 k = 112
    · exact non 112 (by decide) g8 (ct_X7_order_112 l M hk hL hL2 hlt hw g8)
    refine ⟨_, _, _, _, _, _, ct_X7_order_bad l M hk hL hL2 hlt hw rfl ⟨g1, g2, g3, g4, g5, g6, g7, g8⟩, Or.inr ⟨rfl, by omega, by rw [hd]; decide, Or.inl ⟨hlt, ?_⟩⟩⟩
    rw [dS_s, hd, d1]
    unfold ltrI
    rw [if_neg (by simp [g1, g2, g3]), if_neg (by simp [g5, g6]), if_neg g4, if_neg (by simp [g7, g8])]
  · have hkl : k = L := by omega
    subst hkl
    exact ⟨_, _, _, _, _, _, ct_X7_order_end l M hk hL hL2 hw, Or.inr ⟨rfl, Nat.le_refl _, by rw [hd]; decide, Or.inr ⟨rfl, by rw [hd]; decide⟩⟩⟩
