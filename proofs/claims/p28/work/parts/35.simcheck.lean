/-! a check, a digging -/
theorem lie_eq {G : SS} {s : Nat → Int32} (h : Vs G s) (hg : Good s) {p k : Nat} (hp : p < 3) (hk : k < 32) (hc : ¬ (s (11 + p) ||| s (14 + p)) &&& one k = 0) : (lieF (G (2 + p)) (G 0 1) &&& one k = 0) ↔ lieI s p (one k) = 0 := by
  have hq := h.pl hp
  obtain ⟨n, d, tr, -, -, -, -, -, -, -, -, -, -, hx, -⟩ := hg
  have h1 : (bt (s (11 + p)) k || bt (s (14 + p)) k) = true := by
    rw [and_one hk, bt_or] at hc; revert hc; cases bt (s (11 + p)) k <;> cases bt (s (14 + p)) k <;> simp
  have h2 : (bt (s (11 + p)) k && bt (s (14 + p)) k) = false := by
    have e := congrArg (fun z => bt z k) (hx p hp)
    simp only [bt_and, bt_z] at e
    exact e
  have e : lieI s p (one k) = 0 ↔ ((s (11 + p) &&& one k = 0) ↔ (s 0 &&& one k = 0)) := by
    unfold lieI
    by_cases z : (s (11 + p) &&& one k = 0) ↔ (s 0 &&& one k = 0)
    · rw [if_pos z]; exact ⟨fun _ => z, fun _ => rfl⟩
    · rw [if_neg z]; exact ⟨fun y => absurd y (by decide), fun y => absurd y z⟩
  unfold lieF
  rw [e, and_one hk, bt_or, bt_and, bt_and, bt_not _ hk, hq.2.1, hq.2.2.1, h.1.1, and_one hk, and_one hk]
  revert h1 h2
  cases bt (s (11 + p)) k <;> cases bt (s (14 + p)) k <;> cases bt (s 0) k <;> simp
theorem chk_o {s : Nat → Int32} {t p : Nat} {b : Int32} {j : Nat} (h6 : j ≠ 6) (h7 : j ≠ 7) (h17 : j ≠ 17) (h8 : j ≠ 8 + t) (h9 : j ≠ 8 + p) (h18 : j ≠ 18 + p) (h21 : j ≠ 21 + t) (h24 : j ≠ 24 + t) : rChecks s t p b j = s j := by
  unfold rChecks rEnds
  rw [upd_ne h6, upd_ne h7]
  split
  · simp only [rC2, rC1, rPays, rGets, upd_ne h6, upd_ne h7, upd_ne h17, upd_ne h8, upd_ne h9, upd_ne h18, upd_ne h21, upd_ne h24]
  · simp only [rC5, rC4, rC3, rC2, rC1, rPays, rGets, upd_ne h6, upd_ne h7, upd_ne h17, upd_ne h8, upd_ne h9, upd_ne h18, upd_ne h21, upd_ne h24]
theorem chk_in {s : Nat → Int32} {t p : Nat} {b : Int32} : rChecks s t p b = rEnds (if lieI s p b = 0 then rC2 s t p b else rC5 s t p b) := rfl
theorem sim_check {G : SS} {s : Nat → Int32} (h : Vs G s) (hg : Good s) (hb : s 6 = 1) {k : Nat} (hk : k < 32) {t p : Nat} (h3 : t < 3) (hp : p < 3) (htp : t ≠ p) (hc : ¬ (s (11 + p) ||| s (14 + p)) &&& one k = 0) : seV G t p (one k) = lieI s p (one k) ∧ Vs (seS G t p (one k)) (rChecks s t p (one k)) := by
  have hl := lie_eq h hg hp hk hc
  have e01 : lieI s p (one k) = 0 ∨ lieI s p (one k) = 1 := by unfold lieI; split <;> simp
  have hlB : (lieF (sB1 G t p) (G 0 1) &&& one k = 0) ↔ lieI s p (one k) = 0 := hl
  have S0 := h.2.1 0 (by decide)
  have S1 := h.2.1 1 (by decide)
  constructor
  · unfold seV
    by_cases q : lieI s p (one k) = 0
    · rw [if_pos (hlB.mpr q), q]
    · rw [if_neg (fun z => q (hlB.mp z)), e01.resolve_left q]
  have ht := h.2.2.2.1
  have hd := h.2.2.2.2
  have q1 := h.2.2.1.1
  have q2 := h.2.2.1.2.1
  have q3 := h.2.2.1.2.2
  have hs := h.2.1
  obtain ⟨h1, h2, h3', h4, h5, h6, h7, h13⟩ := h.1
  have g0 : rChecks s t p (one k) 0 = s 0 := chk_o (by omega) (by omega) (by omega) (by omega) (by omega) (by omega) (by omega) (by omega)
  have g1 : rChecks s t p (one k) 1 = s 1 := chk_o (by omega) (by omega) (by omega) (by omega) (by omega) (by omega) (by omega) (by omega)
  have g31 : rChecks s t p (one k) 31 = s 31 := chk_o (by omega) (by omega) (by omega) (by omega) (by omega) (by omega) (by omega) (by omega)
  have g30 : rChecks s t p (one k) 30 = s 30 := chk_o (by omega) (by omega) (by omega) (by omega) (by omega) (by omega) (by omega) (by omega)
  have gk : ∀ j, rChecks s t p (one k) (32 + j) = s (32 + j) := fun j => chk_o (by omega) (by omega) (by omega) (by omega) (by omega) (by omega) (by omega) (by omega)
  have gs : ∀ j, j < 4 → rChecks s t p (one k) (2 + j) = s (2 + j) := fun j hj => chk_o (by omega) (by omega) (by omega) (by omega) (by omega) (by omega) (by omega) (by omega)
  have g17 : rChecks s t p (one k) 17 = s 17 ||| one k := by
    rw [chk_in]; unfold rEnds
    rw [upd_ne (by omega), upd_ne (by omega)]
    split
    · unfold rC2 rC1
      rw [upd_ne (by omega), upd_at]
      simp only [rPays, rGets, upd_ne (show 17 ≠ 8 + t by omega), upd_ne (show 17 ≠ 8 + p by omega)]
    · simp only [rC5, rC4, rC3, rC2, rC1, rPays, rGets, upd_ne (show 17 ≠ 8 + t by omega), upd_ne (show 17 ≠ 8 + p by omega), upd_ne (show 17 ≠ 24 + t by omega), upd_ne (show 17 ≠ 21 + t by omega), upd_ne (show 17 ≠ 18 + p by omega), upd_at]
  have g7 : rChecks s t p (one k) 7 = s 7 + 1 := by
    rw [chk_in]
    show (if lieI s p (one k) = 0 then rC2 s t p (one k) else rC5 s t p (one k)) 7 + 1 = s 7 + 1
    congr 1
    split
    · simp only [rC2, rC1, rPays, rGets, upd_ne (show 7 ≠ 8 + t by omega), upd_ne (show 7 ≠ 8 + p by omega), upd_ne (show 7 ≠ 24 + t by omega), upd_ne (show 7 ≠ 21 + t by omega), upd_ne (show 7 ≠ 18 + p by omega), upd_ne (show 7 ≠ 17 by omega)]
    · simp only [rC5, rC4, rC3, rC2, rC1, rPays, rGets, upd_ne (show 7 ≠ 8 + t by omega), upd_ne (show 7 ≠ 8 + p by omega), upd_ne (show 7 ≠ 24 + t by omega), upd_ne (show 7 ≠ 21 + t by omega), upd_ne (show 7 ≠ 18 + p by omega), upd_ne (show 7 ≠ 17 by omega)]
  have g6 : 0 < rChecks s t p (one k) 6 := by
    rw [chk_in]
    apply ends_6
    split
    · simp only [rC2, rC1, rPays, rGets, upd_ne (show 6 ≠ 8 + t by omega), upd_ne (show 6 ≠ 8 + p by omega), upd_ne (show 6 ≠ 24 + t by omega), upd_ne (show 6 ≠ 21 + t by omega), upd_ne (show 6 ≠ 18 + p by omega), upd_ne (show 6 ≠ 17 by omega)]; exact hb
    · simp only [rC5, rC4, rC3, rC2, rC1, rPays, rGets, upd_ne (show 6 ≠ 8 + t by omega), upd_ne (show 6 ≠ 8 + p by omega), upd_ne (show 6 ≠ 24 + t by omega), upd_ne (show 6 ≠ 21 + t by omega), upd_ne (show 6 ≠ 18 + p by omega), upd_ne (show 6 ≠ 17 by omega)]; exact hb
  have gK : rK (rChecks s t p (one k)) = KK (G 0 1) (G 0 4 ||| one k) := by
    unfold rK rKn
    rw [if_pos g6, g0, g17, h1, h4]
  have c3 : G 0 3 = if 0 < rChecks s t p (one k) 6 then 1 else 0 := by
    rw [if_pos g6, h3', if_pos (by rw [hb]; decide)]
  have gn : nD (rChecks s t p (one k)) = nD s := by unfold nD; rw [g31]
  have tol : ∀ j, j < 8 → G 5 j = tolN (rChecks s t p (one k)) j (nD (rChecks s t p (one k))) := fun j hj => by
    rw [ht j hj, gn, tolN_congr j g0 g1 _ (fun k _ => gk k)]
  have S0' : G 1 0 = s 2 := S0
  have S1' : G 1 1 = s 3 := S1
  obtain ⟨a0, a1, a2, a3, a4, a5, a6⟩ := q1
  obtain ⟨b0, b1, b2, b3, b4, b5, b6⟩ := q2
  obtain ⟨d0, d1, d2, d3, d4, d5, d6⟩ := q3
  by_cases q : lieI s p (one k) = 0
  · have eG : seS G t p (one k) = G3 G t p (sC2 G (one k)) (sA1 G t) (sB1 G t p) := if_pos (hlB.mpr q)
    rw [eG]
    refine ⟨⟨?_, ?_, ?_, ?_, ?_, ?_, ?_, ?_⟩, fun j hj => ?_, ?_, fun j hj => ?_, fun j hj => ?_⟩
    any_goals rw [show G3 G t p (sC2 G (one k)) (sA1 G t) (sB1 G t p) 0 = sC2 G (one k) by unfold G3; rw [upC_ne (by omega), upC_ne (by omega), upC_at]]
    · rw [g0]; exact h1
    · rw [g1]; exact h2
    · exact c3
    · rw [g17]; show G 0 4 ||| one k = _; rw [h4]
    · rw [gK]; rfl
    · rw [g7]; show G 0 6 + 1 = _; rw [h6]
    · rw [g30]; exact h7
    · rw [g31]; exact h13
    · rw [show G3 G t p (sC2 G (one k)) (sA1 G t) (sB1 G t p) 1 = G 1 by unfold G3; rw [upC_ne (by omega), upC_ne (by omega), upC_ne (by omega)], gs j hj]; exact hs j hj
    · rw [chk_in, if_pos q]
      rcases (show t = 0 ∨ t = 1 ∨ t = 2 by omega) with rfl | rfl | rfl <;> rcases (show p = 0 ∨ p = 1 ∨ p = 2 by omega) with rfl | rfl | rfl
      all_goals first | exact absurd rfl htp | skip
      all_goals simp [PlV, G3, upC, upd, pyA, pyB, sA0, sA1, sB1, sC2, sC1, tkI, paI, rEnds, rC2, rC1, rPays, rGets, rPaid, *]
    · rw [show G3 G t p (sC2 G (one k)) (sA1 G t) (sB1 G t p) 5 = G 5 by unfold G3; rw [upC_ne (by omega), upC_ne (by omega), upC_ne (by omega)]]; exact tol j hj
    · rw [show G3 G t p (sC2 G (one k)) (sA1 G t) (sB1 G t p) 6 = G 6 by unfold G3; rw [upC_ne (by omega), upC_ne (by omega), upC_ne (by omega)], gk j]; exact hd j hj
  · have eG : seS G t p (one k) = G3 G t p (sC2 G (one k)) (pyB (sB2 G t p) (sA2 G t) (G 1 1)) (pyA (sB2 G t p) (G 1 1)) := if_neg (fun z => q (hlB.mp z))
    rw [eG]
    refine ⟨⟨?_, ?_, ?_, ?_, ?_, ?_, ?_, ?_⟩, fun j hj => ?_, ?_, fun j hj => ?_, fun j hj => ?_⟩
    any_goals rw [show G3 G t p (sC2 G (one k)) (pyB (sB2 G t p) (sA2 G t) (G 1 1)) (pyA (sB2 G t p) (G 1 1)) 0 = sC2 G (one k) by unfold G3; rw [upC_ne (by omega), upC_ne (by omega), upC_at]]
    · rw [g0]; exact h1
    · rw [g1]; exact h2
    · exact c3
    · rw [g17]; show G 0 4 ||| one k = _; rw [h4]
    · rw [gK]; rfl
    · rw [g7]; show G 0 6 + 1 = _; rw [h6]
    · rw [g30]; exact h7
    · rw [g31]; exact h13
    · rw [show G3 G t p (sC2 G (one k)) (pyB (sB2 G t p) (sA2 G t) (G 1 1)) (pyA (sB2 G t p) (G 1 1)) 1 = G 1 by unfold G3; rw [upC_ne (by omega), upC_ne (by omega), upC_ne (by omega)], gs j hj]; exact hs j hj
    · rw [chk_in, if_neg q]
      rcases (show t = 0 ∨ t = 1 ∨ t = 2 by omega) with rfl | rfl | rfl <;> rcases (show p = 0 ∨ p = 1 ∨ p = 2 by omega) with rfl | rfl | rfl
      all_goals first | exact absurd rfl htp | skip
      all_goals simp [PlV, G3, upC, upd, pyA, pyB, sA0, sA1, sB1, sA2, sB2, sC2, sC1, tkI, paI, rEnds, rC5, rC4, rC3, rC2, rC1, rPays, rGets, rPaid, *]
    · rw [show G3 G t p (sC2 G (one k)) (pyB (sB2 G t p) (sA2 G t) (G 1 1)) (pyA (sB2 G t p) (G 1 1)) 5 = G 5 by unfold G3; rw [upC_ne (by omega), upC_ne (by omega), upC_ne (by omega)]]; exact tol j hj
    · rw [show G3 G t p (sC2 G (one k)) (pyB (sB2 G t p) (sA2 G t) (G 1 1)) (pyA (sB2 G t p) (G 1 1)) 6 = G 6 by unfold G3; rw [upC_ne (by omega), upC_ne (by omega), upC_ne (by omega)], gk j]; exact hd j hj
/-- digging -/
theorem nex {d j : Nat} (h : j < 32) : (j = 32 + d) = False := eq_false (by omega)
theorem dig_o {s : Nat → Int32} {t d a j : Nat} {v : Int32} (h3 : t < 3) (h6 : j ≠ 6) (h7 : j ≠ 7) (h8 : j ≠ 8 + t) (h27 : j ≠ 27 + t) (h32 : j ≠ 32 + d) (h31 : j ≠ 31) (h30 : j ≠ 30) : rDigs s t d a v j = s j := by
  unfold rDigs
  split <;> simp only [rD7, rD6, rD5, rD4, rD3, rD2, rD1, rEnds, rGets, upd_ne h6, upd_ne h7, upd_ne h8, upd_ne h27, upd_ne h32, upd_ne h31, upd_ne h30]
theorem sim_dig {G : SS} {s : Nat → Int32} (h : Vs G s) (hg : Good s) (hb : s 6 = 1) {t d a : Nat} (h3 : t < 3) (ha : a < 8) (hd : s 31 = nI d) (hd2 : d < 150) : gDi G a = distI (s 0) (nI a) (s 1) ∧ Vs (dgGS G t d a) (rDigs s t d a (distI (s 0) (nI a) (s 1))) := by
  have ht := h.2.2.2.1
  have hdd := h.2.2.2.2
  have q1 := h.2.2.1.1
  have q2 := h.2.2.1.2.1
  have q3 := h.2.2.1.2.2
  have hs := h.2.1
  obtain ⟨h1, h2, h3', h4, h5, h6, h7, h13⟩ := h.1
  have S2' : G 1 2 = s 4 := hs 2 (by decide)
  have S3' : G 1 3 = s 5 := hs 3 (by decide)
  have eD : gDi G a = distI (s 0) (nI a) (s 1) := by unfold gDi; rw [h1, h2]
  refine ⟨eD, ?_⟩
  have hnd : nD s = d := by unfold nD; rw [hd, nI_clamp (by omega)]
  generalize hv : distI (s 0) (nI a) (s 1) = v at *
  have g0 : rDigs s t d a v 0 = s 0 := dig_o h3 (by omega) (by omega) (by omega) (by omega) (by omega) (by omega) (by omega)
  have g1 : rDigs s t d a v 1 = s 1 := dig_o h3 (by omega) (by omega) (by omega) (by omega) (by omega) (by omega) (by omega)
  have g17 : rDigs s t d a v 17 = s 17 := dig_o h3 (by omega) (by omega) (by omega) (by omega) (by omega) (by omega) (by omega)
  have gs : ∀ j, j < 4 → rDigs s t d a v (2 + j) = s (2 + j) := fun j hj => dig_o h3 (by omega) (by omega) (by omega) (by omega) (by omega) (by omega) (by omega)
  have g31 : rDigs s t d a v 31 = nI (d + 1) := by
    unfold rDigs
    split <;> simp only [rD7, rD6, rD5, rD4, rEnds, rGets, upd_ne (show 31 ≠ 6 by decide), upd_ne (show 31 ≠ 7 by decide), upd_ne (show 31 ≠ 30 by decide), upd_ne (show 31 ≠ 8 + t by omega), upd_at] <;> (unfold rD3 rD2 rD1; rw [upd_ne (by omega), upd_ne (by omega), upd_ne (by omega), hd, nI_1])
  have gk : ∀ j, rDigs s t d a v (32 + j) = upd (fun i => s (32 + i)) d (nI a) j := by
    intro j
    have e : upd (rD2 s t) (32 + d) (nI a) (32 + j) = upd (fun i => s (32 + i)) d (nI a) j := by
      unfold upd
      by_cases e : j = d
      · rw [if_pos (by omega), if_pos e]
      · rw [if_neg (by omega), if_neg e]
        unfold rD2 rD1
        rw [upd_ne (by omega), upd_ne (by omega)]
    rw [← e]
    unfold rDigs
    split <;> simp only [rD7, rD6, rD5, rD4, rD3, rEnds, rGets, upd_ne (show 32 + j ≠ 6 by omega), upd_ne (show 32 + j ≠ 7 by omega), upd_ne (show 32 + j ≠ 30 by omega), upd_ne (show 32 + j ≠ 31 by omega), upd_ne (show 32 + j ≠ 8 + t by omega)]
  have g6 : 0 < rDigs s t d a v 6 := by
    unfold rDigs
    split
    · rw [upd_at]; decide
    · apply ends_6
      simp only [rD4, rD3, rD2, rD1, upd_ne (show 6 ≠ 31 by decide), upd_ne (show 6 ≠ 32 + d by omega), upd_ne (show 6 ≠ 27 + t by omega), upd_ne (show 6 ≠ 8 + t by omega)]
      exact hb
  have g7 : rDigs s t d a v 7 = s 7 + 1 := by
    unfold rDigs
    split <;> simp only [rD7, rD6, rD5, rEnds, rGets, upd_ne (show 7 ≠ 6 by decide), upd_ne (show 7 ≠ 30 by decide), upd_ne (show 7 ≠ 8 + t by omega), upd_at] <;> simp only [rD4, rD3, rD2, rD1, upd_ne (show 7 ≠ 31 by decide), upd_ne (show 7 ≠ 32 + d by omega), upd_ne (show 7 ≠ 27 + t by omega), upd_ne (show 7 ≠ 8 + t by omega)]
  have g30 : rDigs s t d a v 30 = if v = 0 then nI t else s 30 := by
    unfold rDigs
    by_cases e : v = 0
    · rw [if_pos e, if_pos e]; rfl
    · rw [if_neg e, if_neg e]
      simp only [rD5, rD4, rD3, rD2, rD1, rEnds, upd_ne (show 30 ≠ 6 by decide), upd_ne (show 30 ≠ 7 by decide), upd_ne (show 30 ≠ 31 by decide), upd_ne (show 30 ≠ 32 + d by omega), upd_ne (show 30 ≠ 27 + t by omega), upd_ne (show 30 ≠ 8 + t by omega)]
  have gn : nD (rDigs s t d a v) = d + 1 := by unfold nD; rw [g31, nI_clamp (by omega)]
  have tol : ∀ j, j < 8 → upd (G 5) a v j = tolN (rDigs s t d a v) j (nD (rDigs s t d a v)) := fun j hj => by
    rw [gn]
    show _ = if rDigs s t d a v (32 + d) = nI j then distI (rDigs s t d a v 0) (nI j) (rDigs s t d a v 1) else tolN (rDigs s t d a v) j d
    rw [gk d, upd_at, g0, g1]
    by_cases e : j = a
    · subst e; rw [if_pos rfl, upd_at, hv]
    · rw [if_neg (fun z => e ((nI_eq (by omega) (by omega)).mp z).symm), upd_ne e, ht j hj, hnd]
      exact (tolN_congr j g0 g1 d (fun i hi => by rw [gk i]; exact upd_ne (by omega))).symm
  have gK : G 0 5 = rK (rDigs s t d a v) := by
    rw [h5]
    exact (rK_congr g0 g17 ⟨fun _ => by rw [hb]; decide, fun _ => g6⟩).symm
  have c3 : G 0 3 = if 0 < rDigs s t d a v 6 then 1 else 0 := by
    rw [if_pos g6, h3', if_pos (by rw [hb]; decide)]
  obtain ⟨a0, a1, a2, a3, a4, a5, a6⟩ := q1
  obtain ⟨b0, b1, b2, b3, b4, b5, b6⟩ := q2
  obtain ⟨d0, d1, d2, d3, d4, d5, d6⟩ := q3
  by_cases q : v = 0
  · have eG : dgGS G t d a = D4 G t (upd (upd (gC1 G d) 7 (nI t)) 6 (G 0 6 + 1)) (upd (gA1 G t) 0 (tkI (gA1 G t 0) (G 1 3))) (upd (G 5) a v) (upd (G 6) d (nI a)) := by
      unfold dgGS; rw [eD, if_pos q]
    rw [eG]
    refine ⟨⟨?_, ?_, ?_, ?_, ?_, ?_, ?_, ?_⟩, fun j hj => ?_, ?_, fun j hj => ?_, fun j hj => ?_⟩
    · rw [D4_0, g0]; exact h1
    · rw [D4_0, g1]; exact h2
    · rw [D4_0]; exact c3
    · rw [D4_0, g17]; exact h4
    · rw [D4_0]; exact gK
    · rw [D4_0, g7]; show G 0 6 + 1 = _; rw [h6]
    · rw [D4_0, g30, if_pos q]; rfl
    · rw [D4_0, g31]; rfl
    · rw [D4_1 h3, gs j hj]; exact hs j hj
    · clear hv tol gk
      unfold rDigs
      rw [if_pos q]
      rcases (show t = 0 ∨ t = 1 ∨ t = 2 by omega) with rfl | rfl | rfl
      all_goals simp [PlV, D4, gA1, gC1, upC, upd, tkI, rD7, rD6, rD5, rD4, rD3, rD2, rD1, rEnds, rGets, nex, *]
    · rw [D4_5]; exact tol j hj
    · rw [D4_6, gk j]; unfold upd; split
      · rfl
      · exact hdd j hj
  · have eG : dgGS G t d a = D4 G t (upd (gC1 G d) 6 (G 0 6 + 1)) (gA1 G t) (upd (G 5) a v) (upd (G 6) d (nI a)) := by
      unfold dgGS; rw [eD, if_neg q]
    rw [eG]
    refine ⟨⟨?_, ?_, ?_, ?_, ?_, ?_, ?_, ?_⟩, fun j hj => ?_, ?_, fun j hj => ?_, fun j hj => ?_⟩
    · rw [D4_0, g0]; exact h1
    · rw [D4_0, g1]; exact h2
    · rw [D4_0]; exact c3
    · rw [D4_0, g17]; exact h4
    · rw [D4_0]; exact gK
    · rw [D4_0, g7]; show G 0 6 + 1 = _; rw [h6]
    · rw [D4_0, g30, if_neg q]; exact h7
    · rw [D4_0, g31]; rfl
    · rw [D4_1 h3, gs j hj]; exact hs j hj
    · clear hv tol gk
      unfold rDigs
      rw [if_neg q]
      rcases (show t = 0 ∨ t = 1 ∨ t = 2 by omega) with rfl | rfl | rfl
      all_goals simp [PlV, D4, gA1, gC1, upC, upd, tkI, rD5, rD4, rD3, rD2, rD1, rEnds, nex, *]
    · rw [D4_5]; exact tol j hj
    · rw [D4_6, gk j]; unfold upd; split
      · rfl
      · exact hdd j hj
