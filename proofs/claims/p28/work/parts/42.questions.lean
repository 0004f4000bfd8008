/-! each question: alike -/
theorem pb_go (r : Int32) {p : Nat} (hp : p < 8) : ∀ j, j ≤ 8 → pbJ (r &&& k_at p) p j = ngJ r p j
  | 0, _ => rfl
  | j + 1, hj => by
    have ih := pb_go r hp j (by omega)
    show (if j ≠ p ∧ ¬ r &&& k_at p &&& k_at j = 0 then pbJ (r &&& k_at p) p j ||| one j else pbJ (r &&& k_at p) p j) = ngJ r p j ||| (if nI j ≠ nI p ∧ sb r (eI (nI p) (nI j)) = 1 then one j else 0)
    rw [ih]
    by_cases e : j = p
    · rw [if_neg (fun z => z.1 e), if_neg (fun z => z.1 (by rw [e]))]
      apply bt_ext; intro i hi; rw [bt_or, bt_z, Bool.or_false]
    · obtain ⟨k, hk, ek, ea⟩ := meet_at p hp j (by omega) (fun z => e z.symm)
      have hne : nI j ≠ nI p := fun z => e ((nI_eq (by omega) (by omega)).mp z)
      have h1 : r &&& k_at p &&& k_at j = 0 ↔ bt r k = false := by
        rw [Int32.and_assoc, ea]; exact and_one (by omega)
      rw [ek, sb_k r (show k < 32 by omega)]
      cases hb : bt r k
      · rw [if_neg (fun z => z.2 (h1.mpr hb)), if_neg (fun z => absurd z.2 (by decide))]
        apply bt_ext; intro i hi; rw [bt_or, bt_z, Bool.or_false]
      · rw [if_pos ⟨e, fun z => by rw [h1.mp z] at hb; exact absurd hb (by decide)⟩, if_pos ⟨hne, rfl⟩]
theorem pb_ng (r : Int32) {p : Nat} (hp : p < 8) : pbI r p = ngJ r p 8 := pb_go r hp 8 (Nat.le_refl _)
theorem or_z (x : Int32) : x ||| 0 = x := by apply bt_ext; intro i hi; rw [bt_or, bt_z, Bool.or_false]
theorem KK_id (r v : Int32) : KK r (KK r v) = KK r v := by
  have h := KK_or r v 0
  rw [or_z, or_z] at h
  exact h
theorem and_c (x y : Int32) : x &&& y = y &&& x := by apply bt_ext; intro i hi; rw [bt_and, bt_and, Bool.and_comm]
theorem one_and {x : Int32} {k : Nat} (hk : k < 32) : one k &&& x = 0 ↔ bt x k = false := by rw [and_c]; exact and_one hk
theorem is_sb {x : Int32} {k : Nat} (hk : k < 32) : isI (one k) x = sb x (nI k) := by
  rw [sb_k x hk]; unfold isI
  by_cases h : bt x k = true
  · rw [if_pos h, if_neg (fun z => by rw [one_and hk] at z; rw [z] at h; exact absurd h (by decide))]
  · rw [if_neg h, if_pos ((one_and hk).mpr (by simpa using h))]
theorem sb_01 (x e : Int32) : sb x e = 0 ∨ sb x e = 1 := by
  unfold sb; rw [and1]; split
  · exact Or.inr rfl
  · exact Or.inl rfl
theorem sb_0 {x : Int32} {k : Nat} (hk : k < 32) : sb x (nI k) = 0 ↔ bt x k = false := by
  rw [sb_k x hk]; cases bt x k <;> simp
theorem seen_eq {s : Nat → Int32} {k : Nat} (hk : k < 32) : seenV (one k) (rK s) (s 0) = rSeen s (nI k) := by
  unfold seenV rSeen
  by_cases h : bt (rK s) k = false
  · rw [if_pos ((one_and hk).mpr h), if_pos ((sb_0 hk).mpr h)]
  · rw [if_neg (fun z => h ((one_and hk).mp z)), if_neg (fun z => h ((sb_0 hk).mp z)), is_sb hk, sb_k _ hk, sb_k _ hk]
    unfold rTh
    rw [bt_and]
    have : bt (rK s) k = true := by simpa using h
    rw [this, Bool.true_and]
theorem three_sb {x y z : Int32} (hx : x = 0 ∨ x = 1) (hy : y = 0 ∨ y = 1) (hz : z = 0 ∨ z = 1) : x ||| y <<< (1 &&& 31) ||| z <<< (2 &&& 31) = (0 ||| x <<< (nI 0 &&& 31)) ||| y <<< (nI 1 &&& 31) ||| z <<< (nI 2 &&& 31) := by
  rcases hx with rfl | rfl <;> rcases hy with rfl | rfl <;> rcases hz with rfl | rfl <;> decide
theorem cl_eq {G : SS} {s : Nat → Int32} (h : Vs G s) {k : Nat} (hk : k < 32) : clV G (one k) 1 = clJ s 11 (nI k) 3 ∧ clV G (one k) 0 = clJ s 14 (nI k) 3 := by
  have q0 := h.2.2.1.1
  have q1 := h.2.2.1.2.1
  have q2 := h.2.2.1.2.2
  constructor
  · show isI (one k) (G 2 1) ||| isI (one k) (G 3 1) <<< (1 &&& 31) ||| isI (one k) (G 4 1) <<< (2 &&& 31) = _
    rw [q0.2.1, q1.2.1, q2.2.1, is_sb hk, is_sb hk, is_sb hk]
    exact three_sb (sb_01 _ _) (sb_01 _ _) (sb_01 _ _)
  · show isI (one k) (G 2 2) ||| isI (one k) (G 3 2) <<< (1 &&& 31) ||| isI (one k) (G 4 2) <<< (2 &&& 31) = _
    rw [q0.2.2.1, q1.2.2.1, q2.2.2.1, is_sb hk, is_sb hk, is_sb hk]
    exact three_sb (sb_01 _ _) (sb_01 _ _) (sb_01 _ _)
theorem ofRoad_eq {G : SS} {s : Nat → Int32} (h : Vs G s) {a b : Int32} (hw : wrE a b = 0) (what : Int32) : kOfRoad G a b what = rOfRoad s a b what := by
  obtain ⟨k, hk, ek⟩ := eI_k hw
  have hk2 : k < 32 := by omega
  have e2 : (if bitE a b &&& G 0 4 = 0 then (0 : Int32) else 1) = sb (s 17) (eI a b) := by
    rw [h.1.2.2.2.1, ek, bitE_k ek]; exact is_sb hk2
  have e3 : seenV (bitE a b) (G 0 5) (G 0 1) = rSeen s (eI a b) := by
    rw [h.1.2.2.2.2.1, h.1.1, ek, bitE_k ek]; exact seen_eq hk2
  have e45 := cl_eq h hk2
  unfold kOfRoad rOfRoad
  rw [e2, e3, bitE_k ek, ek, e45.1, e45.2]
theorem third_k {p k : Nat} (hp : p < 3) (hk : k < 28) : bt (thI p) k = decide (k % 3 = p) := by
  have key : ∀ p, p < 3 → ∀ k, k < 28 → bt (thI p) k = decide (k % 3 = p) := by decide +kernel
  exact key p hp k hk
theorem knows_eq {G : SS} {s : Nat → Int32} (h : Vs G s) {a b : Int32} (hw : wrE a b = 0) {p : Nat} (hp : p < 3) : seenV (bitE a b) (G 0 5 ||| thirdV (nI p)) (G 0 1) = rKnows s (nI p) a b := by
  obtain ⟨k, hk, ek⟩ := eI_k hw
  have hk2 : k < 32 := by omega
  rw [h.1.2.2.2.2.1, h.1.1, bitE_k ek]
  unfold rKnows
  rw [ek]
  have er : rem3 (nI k) = nI (k % 3) := rem3_n (by omega)
  rw [er]
  have et : bt (thirdV (nI p)) k = decide (k % 3 = p) := third_k hp hk
  by_cases e : k % 3 = p
  · rw [if_pos (by rw [e])]
    unfold seenV
    rw [if_neg (fun z => by rw [one_and hk2, bt_or, et, e] at z; simp at z), is_sb hk2]
  · rw [if_neg (fun z => e ((nI_eq (by omega) (by omega)).mp z)), ← seen_eq hk2]
    unfold seenV
    have e2 : (one k &&& (rK s ||| thirdV (nI p)) = 0) ↔ (one k &&& rK s = 0) := by
      rw [one_and hk2, one_and hk2, bt_or, et, decide_eq_false e, Bool.or_false]
    by_cases z : one k &&& rK s = 0
    · rw [if_pos z, if_pos (e2.mpr z)]
    · rw [if_neg z, if_neg (fun y => z (e2.mp y))]
theorem shown_eq {G : SS} {s : Nat → Int32} (h : Vs G s) {p : Nat} (hp : p < 3) : pcI (lieF (G (2 + p)) (G 0 1) &&& G 0 5) = rShown s p := by
  have hq := h.pl hp
  unfold rShown lieF
  congr 1
  apply bt_ext
  intro i hi
  rw [hq.2.1, hq.2.2.1, h.1.1, h.1.2.2.2.2.1]
  unfold rTh
  simp only [bt_and, bt_or, bt_not _ hi]
  cases bt (rK s) i <;> cases bt (s (11 + p)) i <;> cases bt (s (14 + p)) i <;> cases bt (s 0) i <;> rfl
theorem player_eq {G : SS} {s : Nat → Int32} (h : Vs G s) {p : Nat} (hp : p < 3) (what : Int32) : kPlayer G p what = rPlayer s p what := by
  have hq := h.pl hp
  have e2 := shown_eq h hp
  have e1 : pcI (G (2 + p) 1 ||| G (2 + p) 2) = rClaims s p := by unfold rClaims; rw [hq.2.1, hq.2.2.1]
  have e7 : pcI (G 0 5 ||| thirdV (nI p)) = pcI (thI p ||| rK s) := by
    congr 1
    apply bt_ext
    intro i hi
    rw [h.1.2.2.2.2.1]
    show bt (rK s ||| thI p) i = _
    rw [bt_or, bt_or, Bool.or_comm]
  unfold kPlayer rPlayer
  rw [e1, e2, e7, hq.1, hq.2.2.2.1, hq.2.2.2.2.1, hq.2.2.2.2.2.1, hq.2.2.2.2.2.2]
theorem th_eq {G : SS} {s : Nat → Int32} (h : Vs G s) : G 0 1 &&& G 0 5 = rTh s := by rw [h.1.1, h.1.2.2.2.2.1, and_c]; rfl
theorem place_eq {G : SS} {s : Nat → Int32} (h : Vs G s) {p : Nat} (hp : p < 8) (what : Int32) : kPlace G p what = rPlace s p (tolN s p (nD s)) what := by
  have hth := th_eq h
  have hb := h.began.1
  have e0 : (if G 0 3 = 0 then (-6 : Int32) else pcI (k_at p &&& G 0 1)) = if 0 < s 6 then pcI (k_at p &&& s 0) else -6 := by
    by_cases q : 0 < s 6
    · rw [if_pos q, if_neg (fun z => hb.mp z q), h.1.1]
    · rw [if_neg q, if_pos (hb.mpr q)]
  have e1 : k_at p &&& G 0 1 &&& G 0 5 = k_at p &&& rTh s := by
    rw [← hth]; apply bt_ext; intro i hi; simp only [bt_and, Bool.and_assoc]
  unfold kPlace rPlace
  rw [e0, e1, hth, h.1.2.2.2.2.1, h.2.2.2.1 p hp, pb_ng _ hp]
theorem tol_n {s : Nat → Int32} {p : Nat} : ∀ d, ¬ dugB s d p → tolN s p d = -6
  | 0, _ => rfl
  | d + 1, h => by
    have e : tolN s p (d + 1) = tolN s p d := if_neg (fun z => h ⟨d, by omega, z⟩)
    rw [e]
    exact tol_n d (fun ⟨k, hk, z⟩ => h ⟨k, by omega, z⟩)
theorem tol_y {s : Nat → Int32} {p : Nat} : ∀ d, dugB s d p → tolN s p d = distI (s 0) (nI p) (s 1)
  | 0, h => by obtain ⟨k, hk, -⟩ := h; omega
  | d + 1, h => by
    by_cases z : s (32 + d) = nI p
    · exact if_pos z
    · have e : tolN s p (d + 1) = tolN s p d := if_neg z
      rw [e]
      obtain ⟨k, hk, y⟩ := h
      refine tol_y d ⟨k, ?_, y⟩
      rcases Nat.lt_or_ge k d with q | q
      · exact q
      · have : k = d := by omega
        rw [this] at y; exact absurd y z
theorem more_eq {G : SS} {s : Nat → Int32} (h : Vs G s) (hb : 0 < s 6) {k : Nat} (hk : k < 32) : pcI (KK (G 0 1) (G 0 5 ||| one k)) - pcI (G 0 5) = rMore s (nI k) := by
  have eK : rK s = KK (s 0) (s 17) := if_pos hb
  rw [h.1.1, h.1.2.2.2.2.1]
  unfold rMore
  by_cases q : sb (rK s) (nI k) = 1
  · rw [if_pos q]
    have hbit : bt (rK s) k = true := by
      rw [sb_k _ hk] at q
      by_cases z : bt (rK s) k = true
      · exact z
      · rw [if_neg z] at q; exact absurd q (by decide)
    have e : rK s ||| one k = rK s := by
      apply bt_ext
      intro i hi
      rw [bt_or, bt_one hk]
      by_cases z : i = k
      · subst z; rw [hbit]; rfl
      · rw [decide_eq_false z, Bool.or_false]
    rw [e, eK, KK_id]
    exact Int32.sub_self _
  · rw [if_neg q]
    have e : rKn s (s 17 ||| (1 : Int32) <<< (nI k &&& 31)) = KK (s 0) (rK s ||| one k) := by
      rw [eK, KK_or]; exact if_pos hb
    rw [e]
theorem best_go {G : SS} {s : Nat → Int32} (h : Vs G s) (hb : 0 < s 6) : ∀ n, n ≤ 28 → bkB G n = (bsF s n).1 ∧ bkM G n = (bsF s n).2
  | 0, _ => ⟨rfl, rfl⟩
  | n + 1, hn => by
    obtain ⟨e1, e2⟩ := best_go h hb n (by omega)
    have e : moK G n = rMore s (nI n) := more_eq h hb (by omega)
    constructor
    · show (if bkM G n < moK G n then nI n else bkB G n) = if (bsF s n).2 < rMore s (nI n) then nI n else (bsF s n).1
      rw [e1, e2, e]
    · show (if bkM G n < moK G n then moK G n else bkM G n) = if (bsF s n).2 < rMore s (nI n) then rMore s (nI n) else (bsF s n).2
      rw [e2, e]
theorem count_eq {S M : SS} {L np : Nat} (h : VG (gm S 1) (M 1)) (hL : S 59 1 = nI L) (hL2 : M 0 6 = nI L) (hP : S 8 2 = nI np) (hP2 : M 0 2 = nI np) (what : Int32) : kCount S what = rCount (M 1) (M 0 6) (M 0 2) what := by
  have hv := h.1
  have e0 : S 1 6 = M 1 7 := hv.1.2.2.2.2.2.1
  have e2 : stI (gm S 1) = M 1 6 := hv.stage h.2
  have e3 : S 1 7 = M 1 30 := hv.1.2.2.2.2.2.2.1
  have e4 : S 1 5 = rK (M 1) := hv.1.2.2.2.2.1
  have e5 : S 1 5 &&& S 1 1 = rTh (M 1) := (and_c _ _).trans (th_eq hv)
  have e6 : shlV (gm S 1) = rShown (M 1) 0 + rShown (M 1) 1 + rShown (M 1) 2 := by
    have a := shown_eq hv (p := 0) (by decide)
    have b := shown_eq hv (p := 1) (by decide)
    have c := shown_eq hv (p := 2) (by decide)
    show pcI (lieF (gm S 1 (2 + 0)) (gm S 1 0 1) &&& gm S 1 0 5) + pcI (lieF (gm S 1 (2 + 1)) (gm S 1 0 1) &&& gm S 1 0 5) + pcI (lieF (gm S 1 (2 + 2)) (gm S 1 0 1) &&& gm S 1 0 5) = _
    rw [a, b, c]
  have e7 : S 1 4 = M 1 17 := hv.1.2.2.2.1
  have s0 : S 2 0 = M 1 2 := hv.2.1 0 (by decide)
  have s1 : S 2 1 = M 1 3 := hv.2.1 1 (by decide)
  have s2 : S 2 2 = M 1 4 := hv.2.1 2 (by decide)
  have s3 : S 2 3 = M 1 5 := hv.2.1 3 (by decide)
  unfold kCount rCount
  rw [e5, e0, e2, e3, e4, e6, e7, s0, s1, s2, s3, hL, hL2, hP, hP2]
theorem lt_pred {a : Int32} {d : Nat} (hd : d ≤ 150) (h : 0 ≤ a ∧ a ≤ nI d - 1) : a < nI d := by
  rcases Nat.eq_zero_or_pos d with rfl | h0
  · rw [show nI 0 - 1 = (-1 : Int32) from rfl] at h
    exact absurd (Int32.le_trans h.1 h.2) (by decide)
  · rw [nI_dec (by omega)] at h
    exact Int32.lt_of_le_of_lt h.2 (Int32.not_le.mp (nI_ge (by omega) (by omega)))
theorem shows_eq {S M : SS} (h : VG (gm S 1) (M 1)) (a b : Int32) : (if wrE a b = 0 then (if S 1 3 = 0 then (-5 : Int32) else pcI (KK (S 1 1) (S 1 5 ||| bitE a b)) - pcI (S 1 5)) else wrE a b) = rShows (M 1) a b := by
  unfold rShows
  by_cases hw : wrE a b = 0
  · rw [if_pos hw, if_pos hw]
    by_cases hb : 0 < M 1 6
    · obtain ⟨k, hk, ek⟩ := eI_k hw
      have hb2 : ¬ S 1 3 = 0 := fun z => h.1.began.1.mp z hb
      rw [if_neg hb2, if_pos hb, bitE_k ek, ek]
      exact more_eq h.1 hb (by omega)
    · have hb2 : S 1 3 = 0 := h.1.began.1.mpr hb
      rw [if_pos hb2, if_neg hb]
  · rw [if_neg hw, if_neg hw]
theorem mMore_k (M : SS) (e : Int32) : mMore M e 1 = M 1 ∧ mMore M e 2 = M 2 ∧ mMore M e 3 = M 3 ∧ mMore M e 4 = M 4 ∧ mMore M e 5 = M 5 ∧ mMore M e 0 2 = M 0 2 ∧ mMore M e 0 6 = M 0 6 := by
  unfold mMore; split <;> exact ⟨rfl, rfl, rfl, rfl, rfl, rfl, rfl⟩
theorem bsS_k (M : SS) : ∀ n, bsS M n 1 = M 1 ∧ bsS M n 2 = M 2 ∧ bsS M n 3 = M 3 ∧ bsS M n 4 = M 4 ∧ bsS M n 5 = M 5 ∧ bsS M n 0 2 = M 0 2 ∧ bsS M n 0 6 = M 0 6
  | 0 => ⟨rfl, rfl, rfl, rfl, rfl, rfl, rfl⟩
  | n + 1 => by
    obtain ⟨a1, a2, a3, a4, a5, a6, a7⟩ := bsS_k M n
    obtain ⟨b1, b2, b3, b4, b5, b6, b7⟩ := mMore_k (bsS M n) (nI n)
    exact ⟨b1.trans a1, b2.trans a2, b3.trans a3, b4.trans a4, b5.trans a5, b6.trans a6, b7.trans a7⟩
