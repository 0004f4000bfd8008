/-! what is asked of a pair of places -/
section
variable {s : Nat → Int32} {k : Nat}
theorem th_and (s : Nat → Int32) (k : Nat) : bt (rTh s) k = (bt (rK s) k && bt (s 0) k) := bt_and _ _ _
theorem seen_c (hk : k < 28) : (rSeen s (nI k) = -6 ∧ bt (rK s) k = false ∧ bt (rTh s) k = false) ∨ (rSeen s (nI k) = 1 ∧ bt (rK s) k = true ∧ bt (rTh s) k = true ∧ sb (s 0) (nI k) = 1) ∨ (rSeen s (nI k) = 0 ∧ bt (rK s) k = true ∧ bt (rTh s) k = false ∧ sb (s 0) (nI k) = 0) := by
  have h32 : k < 32 := by omega
  have e := th_and s k
  cases hK : bt (rK s) k
  · rw [hK] at e
    exact Or.inl ⟨if_pos ((sb_0 h32).mpr hK), rfl, by rw [e]; rfl⟩
  · rw [hK] at e
    have h1 : rSeen s (nI k) = sb (rTh s) (nI k) := if_neg fun z => by rw [(sb_0 h32).mp z] at hK; exact absurd hK (by decide)
    cases hT : bt (s 0) k
    · rw [hT] at e
      refine Or.inr (Or.inr ⟨?_, rfl, e, (sb_0 h32).mpr hT⟩)
      rw [h1]; exact (sb_0 h32).mpr e
    · rw [hT] at e
      refine Or.inr (Or.inl ⟨?_, rfl, e, ?_⟩)
      · rw [h1, sb_k _ h32, e]; rfl
      · rw [sb_k _ h32, hT]; rfl
theorem sb_iB (x : Int32) (hk : k < 28) : sb x (nI k) = iB (bt x k) := by
  rw [sb_k _ (show k < 32 by omega)]; rfl
theorem rem3_k (hk : k < 28) : nI k - nI k / 3 * 3 = nI (k % 3) := rem3_n (by omega)
theorem rem3_k1 (hk : k < 28) : nI k + 1 - (nI k + 1) / 3 * 3 = nI ((k + 1) % 3) := by
  rw [nI_1]; exact rem3_n (by omega)
theorem knows_own {a b : Nat} (he : eI (nI a) (nI b) = nI k) (hk : k < 28) : rKnows s (nI (k % 3)) (nI a) (nI b) = sb (s 0) (nI k) := by
  unfold rKnows; rw [he]; exact if_pos (rem3_n (by omega))
theorem knows_next {a b : Nat} (he : eI (nI a) (nI b) = nI k) (hk : k < 28) : rKnows s (nI ((k + 1) % 3)) (nI a) (nI b) = rSeen s (nI k) := by
  unfold rKnows; rw [he]
  refine if_neg fun z => ?_
  have e : rem3 (nI k) = nI (k % 3) := rem3_n (by omega)
  rw [e] at z
  have := (nI_eq (by omega) (by omega)).mp z
  omega
theorem sb_bool (x e : Int32) : ∃ b : Bool, sb x e = iB b := by
  rcases sb_01 x e with h | h
  · exact ⟨false, h⟩
  · exact ⟨true, h⟩
def cj (x y z : Bool) : Int32 := ((0 ||| iB x <<< (nI 0 &&& 31)) ||| iB y <<< (nI 1 &&& 31)) ||| iB z <<< (nI 2 &&& 31)
theorem clJ_c (s : Nat → Int32) (c : Nat) (hk : k < 28) : clJ s c (nI k) 3 = cj (bt (s (c + 0)) k) (bt (s (c + 1)) k) (bt (s (c + 2)) k) := by
  show ((0 ||| sb (s (c + 0)) (nI k) <<< (nI 0 &&& 31)) ||| sb (s (c + 1)) (nI k) <<< (nI 1 &&& 31)) ||| sb (s (c + 2)) (nI k) <<< (nI 2 &&& 31) = _
  rw [sb_iB _ hk, sb_iB _ hk, sb_iB _ hk]
  rfl
theorem cj_range : ∀ x y z : Bool, 0 ≤ cj x y z ∧ cj x y z < 8 := by decide +kernel
theorem cj_and : ∀ x y z u v w : Bool, (x && u) = false → (y && v) = false → (z && w) = false → cj x y z &&& cj u v w = 0 := by decide +kernel
theorem cj_or0 : ∀ x y z u v w : Bool, ((cj x y z ||| cj u v w) >>> ((0 : Int32) &&& 31)) &&& 1 = iB (x || u) := by decide +kernel
theorem cj_or1 : ∀ x y z u v w : Bool, ((cj x y z ||| cj u v w) >>> ((1 : Int32) &&& 31)) &&& 1 = iB (y || v) := by decide +kernel
theorem cj_or2 : ∀ x y z u v w : Bool, ((cj x y z ||| cj u v w) >>> ((2 : Int32) &&& 31)) &&& 1 = iB (z || w) := by decide +kernel
theorem yn_0 (hg : Good s) (hk : k < 28) : clJ s 11 (nI k) 3 &&& clJ s 14 (nI k) 3 = 0 := by
  obtain ⟨n, d, tr, -, -, -, -, -, -, -, -, -, -, h, -⟩ := hg
  have key : ∀ p, p < 3 → (bt (s (11 + p)) k && bt (s (14 + p)) k) = false := fun p hp => by
    have e := congrArg (fun z => bt z k) (h p hp)
    simp only [bt_and, bt_z] at e
    exact e
  rw [clJ_c s 11 hk, clJ_c s 14 hk]
  exact cj_and _ _ _ _ _ _ (key 0 (by decide)) (key 1 (by decide)) (key 2 (by decide))
theorem yn_r (s : Nat → Int32) (c : Nat) (hk : k < 28) : 0 ≤ clJ s c (nI k) 3 ∧ clJ s c (nI k) 3 < 8 := by
  rw [clJ_c s c hk]; exact cj_range _ _ _
def cB (s : Nat → Int32) (p k : Nat) : Bool := bt (s (11 + p)) k || bt (s (14 + p)) k
theorem yn_p0 (s : Nat → Int32) (hk : k < 28) : ((clJ s 11 (nI k) 3 ||| clJ s 14 (nI k) 3) >>> ((0 : Int32) &&& 31)) &&& 1 = iB (cB s 0 k) := by
  rw [clJ_c s 11 hk, clJ_c s 14 hk]; exact cj_or0 _ _ _ _ _ _
theorem yn_p1 (s : Nat → Int32) (hk : k < 28) : ((clJ s 11 (nI k) 3 ||| clJ s 14 (nI k) 3) >>> ((1 : Int32) &&& 31)) &&& 1 = iB (cB s 1 k) := by
  rw [clJ_c s 11 hk, clJ_c s 14 hk]; exact cj_or1 _ _ _ _ _ _
theorem yn_p2 (s : Nat → Int32) (hk : k < 28) : ((clJ s 11 (nI k) 3 ||| clJ s 14 (nI k) 3) >>> ((2 : Int32) &&& 31)) &&& 1 = iB (cB s 2 k) := by
  rw [clJ_c s 11 hk, clJ_c s 14 hk]; exact cj_or2 _ _ _ _ _ _
/-- what is revealed is known -/
theorem rev_known (hx : GX s) (hk : k < 28) : sb (s 17) (nI k) = 0 ∨ bt (rK s) k = true := by
  by_cases hb : 0 < s 6
  · cases hV : bt (s 17) k
    · exact Or.inl ((sb_0 (show k < 32 by omega)).mpr hV)
    · right
      have e : rK s = KK (s 0) (s 17) := if_pos hb
      rw [e]; exact KK_ge _ _ _ hV
  · left
    obtain ⟨pu, li, ch, hi, di, n, d, w, -, -, -, -, -, -, -, -, h0, -⟩ := hx.2
    rw [h0 hb, sb_0 (show k < 32 by omega)]; exact bt_z _
theorem pc_lt {x y : Int32} (hs : ∀ i, bt x i = true → bt y i = true) {j : Nat} (hj : j < 32) (h1 : bt x j = false) (h2 : bt y j = true) : pcN x < pcN y := by
  have h := ct_grow (p := bt x) (q := bt y) h1 h2 hj (fun i _ => hs i)
  exact h
/-- one road more shows nothing new if and only if it is known -/
theorem shows_c (hb : 0 < s 6) {a b : Nat} (he : eI (nI a) (nI b) = nI k) (hw : wrE (nI a) (nI b) = 0) (hk : k < 28) : (bt (rK s) k = true → rShows s (nI a) (nI b) = 0) ∧ (bt (rK s) k = false → ¬ rShows s (nI a) (nI b) = 0) := by
  have e : rShows s (nI a) (nI b) = rMore s (nI k) := by unfold rShows; rw [if_pos hw, if_pos hb, he]
  rw [e]
  have h32 : k < 32 := by omega
  unfold rMore
  rw [sb_k _ h32]
  constructor
  · intro h; rw [h]; rfl
  · intro h
    rw [h]
    rw [if_neg (by decide)]
    have e1 : rKn s (s 17 ||| (1 : Int32) <<< (nI k &&& 31)) = KK (s 0) (s 17 ||| one k) := if_pos hb
    have e2 : rK s = KK (s 0) (s 17) := if_pos hb
    rw [e1, e2]
    rw [e2] at h
    intro z
    have hlt : pcN (KK (s 0) (s 17)) < pcN (KK (s 0) (s 17 ||| one k)) := by
      refine pc_lt (fun i hi => ?_) h32 h (KK_ge _ _ _ (by rw [bt_or, bt_one h32, decide_eq_true rfl, Bool.or_true]))
      rw [← KK_or]
      exact KK_ge _ _ _ (by rw [bt_or, hi]; rfl)
    have b1 := pcN_le (KK (s 0) (s 17 ||| one k))
    have e3 : pcI (KK (s 0) (s 17 ||| one k)) - pcI (KK (s 0) (s 17)) = nI (pcN (KK (s 0) (s 17 ||| one k)) - pcN (KK (s 0) (s 17))) := nI_subN (by omega)
    rw [e3] at z
    have := (nI_eq (b := 0) (by omega) (by decide)).mp z
    omega
theorem rch_0 {r : Int32} {f b : Nat} (h : rch r f 0 b) : f = b := Eq.symm h
theorem rch_adj {r : Int32} {a b : Nat} (hne : a ≠ b) (h : rch r a 1 b) : adjP r a b := by
  rcases h with h | ⟨c, -, h1, h2⟩
  · exact absurd (rch_0 h) hne
  · have e : a = c := rch_0 h1
    subst e; exact h2
theorem adj_rch {r : Int32} {a b : Nat} (ha : a < 8) (h : adjP r a b) : rch r a 1 b := Or.inr ⟨a, ha, rfl, h⟩
/-- a way of one step is a road that is known to be there -/
theorem way_1 {a b : Nat} (ha : a < 8) (hb : b < 8) (hne : a ≠ b) (he : eI (nI a) (nI b) = nI k) (hk : k < 28) : wayV s a b = 1 ↔ bt (rTh s) k = true := by
  have h32 : k < 32 := by omega
  have hd := dist_isD (r := rTh s) ha hb
  have hadj : adjP (rTh s) a b ↔ bt (rTh s) k = true := by
    unfold adjP
    rw [he, sb_k _ h32]
    constructor
    · rintro ⟨-, h⟩
      by_cases z : bt (rTh s) k = true
      · exact z
      · rw [if_neg z] at h; exact absurd h (by decide)
    · intro h; exact ⟨hne, if_pos h⟩
  rw [← hadj]
  unfold wayV
  constructor
  · intro h
    rcases hd with ⟨m, hm, e, hr, -⟩ | ⟨e, -⟩
    · rw [e] at h
      have h99 : ¬ nI m = 99 := fun z => absurd ((nI_eq (b := 99) (by omega) (by decide)).mp z) (by omega)
      rw [if_neg h99] at h
      have em : m = 1 := (nI_eq (b := 1) (by omega) (by decide)).mp h
      subst em
      exact rch_adj hne hr
    · rw [e, if_pos rfl] at h; exact absurd h (by decide)
  · intro h
    have hr1 : rch (rTh s) a 1 b := adj_rch ha h
    have hr0 : ¬ rch (rTh s) a 0 b := fun z => hne (rch_0 z)
    rcases hd with ⟨m, hm, e, hr, hmin⟩ | ⟨e, hno⟩
    · have em : m = 1 := by
        rcases (show m = 0 ∨ m = 1 ∨ 1 < m by omega) with rfl | rfl | z
        · exact absurd hr hr0
        · rfl
        · exact absurd hr1 (hmin 1 z)
      subst em
      rw [e]; decide
    · exact absurd hr1 (hno 1 (by decide))
theorem way_sym {a b : Nat} (ha : a < 8) (hb : b < 8) : wayV s a b = wayV s b a := by
  unfold wayV; rw [dist_sym _ ha hb]
end
