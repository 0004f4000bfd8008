/-! the class against a row of ghosts: M 1 the game, M 2 what undo brings back, M 3 and M 4 the slots; M 5 the pad but for its first sign -/
def mPd (M : SS) (L : Nat) (P : Nat → Int32) : SS := upC (up2 M 0 6 (nI L)) 5 P
def RelK (S M : SS) : Prop := ∃ (L : Nat) (x : Int32), Rel S (mPd M L (upd (M 5) 0 x))
def GX (s : Nat → Int32) : Prop := Good s ∧ Ext s
theorem GX.congrS {s s2 : Nat → Int32} (h : GX s) (e : ∀ k, k < 182 → s2 k = s k) : GX s2 := ⟨h.1.congrS e, ExtN.congr h.2 fun k _ h2 => e k (by omega)⟩
def npM (M : SS) : Nat := (M 0 2).toNatClampNeg
def InvM (M : SS) : Prop := GX (M 1) ∧ (npM M ≤ 6 ∧ M 0 2 = nI (npM M) ∧ ∀ j, j < npM M → GX (row (M 2) (182 * j))) ∧ ∀ q, q < 2 → ¬ M 4 q = 0 → GX (row (M 3) (182 * q))
theorem InvM.congr {M M2 : SS} (h : InvM M) (e1 : M2 1 = M 1) (e2 : M2 2 = M 2) (e3 : M2 3 = M 3) (e4 : M2 4 = M 4) (e0 : M2 0 2 = M 0 2) : InvM M2 := by
  have en : npM M2 = npM M := by unfold npM; rw [e0]
  unfold InvM
  rw [en, e1, e2, e3, e4, e0]
  exact h
def chV (bar val : Int32) : Int32 := if bar = 0 then val else bar
def mDone (M : SS) (s2 : Nat → Int32) : SS := upC (rRec M (npM M)) 1 s2
def chM (M : SS) (bar : Int32) (s2 : Nat → Int32) : SS := if bar = 0 then mDone M s2 else M
theorem clamp_6 {n : Nat} (h : n ≤ 6) : (nI n).toNatClampNeg = n := nI_clamp (by omega)
/-- the past behind a change -/
theorem inv_rec {M : SS} (h : InvM M) : npM (rRec M (npM M)) ≤ 6 ∧ rRec M (npM M) 0 2 = nI (npM (rRec M (npM M))) ∧ ∀ j, j < npM (rRec M (npM M)) → GX (row (rRecP M (npM M)) (182 * j)) := by
  obtain ⟨h1, ⟨h6, e, hr⟩, -⟩ := h
  have e2 : rRec M (npM M) 0 2 = nI (if npM M = 6 then 6 else npM M + 1) := rfl
  have en : npM (rRec M (npM M)) = if npM M = 6 then 6 else npM M + 1 := by
    unfold npM
    rw [show rRec M (M 0 2).toNatClampNeg 0 2 = nI (if npM M = 6 then 6 else npM M + 1) from e2]
    exact clamp_6 (by split <;> omega)
  rw [en]
  refine ⟨by split <;> omega, e2, fun j hj => ?_⟩
  by_cases z : npM M = 6
  · rw [if_pos z] at hj
    rw [z]
    by_cases y : j = 5
    · subst y; exact h1.congrS fun k hk => recP_65 hk
    · exact (hr (j + 1) (by omega)).congrS fun k hk => recP_6 (by omega) hk
  · rw [if_neg z] at hj
    by_cases y : j = npM M
    · subst y; exact h1.congrS fun k hk => recP_at (by omega) hk
    · exact (hr j (by omega)).congrS fun k hk => recP_lo (by omega) (by omega) hk
theorem inv_done {M : SS} {s2 : Nat → Int32} (h : InvM M) (hs : GX s2) : InvM (mDone M s2) := ⟨hs, inv_rec h, h.2.2⟩
theorem inv_ch {M : SS} {bar : Int32} {s2 : Nat → Int32} (h : InvM M) (hs : bar = 0 → GX s2) : InvM (chM M bar s2) := by
  unfold chM
  by_cases z : bar = 0
  · rw [if_pos z]; exact inv_done h (hs z)
  · rw [if_neg z]; exact h
theorem npM_of {S M : SS} {f np : Nat} (hp : RelP S M f np) : npM M = np := by
  unfold npM; rw [hp.2.2.2.2.1]; exact clamp_6 hp.2.2.1
/-- a change, done or refused -/
theorem change {S M : SS} {L f np : Nat} {P : Nat → Int32} {r bar val : Int32} {G2 : SS} {s2 : Nat → Int32} (h : Rel S (mPd M L P)) (hp : RelP S (mPd M L P) f np) (hO : Outc r bar val G2 (M 1) s2) (hg : bar = 0 → Good s2) : r = chV bar val ∧ Rel (finK (putG (holdK S f) 1 7 G2) f np r) (mPd (chM M bar s2) L P) := by
  rcases hO with ⟨hb, hv, h0, hV⟩ | ⟨hb, hv, hV⟩
  · refine ⟨by unfold chV; rw [if_pos hb]; exact hv, ?_⟩
    unfold chM; rw [if_pos hb]
    have en : npM M = np := npM_of hp
    unfold mDone; rw [en]
    exact h.done hp h0 hV (hg hb) rfl rfl rfl rfl rfl rfl
  · have hn : ¬ bar = 0 := fun z => by rw [z] at hb; exact absurd hb (by decide)
    refine ⟨by unfold chV; rw [if_neg hn]; exact hv, ?_⟩
    unfold chM; rw [if_neg hn]
    exact h.fail hp (by rw [hv]; exact hb) hV
theorem RelK.of {S M : SS} {L : Nat} {x : Int32} (h : Rel S (mPd M L (upd (M 5) 0 x))) : RelK S M := ⟨L, x, h⟩
theorem chM_5 (M : SS) (bar : Int32) (s2 : Nat → Int32) : chM M bar s2 5 = M 5 := by unfold chM; split <;> rfl
theorem RelK.ch {S M : SS} {L : Nat} {x bar : Int32} {s2 : Nat → Int32} (h : Rel S (mPd (chM M bar s2) L (upd (M 5) 0 x))) : RelK S (chM M bar s2) := ⟨L, x, by rw [chM_5]; exact h⟩
def OpK (l : Launch) (y : MethodName) (cc : ByteArray) (nL : Nat) (rm : Room) (as : List Value) (M : SS) (v : Int32) (M2 : SS) : Prop := ∀ S, RelK S M → ∃ S2, CtS l y cc nL (some .int) rm (.ref 0 :: as) 77 shK S (some (.int v)) S2 ∧ RelK S2 M2
def AskK (l : Launch) (y : MethodName) (cc : ByteArray) (nL : Nat) (rm : Room) (as : List Value) (M : SS) (v : Int32) : Prop := ∀ S, RelK S M → CtS l y cc nL (some .int) rm (.ref 0 :: as) 77 shK S (some (.int v)) S
/-! the changes -/
abbrev barBegin (s : Nat → Int32) : Int32 := if 0 < s 6 then -5 else 0
abbrev barPass (s : Nat → Int32) : Int32 := if s 6 = 1 then 0 else -5
abbrev barSet (k v : Int32) : Int32 := if (0 ≤ k ∧ k ≤ 3) ∧ loS k ≤ v ∧ v ≤ hiS k then 0 else -2
theorem barBegin_0 {s : Nat → Int32} (h : barBegin s = 0) : ¬ 0 < s 6 := fun z => by unfold barBegin at h; rw [if_pos z] at h; exact absurd h (by decide)
theorem barPass_0 {s : Nat → Int32} (h : barPass s = 0) : s 6 = 1 := Decidable.byContradiction fun z => by unfold barPass at h; rw [if_neg z] at h; exact absurd h (by decide)
theorem barSet_0 {k v : Int32} (h : barSet k v = 0) : (0 ≤ k ∧ k ≤ 3) ∧ loS k ≤ v ∧ v ≤ hiS k := Decidable.byContradiction fun z => by unfold barSet at h; rw [if_neg z] at h; exact absurd h (by decide)
theorem ok_road (l : Launch) {M : SS} (a b : Int32) : OpK l yX6_road cX6_road 3 (rmD 4) [.int a, .int b] M (chV (rBarRoad (M 1) a b) (pcI (M 1 0 ^^^ bitE a b))) (chM M (rBarRoad (M 1) a b) (rLays (M 1) a b)) := by
  rintro S ⟨L, x, h⟩
  obtain ⟨f, np, hp⟩ := h.2.1
  obtain ⟨r, G2, hC, hO⟩ := op_road l (h.hold hp.1) h.1.2 a b
  obtain ⟨e, hR⟩ := change h hp hO fun hb => good_road h.1.2 hb
  exact ⟨_, e ▸ ct_X6_road l S a b hp.1 hp.2.1 hp.2.2.1 hp.2.2.2.1 h.1.1.began.2 hC, RelK.ch hR⟩
theorem ok_treasure (l : Launch) {M : SS} (a : Int32) : OpK l yX6_treasure cX6_treasure 2 (rmD 4) [.int a] M (chV (rBarTreasure (M 1) a) (M 1 1)) (chM M (rBarTreasure (M 1) a) (upd (M 1) 1 a)) := by
  rintro S ⟨L, x, h⟩
  obtain ⟨f, np, hp⟩ := h.2.1
  obtain ⟨r, G2, hC, hO⟩ := op_treasure l (h.hold hp.1) h.1.2 a
  obtain ⟨e, hR⟩ := change h hp hO fun hb => good_treasure h.1.2 hb
  exact ⟨_, e ▸ ct_X6_treasure l S a hp.1 hp.2.1 hp.2.2.1 hp.2.2.2.1 h.1.1.began.2 hC, RelK.ch hR⟩
theorem ok_begin (l : Launch) {M : SS} : OpK l yX6_begin cX6_begin 1 (rmD 4) [] M (chV (barBegin (M 1)) (pcI (rKn (upd (M 1) 6 1) (M 1 17)))) (chM M (barBegin (M 1)) (upd (M 1) 6 1)) := by
  rintro S ⟨L, x, h⟩
  obtain ⟨f, np, hp⟩ := h.2.1
  obtain ⟨r, G2, hC, hO⟩ := op_begin l (h.hold hp.1) h.1.2
  obtain ⟨e, hR⟩ := change h hp hO fun hb => good_begin h.1.2 (barBegin_0 hb)
  exact ⟨_, e ▸ ct_X6_begin l S hp.1 hp.2.1 hp.2.2.1 hp.2.2.2.1 h.1.1.began.2 hC, RelK.ch hR⟩
theorem ok_pass (l : Launch) {M : SS} : OpK l yX6_pass cX6_pass 1 (rmD 4) [] M (chV (barPass (M 1)) (rem3 (rEnds (M 1) 7))) (chM M (barPass (M 1)) (rEnds (M 1))) := by
  rintro S ⟨L, x, h⟩
  obtain ⟨f, np, hp⟩ := h.2.1
  obtain ⟨r, G2, hC, hO⟩ := op_pass l (h.hold hp.1) h.1.2
  obtain ⟨e, hR⟩ := change h hp hO fun hb => good_ends h.1.2 (barPass_0 hb)
  exact ⟨_, e ▸ ct_X6_pass l S hp.1 hp.2.1 hp.2.2.1 hp.2.2.2.1 h.1.1.began.2 hC, RelK.ch hR⟩
theorem ok_claim (l : Launch) {M : SS} (a b c : Int32) : OpK l yX6_claim cX6_claim 4 (rmD 4) [.int a, .int b, .int c] M (chV (rBarClaim (M 1) a b c) (rClaims (rSays (M 1) (nT (M 1)) (bitE a b) c) (nT (M 1)))) (chM M (rBarClaim (M 1) a b c) (rSays (M 1) (nT (M 1)) (bitE a b) c)) := by
  rintro S ⟨L, x, h⟩
  obtain ⟨f, np, hp⟩ := h.2.1
  obtain ⟨r, G2, hC, hO⟩ := op_claim l (h.hold hp.1) h.1.2 a b c
  obtain ⟨e, hR⟩ := change h hp hO fun hb => good_says h.1.2 hb
  exact ⟨_, e ▸ ct_X6_claim l S a b c hp.1 hp.2.1 hp.2.2.1 hp.2.2.2.1 h.1.1.began.2 hC, RelK.ch hR⟩
theorem ok_check (l : Launch) {M : SS} (q a b : Int32) : OpK l yX6_check cX6_check 4 (rmD 6) [.int q, .int a, .int b] M (chV (rBarCheck (M 1) q a b) (lieI (M 1) q.toNatClampNeg (bitE a b))) (chM M (rBarCheck (M 1) q a b) (rChecks (M 1) (nT (M 1)) q.toNatClampNeg (bitE a b))) := by
  rintro S ⟨L, x, h⟩
  obtain ⟨f, np, hp⟩ := h.2.1
  obtain ⟨r, G2, hC, hO⟩ := op_check l (h.hold hp.1) h.1.2 q a b
  obtain ⟨e, hR⟩ := change h hp hO fun hb => good_checks h.1.2 hb
  exact ⟨_, e ▸ ct_X6_check l S q a b hp.1 hp.2.1 hp.2.2.1 hp.2.2.2.1 h.1.1.began.2 hC, RelK.ch hR⟩
theorem ok_dig (l : Launch) {M : SS} (a : Int32) : OpK l yX6_dig cX6_dig 2 (rmD 5) [.int a] M (chV (rBarDig (M 1) (nT (M 1)) a) (distI (M 1 0) a (M 1 1))) (chM M (rBarDig (M 1) (nT (M 1)) a) (rDigs (M 1) (nT (M 1)) (nD (M 1)) a.toNatClampNeg (distI (M 1 0) a (M 1 1)))) := by
  rintro S ⟨L, x, h⟩
  obtain ⟨f, np, hp⟩ := h.2.1
  obtain ⟨r, G2, hC, hO⟩ := op_dig l (h.hold hp.1) h.1.2 a
  obtain ⟨e, hR⟩ := change h hp hO fun hb => good_digs h.1.2 hb
  exact ⟨_, e ▸ ct_X6_dig l S a hp.1 hp.2.1 hp.2.2.1 hp.2.2.2.1 h.1.1.began.2 hC, RelK.ch hR⟩
theorem ok_set (l : Launch) {M : SS} (a b : Int32) : OpK l yX6_set cX6_set 3 (rmD 4) [.int a, .int b] M (chV (barSet a b) (M 1 (2 + a.toNatClampNeg))) (chM M (barSet a b) (upd (M 1) (2 + a.toNatClampNeg) b)) := by
  rintro S ⟨L, x, h⟩
  obtain ⟨f, np, hp⟩ := h.2.1
  obtain ⟨r, G2, hC, hO⟩ := op_set l (h.hold hp.1) h.1.2 a b
  obtain ⟨e, hR⟩ := change h hp hO fun hb => by
    obtain ⟨h1, h2, -⟩ := barSet_0 hb
    obtain ⟨k, hk4, rfl⟩ := k_4 h1
    rw [nI_clamp (by omega)]
    exact good_set h.1.2 hk4 (Int32.le_trans (lo_0 _) h2)
  exact ⟨_, e ▸ ct_X6_set l S a b hp.1 hp.2.1 hp.2.2.1 hp.2.2.2.1 h.1.1.began.2 hC, RelK.ch hR⟩
/-! they keep what holds -/
theorem inv_road {M : SS} (h : InvM M) (a b : Int32) : InvM (chM M (rBarRoad (M 1) a b) (rLays (M 1) a b)) := inv_ch h fun hb => ⟨good_road h.1.1 hb, ext_road h.1.2⟩
theorem inv_treasure {M : SS} (h : InvM M) (a : Int32) : InvM (chM M (rBarTreasure (M 1) a) (upd (M 1) 1 a)) := inv_ch h fun hb => ⟨good_treasure h.1.1 hb, ext_treasure h.1.2⟩
theorem inv_begin {M : SS} (h : InvM M) : InvM (chM M (barBegin (M 1)) (upd (M 1) 6 1)) := inv_ch h fun hb => ⟨good_begin h.1.1 (barBegin_0 hb), ext_begin h.1.2 (barBegin_0 hb)⟩
theorem inv_pass {M : SS} (h : InvM M) : InvM (chM M (barPass (M 1)) (rEnds (M 1))) := inv_ch h fun hb => ⟨good_ends h.1.1 (barPass_0 hb), ext_pass h.1.2 h.1.1 (barPass_0 hb)⟩
theorem inv_claim {M : SS} (h : InvM M) (a b c : Int32) : InvM (chM M (rBarClaim (M 1) a b c) (rSays (M 1) (nT (M 1)) (bitE a b) c)) := inv_ch h fun hb => ⟨good_says h.1.1 hb, extb_claim h.1.2 h.1.1 hb⟩
theorem inv_check {M : SS} (h : InvM M) (q a b : Int32) : InvM (chM M (rBarCheck (M 1) q a b) (rChecks (M 1) (nT (M 1)) q.toNatClampNeg (bitE a b))) := inv_ch h fun hb => ⟨good_checks h.1.1 hb, extb_check h.1.2 h.1.1 hb⟩
theorem inv_dig {M : SS} (h : InvM M) (a its : Int32) : InvM (chM M (rBarDig (M 1) (nT (M 1)) a) (rDigs (M 1) (nT (M 1)) (nD (M 1)) a.toNatClampNeg its)) := inv_ch h fun hb => ⟨good_digs h.1.1 hb, extb_dig h.1.2 h.1.1 hb⟩
theorem inv_set {M : SS} (h : InvM M) (a b : Int32) : InvM (chM M (barSet a b) (upd (M 1) (2 + a.toNatClampNeg) b)) := inv_ch h fun hb => by
  obtain ⟨h1, h2, h3⟩ := barSet_0 hb
  obtain ⟨k, hk4, rfl⟩ := k_4 h1
  rw [nI_clamp (by omega)]
  exact ⟨good_set h.1.1 hk4 (Int32.le_trans (lo_0 _) h2), ext_set h.1.2 hk4 h2 h3⟩
