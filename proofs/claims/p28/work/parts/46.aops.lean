/-! undo, saving, restoring -/
def vUndo (M : SS) : Int32 := if npM M = 0 then -5 else nI (npM M - 1)
def mUndK (M : SS) : SS := if npM M = 0 then M else mUndo M (npM M - 1)
theorem mUndK_5 (M : SS) : mUndK M 5 = M 5 := by unfold mUndK; split <;> rfl
theorem ok_undo (l : Launch) {M : SS} : OpK l yX6_undo cX6_undo 1 (rmD 4) [] M (vUndo M) (mUndK M) := by
  rintro S ⟨L0, x, h⟩
  obtain ⟨hV, ⟨f, np, hp0⟩, ⟨L, hL⟩, hs⟩ := id h
  have en : npM M = np := npM_of hp0
  obtain ⟨hf, hF, h6, hQ, hM, hc⟩ := hp0
  unfold vUndo RelK
  rw [mUndK_5]
  unfold mUndK
  rw [en]
  rcases Nat.eq_zero_or_pos np with rfl | h0
  · exact ⟨_, ct_X6_undo_no l S hf hF hQ, ⟨L0, x, h⟩⟩
  · obtain ⟨q, rfl⟩ : ∃ q, np = q + 1 := ⟨np - 1, by omega⟩
    rw [if_neg (Nat.succ_ne_zero q), if_neg (Nat.succ_ne_zero q), Nat.add_sub_cancel]
    have hl := hc q (by omega)
    have ec : (f + 7 - (q + 1) + q) % 7 = (f + 6) % 7 := by rw [show f + 7 - (q + 1) + q = f + 6 by omega]
    rw [ec] at hl
    have hb : S (10 + 7 * ((f + 6) % 7)) 3 = 0 ∨ S (10 + 7 * ((f + 6) % 7)) 3 = 1 := hl.1.began.2
    have bk : ∀ k, k < 1 ∨ 8 < k → backK S f (q + 1) k = S k := by
      intro k hk
      unfold backK up2
      rw [upC_ne (by omega), upC_ne (by omega)]
      exact putG_out (by omega)
    have b1 : ∀ i, i < 7 → backK S f (q + 1) (1 + i) = S (10 + 7 * ((f + 6) % 7) + i) := by
      intro i hi
      unfold backK up2
      rw [upC_ne (by omega), upC_ne (by omega)]
      exact putG_in hi
    refine ⟨_, ct_X6_undo l S hf hF (by omega) h6 hQ hb, L0, x, ?_⟩
    refine ⟨(hl.congr b1).congrS (fun k hk => ?_), ⟨(f + 6) % 7, q, Nat.mod_lt _ (by decide), ?_, by omega, ?_, rfl, fun j hj => ?_⟩, ⟨L, hL.1, ?_, hL.2.2.1, ?_⟩, hs.hi (fun k hk => bk k (by omega)) rfl rfl⟩
    · show putR (M 1) (fun k => M 2 (182 * q + k)) 0 182 k = M 2 (182 * q + k)
      rw [putR_in (by omega) (by omega)]; rfl
    · unfold backK up2; rw [upC_at, upC_at]; rfl
    · unfold backK up2; rw [upC_at]; rfl
    · have hh := hc j (by omega)
      have e : (f + 7 - (q + 1) + j) % 7 = ((f + 6) % 7 + 7 - q + j) % 7 := by omega
      rw [e] at hh
      exact hh.congr (fun i hi => bk _ (by omega))
    · rw [bk 59 (by omega)]; exact hL.2.1
    · rw [bk 60 (by omega)]; exact hL.2.2.2
theorem inv_undo {M : SS} (h : InvM M) : InvM (mUndK M) := by
  unfold mUndK
  by_cases z : npM M = 0
  · rw [if_pos z]; exact h
  · rw [if_neg z]
    obtain ⟨h1, ⟨h6, e, hr⟩, hs⟩ := h
    have en : npM (mUndo M (npM M - 1)) = npM M - 1 := clamp_6 (by omega)
    refine ⟨(hr (npM M - 1) (by omega)).congrS fun k hk => ?_, ⟨by omega, by rw [en]; rfl, fun j hj => hr j (by omega)⟩, hs⟩
    show putR (M 1) (fun k => M 2 (182 * (npM M - 1) + k)) 0 182 k = M 2 (182 * (npM M - 1) + k)
    rw [putR_in (by omega) (by omega)]; rfl
theorem ok_save (l : Launch) {M : SS} {q : Nat} (hq : q < 2) : OpK l yX6_save cX6_save 3 (rmD 3) [.int (nI q)] M (pcI (M 1 0)) (mSave M q) := by
  rintro S ⟨L0, x, h⟩
  have e0 : S 1 1 = M 1 0 := h.1.1.1.1
  have hb : S 1 3 = 0 ∨ S 1 3 = 1 := h.1.1.began.2
  rcases (show q = 0 ∨ q = 1 by omega) with rfl | rfl
  · have hC := ct_X6_save_0 l S hb
    rw [e0] at hC
    exact ⟨_, hC, L0, x, save_rel h (by decide)⟩
  · have hC := ct_X6_save_1 l S hb
    rw [e0] at hC
    exact ⟨_, hC, L0, x, save_rel h (by decide)⟩
theorem ok_save_bad (l : Launch) {M : SS} {a : Int32} (ha : ¬ (a = 0 ∨ a = 1)) : AskK l yX6_save cX6_save 3 (rmD 3) [.int a] M (-2) := fun S _ => ct_X6_save_bad l S a ha
theorem inv_save {M : SS} (h : InvM M) {q : Nat} (hq : q < 2) : InvM (mSave M q) := by
  obtain ⟨h1, hp, hs⟩ := h
  refine ⟨h1, hp, fun r hr h4 => ?_⟩
  by_cases e : r = q
  · subst e
    refine h1.congrS fun k hk => ?_
    show putR (M 3) (M 1) (182 * r) 182 (182 * r + k) = M 1 k
    rw [putR_in (by omega) (by omega)]; exact congrArg (M 1) (by omega)
  · have h4' : ¬ M 4 r = 0 := fun z => h4 ((upd_ne e).trans z)
    refine (hs r hr h4').congrS fun k hk => ?_
    show putR (M 3) (M 1) (182 * q) 182 (182 * r + k) = M 3 (182 * r + k)
    exact putR_out (by omega)
def vRest (M : SS) (q : Nat) : Int32 := if M 4 q = 0 then -5 else pcI (M 3 (182 * q))
def mResK (M : SS) (q : Nat) : SS := if M 4 q = 0 then M else mRest M (npM M) q
theorem mResK_5 (M : SS) (q : Nat) : mResK M q 5 = M 5 := by unfold mResK; split <;> rfl
theorem ok_restore (l : Launch) {M : SS} {q : Nat} (hq : q < 2) : OpK l yX6_restore cX6_restore 3 (rmD 4) [.int (nI q)] M (vRest M q) (mResK M q) := by
  rintro S ⟨L0, x, h⟩
  obtain ⟨f, np, hp⟩ := h.2.1
  have en : npM M = np := npM_of hp
  have hb : S 1 3 = 0 ∨ S 1 3 = 1 := h.1.1.began.2
  unfold vRest RelK
  rw [mResK_5]
  unfold mResK
  rw [en]
  rcases (show q = 0 ∨ q = 1 by omega) with rfl | rfl
  · rcases h.2.2.2 0 (by decide) with ⟨h4, hS⟩ | ⟨h4, hS, hV⟩
    · replace h4 : M 4 0 = 0 := h4
      rw [if_pos h4, if_pos h4]; exact ⟨_, ct_X6_restore_no0 l S hS, L0, x, h⟩
    · replace h4 : ¬ M 4 0 = 0 := h4
      have e : S 62 1 = M 3 (182 * 0) := hV.1.1.1
      have hC := ct_X6_restore_0 l S hp.1 hp.2.1 hp.2.2.1 hp.2.2.2.1 hb hS hV.1.began.2
      rw [e] at hC
      rw [if_neg h4, if_neg h4]
      exact ⟨_, hC, L0, x, (rest_rel h hp (by decide) hV).ref rfl rfl rfl rfl rfl rfl rfl⟩
  · rcases h.2.2.2 1 (by decide) with ⟨h4, hS⟩ | ⟨h4, hS, hV⟩
    · replace h4 : M 4 1 = 0 := h4
      rw [if_pos h4, if_pos h4]; exact ⟨_, ct_X6_restore_no1 l S hS, L0, x, h⟩
    · replace h4 : ¬ M 4 1 = 0 := h4
      have e : S 70 1 = M 3 (182 * 1) := hV.1.1.1
      have hC := ct_X6_restore_1 l S hp.1 hp.2.1 hp.2.2.1 hp.2.2.2.1 hb hS hV.1.began.2
      rw [e] at hC
      rw [if_neg h4, if_neg h4]
      exact ⟨_, hC, L0, x, (rest_rel h hp (by decide) hV).ref rfl rfl rfl rfl rfl rfl rfl⟩
theorem ok_restore_bad (l : Launch) {M : SS} {a : Int32} (ha : ¬ (a = 0 ∨ a = 1)) : AskK l yX6_restore cX6_restore 3 (rmD 4) [.int a] M (-2) := fun S _ => ct_X6_restore_bad l S a ha
theorem inv_restore {M : SS} (h : InvM M) {q : Nat} (hq : q < 2) : InvM (mResK M q) := by
  unfold mResK
  by_cases z : M 4 q = 0
  · rw [if_pos z]; exact h
  · rw [if_neg z]
    refine ⟨(h.2.2 q hq z).congrS fun k hk => ?_, inv_rec h, h.2.2⟩
    show putR (M 1) (fun k => M 3 (182 * q + k)) 0 182 k = M 3 (182 * q + k)
    rw [putR_in (by omega) (by omega)]; rfl
/-! the questions -/
section
variable {M : SS}
theorem ak_ofRoad (l : Launch) {a b : Int32} (c : Int32) (hw : wrE a b = 0) : AskK l yX6_ofRoad cX6_ofRoad 7 (rmD 4) [.int a, .int b, .int c] M (rOfRoad (M 1) a b c) := by
  rintro S ⟨L, x, h⟩
  have hC := ct_X6_ofRoad l S a b c hw
  rw [ofRoad_eq h.1.1 hw] at hC
  exact hC
theorem ak_ofRoad_w (l : Launch) {a b : Int32} (c : Int32) (hw : ¬ wrE a b = 0) : AskK l yX6_ofRoad cX6_ofRoad 7 (rmD 4) [.int a, .int b, .int c] M (wrE a b) := fun S _ => ct_X6_ofRoad_w l S a b c hw
theorem ak_knows (l : Launch) {p : Nat} {a b : Int32} (hp : p < 3) (hw : wrE a b = 0) : AskK l yX6_knows cX6_knows 5 (rmD 4) [.int (nI p), .int a, .int b] M (rKnows (M 1) (nI p) a b) := by
  rintro S ⟨L, x, h⟩
  have hC := ct_X6_knows l S (nI p) a b (pl_v hp) hw
  rw [show seenV (bitE a b) (S 1 5 ||| thirdV (nI p)) (S 1 1) = rKnows (M 1) (nI p) a b from knows_eq h.1.1 hw hp] at hC
  exact hC
theorem ak_knows_no (l : Launch) {q : Int32} (a b : Int32) (hp : ¬ (0 ≤ q ∧ q < 3)) : AskK l yX6_knows cX6_knows 5 (rmD 4) [.int q, .int a, .int b] M (-1) := fun S _ => ct_X6_knows_no l S q a b hp
theorem ak_knows_w (l : Launch) {q a b : Int32} (hp : 0 ≤ q ∧ q < 3) (hw : ¬ wrE a b = 0) : AskK l yX6_knows cX6_knows 5 (rmD 4) [.int q, .int a, .int b] M (wrE a b) := fun S _ => ct_X6_knows_w l S q a b hp hw
theorem ak_player (l : Launch) {p : Nat} (c : Int32) (hp : p < 3) : AskK l yX6_player cX6_player 4 (rmD 3) [.int (nI p), .int c] M (rPlayer (M 1) p c) := by
  rintro S ⟨L, x, h⟩
  have hC := ct_X6_player l S c hp
  rw [player_eq h.1.1 hp] at hC
  exact hC
theorem ak_player_no (l : Launch) {q : Int32} (c : Int32) (hp : ¬ (0 ≤ q ∧ q < 3)) : AskK l yX6_player cX6_player 4 (rmD 3) [.int q, .int c] M (-1) := fun S _ => ct_X6_player_no l S q c hp
theorem ak_place (l : Launch) {p : Nat} (c : Int32) (hp : p < 8) : AskK l yX6_place cX6_place 4 (rmD 2) [.int (nI p), .int c] M (rPlace (M 1) p (tolN (M 1) p (nD (M 1))) c) := by
  rintro S ⟨L, x, h⟩
  have hC := ct_X6_place l S c hp
  rw [place_eq h.1.1 hp] at hC
  exact hC
theorem ak_place_no (l : Launch) {q : Int32} (c : Int32) (hp : ¬ (0 ≤ q ∧ q < 8)) : AskK l yX6_place cX6_place 4 (rmD 2) [.int q, .int c] M (-1) := fun S _ => ct_X6_place_no l S q c hp
theorem ak_dug (l : Launch) {k : Nat} (hk : k < nD (M 1)) : AskK l yX6_dug cX6_dug 2 (rmD 1) [.int (nI k)] M (M 1 (32 + k)) := by
  rintro S ⟨L, x, h⟩
  have hd := good_d h.1.2
  have hd13 : S 1 13 = nI (nD (M 1)) := h.1.1.1.2.2.2.2.2.2.2.trans hd.1
  have h150 : nD (M 1) ≤ 150 := hd.2.1
  have hC := ct_X6_dug l S hk hd13 h150
  rw [show S 7 k = M 1 (32 + k) from h.1.1.2.2.2.2 k (by omega)] at hC
  exact hC
theorem ak_dug_no (l : Launch) {r : Int32} (hr : ¬ (0 ≤ r ∧ r < nI (nD (M 1)))) : AskK l yX6_dug cX6_dug 2 (rmD 1) [.int r] M (-1) := by
  rintro S ⟨L, x, h⟩
  have hd13 : S 1 13 = nI (nD (M 1)) := h.1.1.1.2.2.2.2.2.2.2.trans (good_d h.1.2).1
  exact ct_X6_dug_no l S r hr hd13
theorem rCount_len {s : Nat → Int32} {x y p c : Int32} (hc : ¬ c = 12) : rCount s x p c = rCount s y p c := by
  rcases sw_0_13 c with rfl | rfl | rfl | rfl | rfl | rfl | rfl | rfl | rfl | rfl | rfl | rfl | rfl | rfl | ho
  all_goals first
    | rfl
    | exact absurd rfl hc
    | (unfold rCount; rw [pick_out (k := 13) ho rfl, pick_out (k := 13) ho rfl])
theorem ak_count (l : Launch) {c : Int32} (hc : ¬ c = 12) : AskK l yX6_count cX6_count 2 (rmD 3) [.int c] M (rCount (M 1) 0 (M 0 2) c) := by
  rintro S ⟨L0, x, h⟩
  obtain ⟨f, np, hp⟩ := h.2.1
  obtain ⟨L, hL⟩ := h.2.2.1
  have hC := ct_X6_count l S c
  rw [count_eq h.1 hL.2.1 hL.2.2.1 hp.2.2.2.1 hp.2.2.2.2.1, rCount_len (y := 0) hc] at hC
  exact hC
theorem ak_shows (l : Launch) (a b : Int32) : AskK l yX6_shows cX6_shows 4 (rmD 4) [.int a, .int b] M (rShows (M 1) a b) := by
  rintro S ⟨L, x, h⟩
  have hC := ct_X6_shows l S a b
  rw [shows_eq h.1] at hC
  exact hC
theorem ak_bestShow (l : Launch) {a : Int32} (hw : a = 0 ∨ a = 1) : AskK l yX6_bestShow cX6_bestShow 6 (rmD 4) [.int a] M (if 0 < M 1 6 then rBest (M 1) a else -5) := by
  rintro S ⟨L, x, h⟩
  by_cases hb : 0 < M 1 6
  · have hb2 : ¬ S 1 3 = 0 := fun z => h.1.1.began.1.mp z hb
    have hC := ct_X6_bestShow l S a hw hb2
    obtain ⟨e1, e2⟩ := best_go h.1.1 hb 28 (Nat.le_refl _)
    have e : kBest (gm S 1) a = rBest (M 1) a := by unfold kBest rBest; rw [e1, e2]; rfl
    rw [e] at hC
    rw [if_pos hb]; exact hC
  · have hb2 : S 1 3 = 0 := h.1.1.began.1.mpr hb
    rw [if_neg hb]; exact ct_X6_bestShow_no l S a hw hb2
theorem ak_bestShow_bad (l : Launch) {a : Int32} (hw : ¬ (a = 0 ∨ a = 1)) : AskK l yX6_bestShow cX6_bestShow 6 (rmD 4) [.int a] M (-2) := fun S _ => ct_X6_bestShow_bad l S a hw
def wayV (s : Nat → Int32) (p q : Nat) : Int32 := if distI (rTh s) (nI p) (nI q) = 99 then -6 else distI (rTh s) (nI p) (nI q)
theorem ak_knownWay (l : Launch) {p q : Nat} (hp : p < 8) (hq : q < 8) : AskK l yX6_knownWay cX6_knownWay 4 (rmD 4) [.int (nI p), .int (nI q)] M (wayV (M 1) p q) := by
  rintro S ⟨L, x, h⟩
  have hC := ct_X6_knownWay l S (nI p) (nI q)
  have e : kWay S (nI p) (nI q) = wayV (M 1) p q := by
    unfold kWay wayV
    rw [if_pos ⟨pc_v hp, pc_v hq⟩, show S 1 1 &&& S 1 5 = rTh (M 1) from th_eq h.1.1]
  rw [e] at hC
  exact hC
theorem ak_knownWay_no (l : Launch) {a b : Int32} (hp : ¬ ((0 ≤ a ∧ a < 8) ∧ (0 ≤ b ∧ b < 8))) : AskK l yX6_knownWay cX6_knownWay 4 (rmD 4) [.int a, .int b] M (-1) := by
  intro S _
  have hC := ct_X6_knownWay l S a b
  have e : kWay S a b = -1 := if_neg hp
  rw [e] at hC
  exact hC
/-- where the treasure can be -/
theorem ak_canBe (l : Launch) (hg : Good (M 1)) : ∃ v : Int32, (¬ 0 < M 1 6 → v = 0) ∧ (0 < M 1 6 → 0 < v ∧ v < 256) ∧ AskK l yX6_canBe cX6_canBe 3 (rmD 5) [] M v := by
  obtain ⟨tr, htr, htr2⟩ := good_tr hg
  have hq0 : ∀ k, ∃ q, k < nD (M 1) → q < 8 ∧ M 1 (32 + k) = nI q := by
    obtain ⟨n, d, tr, -, h2, h3, h4, -, -, h7, -⟩ := hg
    intro k
    by_cases hk : k < nD (M 1)
    · have e : nD (M 1) = d := by unfold nD; rw [h3, nI_clamp (by omega)]
      obtain ⟨q, z⟩ := h7 k (by omega)
      exact ⟨q, fun _ => z⟩
    · exact ⟨0, fun z => absurd z hk⟩
  obtain ⟨q, hq⟩ : ∃ q : Nat → Nat, ∀ k, k < nD (M 1) → q k < 8 ∧ M 1 (32 + k) = nI (q k) := ⟨fun k => (hq0 k).choose, fun k => (hq0 k).choose_spec⟩
  have hbt := fun (p : Nat) (hp : p < 32) => bt_cbA (r := M 1 0) (q := q) (F := M 6) (a := if 0 < M 1 6 then 255 else 0) hp htr2 (nD (M 1)) (fun k hk => (hq k hk).1)
  refine ⟨cbA (M 1 0) q (M 6) tr (if 0 < M 1 6 then 255 else 0) (nD (M 1)), fun hb => ?_, fun hb => ?_, ?_⟩
  · apply bt_ext
    intro p hp
    have h2 := hbt p hp
    rw [show bt (if 0 < M 1 6 then 255 else 0) p = false by rw [if_neg hb, bt_z]] at h2
    rw [bt_z]
    cases z : bt (cbA (M 1 0) q (M 6) tr (if 0 < M 1 6 then 255 else 0) (nD (M 1))) p
    · rfl
    · exact absurd (h2.mp z).1 (by decide)
  · have e255 : ∀ p, p < 32 → bt (if 0 < M 1 6 then 255 else 0) p = decide (p < 8) := by
      rw [if_pos hb]; decide +kernel
    have hin : bt (cbA (M 1 0) q (M 6) tr (if 0 < M 1 6 then 255 else 0) (nD (M 1))) tr = true := by
      refine (hbt tr (by omega)).mpr ⟨?_, fun _ k hk => rfl⟩
      rw [e255 tr (by omega), decide_eq_true htr2]
    have hle : cbA (M 1 0) q (M 6) tr (if 0 < M 1 6 then 255 else 0) (nD (M 1)) = cbA (M 1 0) q (M 6) tr (if 0 < M 1 6 then 255 else 0) (nD (M 1)) &&& 255 := by
      apply bt_ext
      intro p hp
      rw [bt_and]
      have e8 : bt 255 p = decide (p < 8) := (show ∀ p, p < 32 → bt 255 p = decide (p < 8) by decide +kernel) p hp
      rw [e8]
      by_cases z : p < 8
      · rw [decide_eq_true z, Bool.and_true]
      · rw [decide_eq_false z, Bool.and_false]
        cases y : bt (cbA (M 1 0) q (M 6) tr (if 0 < M 1 6 then 255 else 0) (nD (M 1))) p
        · rfl
        · have := ((hbt p hp).mp y).1
          rw [e255 p hp, decide_eq_false z] at this
          exact absurd this (by decide)
    generalize cbA (M 1 0) q (M 6) tr (if 0 < M 1 6 then 255 else 0) (nD (M 1)) = v at hin hle ⊢
    have hb1 : ∃ n, n < 256 ∧ v = nI n := by
      refine ⟨v.toBitVec.toNat % 256, Nat.mod_lt _ (by decide), ?_⟩
      apply Int32.toBitVec_inj.mp
      have e1 : v.toBitVec.toNat = v.toBitVec.toNat &&& 255 := congrArg (fun z : Int32 => z.toBitVec.toNat) hle
      have e2 : v.toBitVec.toNat &&& 255 = v.toBitVec.toNat % 256 := Nat.and_two_pow_sub_one_eq_mod _ 8
      apply BitVec.eq_of_toNat_eq
      show v.toBitVec.toNat = (v.toBitVec.toNat % 256) % 2 ^ 32
      omega
    obtain ⟨n, hn, rfl⟩ := hb1
    have hn0 : 0 < n := by
      rcases Nat.eq_zero_or_pos n with rfl | z
      · rw [show nI 0 = (0 : Int32) from rfl, bt_z] at hin; exact absurd hin (by decide)
      · exact z
    exact ⟨(nI_ltI (a := 0) (by decide) (by omega)).mpr hn0, (nI_ltI (b := 256) (by omega) (by decide)).mpr hn⟩
  · rintro S ⟨L, x, h⟩
    by_cases hb : 0 < M 1 6
    · have hb2 : ¬ S 1 3 = 0 := fun z => h.1.1.began.1.mp z hb
      have hC := ct_X6_canBe l S hb2
      have e : cbK (gm S 1) 8 = cbA (M 1 0) q (M 6) tr (if 0 < M 1 6 then 255 else 0) (nD (M 1)) := by
        apply bt_ext
        intro p hp
        have h1 := bt_cbK (G := gm S 1) (p := p) 8 (Nat.le_refl _)
        have h2 := hbt p hp
        have e255 : bt (if 0 < M 1 6 then 255 else 0) p = decide (p < 8) := by
          rw [if_pos hb]
          have : ∀ p, p < 32 → bt 255 p = decide (p < 8) := by decide +kernel
          exact this p hp
        rw [e255, decide_eq_true_iff] at h2
        apply Bool.eq_iff_iff.mpr
        rw [h1, h2]
        constructor
        · rintro ⟨a1, a2⟩
          exact ⟨a1, fun _ => (fit_eq h.1.1 h.1.2 hq a1 htr htr2).mp a2⟩
        · rintro ⟨a1, a2⟩
          exact ⟨a1, (fit_eq h.1.1 h.1.2 hq a1 htr htr2).mpr (a2 a1)⟩
      rw [e] at hC
      exact hC
    · have hb2 : S 1 3 = 0 := h.1.1.began.1.mpr hb
      have e : cbA (M 1 0) q (M 6) tr (if 0 < M 1 6 then 255 else 0) (nD (M 1)) = 0 := by
        apply bt_ext
        intro p hp
        have h2 := hbt p hp
        rw [show bt (if 0 < M 1 6 then 255 else 0) p = false by rw [if_neg hb, bt_z]] at h2
        rw [bt_z]
        cases z : bt (cbA (M 1 0) q (M 6) tr (if 0 < M 1 6 then 255 else 0) (nD (M 1))) p
        · rfl
        · exact absurd (h2.mp z).1 (by decide)
      rw [e]
      exact ct_X6_canBe_no l S hb2
end
