/-! each change: the class and the reference answer alike, and go on alike -/
theorem fin_neg {S : SS} {f q : Nat} {r : Int32} (h : r < 0) : finK S f q r = S := if_neg (Int32.not_le.mpr h)
theorem fin_pos {S : SS} {f q : Nat} {r : Int32} (h : 0 ≤ r) : finK S f q r = keepK S f q := if_pos h
/-- a change that fails -/
theorem Rel.fail {S M G2 : SS} {f np : Nat} {r : Int32} (h : Rel S M) (hp : RelP S M f np) (hr : r < 0) (hV : Vs G2 (M 1)) : Rel (finK (putG (holdK S f) 1 7 G2) f np r) M := by
  rw [fin_neg hr]
  exact h.drop hp ⟨hV, h.1.2⟩
/-- a change that is done -/
theorem Rel.done {S M G2 M2 : SS} {f np : Nat} {r : Int32} (h : Rel S M) (hp : RelP S M f np) (hr : 0 ≤ r) (hV : Vs G2 (M2 1)) (hg : Good (M2 1)) (e2 : M2 2 = rRecP M np) (e3 : M2 3 = M 3) (e4 : M2 4 = M 4) (e5 : M2 5 = M 5) (e02 : M2 0 2 = nI (if np = 6 then 6 else np + 1)) (e06 : M2 0 6 = M 0 6) : Rel (finK (putG (holdK S f) 1 7 G2) f np r) M2 := by
  rw [fin_pos hr]
  have hf := hp.1
  refine h.keep hp ⟨hV.congr (fun i hi => ?_), hg⟩ e2 e3 e4 e02 ?_ (fun k h1 h2 => ?_) ?_ (fun k hk => ?_)
  · show keepK (putG (holdK S f) 1 7 G2) f np (1 + i) = G2 i
    rw [keepK_8 (by omega)]; exact putG_in hi
  · unfold keepK up2; rw [upC_at, upC_at, upC_at, upC_at, goK_8]
  · rw [keepK_8 (by omega), putG_hi (by omega)]
  · obtain ⟨-, -, ⟨L, hL⟩, -⟩ := h
    refine ⟨L, hL.1, ?_, e06.trans hL.2.2.1, ?_⟩
    · rw [keepK_8 (by decide), putG_hi (by decide), hold_hi hf (by decide)]; exact hL.2.1
    · rw [keepK_8 (by decide), putG_hi (by decide), hold_hi hf (by decide), e5]; exact hL.2.2.2
  · rw [keepK_8 (by omega), putG_hi (by omega), hold_hi hf (by omega)]
theorem Rel.hold {S M : SS} {f : Nat} (h : Rel S M) (hf : f < 7) : Vs (gm (holdK S f) 1) (M 1) := h.1.1.congr (fun i hi => hold_1 (by omega))
theorem bar_n {x : Int32} (h : x < 0) : ¬ 0 ≤ x := Int32.not_le.mpr h
set_option maxRecDepth 100000 in
set_option maxHeartbeats 200000 in
theorem st_road (l : Launch) {S M : SS} (h : Rel S M) (a : Int32) (b : Int32) : ∃ (v : Int32) (S2 M2 : SS), CtS l yX6_road cX6_road 3 (some FieldType.int) (rmD 4) [.ref 0, .int a, .int b] 77 shK S (some (.int v)) S2 ∧ CtS l yX7_road cX7_road 4 (some FieldType.int) (rmD 3) [.ref 0, .int a, .int b] 7 shM M (some (.int v)) M2 ∧ Rel S2 M2 := by
  obtain ⟨f, np, hp⟩ := h.2.1
  obtain ⟨r, G2, hC, ⟨hb, hv, h0, hV⟩ | ⟨hb, hv, hV⟩⟩ := op_road l (h.hold hp.1) h.1.2 a b
  · have hg := good_road h.1.2 hb
    subst hv
    exact ⟨_, _, _, ct_X6_road l S a b hp.1 hp.2.1 hp.2.2.1 hp.2.2.2.1 h.1.1.began.2 hC, ct_X7_road l M a b hp.2.2.2.2.1 hp.2.2.1 hb, h.done hp h0 hV hg rfl rfl rfl rfl rfl rfl⟩
  · subst hv
    exact ⟨_, _, _, ct_X6_road l S a b hp.1 hp.2.1 hp.2.2.1 hp.2.2.2.1 h.1.1.began.2 hC, ct_X7_road_no l M a b (bar_n hb), h.fail hp hb hV⟩
set_option maxRecDepth 100000 in
set_option maxHeartbeats 200000 in
theorem st_treasure (l : Launch) {S M : SS} (h : Rel S M) (a : Int32) : ∃ (v : Int32) (S2 M2 : SS), CtS l yX6_treasure cX6_treasure 2 (some FieldType.int) (rmD 4) [.ref 0, .int a] 77 shK S (some (.int v)) S2 ∧ CtS l yX7_treasure cX7_treasure 4 (some FieldType.int) (rmD 3) [.ref 0, .int a] 7 shM M (some (.int v)) M2 ∧ Rel S2 M2 := by
  obtain ⟨f, np, hp⟩ := h.2.1
  obtain ⟨r, G2, hC, ⟨hb, hv, h0, hV⟩ | ⟨hb, hv, hV⟩⟩ := op_treasure l (h.hold hp.1) h.1.2 a
  · have hg := good_treasure h.1.2 hb
    subst hv
    exact ⟨_, _, _, ct_X6_treasure l S a hp.1 hp.2.1 hp.2.2.1 hp.2.2.2.1 h.1.1.began.2 hC, ct_X7_treasure l M a hp.2.2.2.2.1 hp.2.2.1 hb, h.done hp h0 hV hg rfl rfl rfl rfl rfl rfl⟩
  · subst hv
    exact ⟨_, _, _, ct_X6_treasure l S a hp.1 hp.2.1 hp.2.2.1 hp.2.2.2.1 h.1.1.began.2 hC, ct_X7_treasure_no l M a (bar_n hb), h.fail hp hb hV⟩
set_option maxRecDepth 100000 in
set_option maxHeartbeats 200000 in
theorem st_claim (l : Launch) {S M : SS} (h : Rel S M) (a : Int32) (b : Int32) (c : Int32) : ∃ (v : Int32) (S2 M2 : SS), CtS l yX6_claim cX6_claim 4 (some FieldType.int) (rmD 4) [.ref 0, .int a, .int b, .int c] 77 shK S (some (.int v)) S2 ∧ CtS l yX7_claim cX7_claim 5 (some FieldType.int) (rmD 4) [.ref 0, .int a, .int b, .int c] 7 shM M (some (.int v)) M2 ∧ Rel S2 M2 := by
  obtain ⟨f, np, hp⟩ := h.2.1
  obtain ⟨r, G2, hC, ⟨hb, hv, h0, hV⟩ | ⟨hb, hv, hV⟩⟩ := op_claim l (h.hold hp.1) h.1.2 a b c
  · have hg := good_says h.1.2 hb
    subst hv
    exact ⟨_, _, _, ct_X6_claim l S a b c hp.1 hp.2.1 hp.2.2.1 hp.2.2.2.1 h.1.1.began.2 hC, ct_X7_claim l M a b c hp.2.2.2.2.1 hp.2.2.1 (good_t h.1.2).1 (good_t h.1.2).2 hb, h.done hp h0 hV hg rfl rfl rfl rfl rfl rfl⟩
  · subst hv
    exact ⟨_, _, _, ct_X6_claim l S a b c hp.1 hp.2.1 hp.2.2.1 hp.2.2.2.1 h.1.1.began.2 hC, ct_X7_claim_no l M a b c (bar_n hb), h.fail hp hb hV⟩
set_option maxRecDepth 100000 in
set_option maxHeartbeats 200000 in
theorem st_begin (l : Launch) {S M : SS} (h : Rel S M)  : ∃ (v : Int32) (S2 M2 : SS), CtS l yX6_begin cX6_begin 1 (some FieldType.int) (rmD 4) [.ref 0] 77 shK S (some (.int v)) S2 ∧ CtS l yX7_begin cX7_begin 1 (some FieldType.int) (rmD 3) [.ref 0] 7 shM M (some (.int v)) M2 ∧ Rel S2 M2 := by
  obtain ⟨f, np, hp⟩ := h.2.1
  obtain ⟨r, G2, hC, ⟨hb, hv, h0, hV⟩ | ⟨hb, hv, hV⟩⟩ := op_begin l (h.hold hp.1) h.1.2
  · have hb2 : ¬ 0 < M 1 6 := fun z => by rw [if_pos z] at hb; exact absurd hb (by decide)
    have hg := good_begin h.1.2 hb2
    subst hv
    exact ⟨_, _, _, ct_X6_begin l S hp.1 hp.2.1 hp.2.2.1 hp.2.2.2.1 h.1.1.began.2 hC, ct_X7_begin l M hp.2.2.2.2.1 hp.2.2.1 hb2, h.done hp h0 hV hg rfl rfl rfl rfl rfl rfl⟩
  · have hb2 : 0 < M 1 6 := Decidable.byContradiction fun z => by rw [if_neg z] at hb; exact absurd hb (by decide)
    rw [if_pos hb2] at hv
    subst hv
    exact ⟨_, _, _, ct_X6_begin l S hp.1 hp.2.1 hp.2.2.1 hp.2.2.2.1 h.1.1.began.2 hC, ct_X7_begin_no l M hb2, h.fail hp (by decide) hV⟩
set_option maxRecDepth 100000 in
set_option maxHeartbeats 200000 in
theorem st_pass (l : Launch) {S M : SS} (h : Rel S M)  : ∃ (v : Int32) (S2 M2 : SS), CtS l yX6_pass cX6_pass 1 (some FieldType.int) (rmD 4) [.ref 0] 77 shK S (some (.int v)) S2 ∧ CtS l yX7_pass cX7_pass 1 (some FieldType.int) (rmD 3) [.ref 0] 7 shM M (some (.int v)) M2 ∧ Rel S2 M2 := by
  obtain ⟨f, np, hp⟩ := h.2.1
  obtain ⟨r, G2, hC, ⟨hb, hv, h0, hV⟩ | ⟨hb, hv, hV⟩⟩ := op_pass l (h.hold hp.1) h.1.2
  · have hb2 : M 1 6 = 1 := Decidable.byContradiction fun z => by rw [if_neg z] at hb; exact absurd hb (by decide)
    have hg := good_ends h.1.2 hb2
    subst hv
    exact ⟨_, _, _, ct_X6_pass l S hp.1 hp.2.1 hp.2.2.1 hp.2.2.2.1 h.1.1.began.2 hC, ct_X7_pass l M hp.2.2.2.2.1 hp.2.2.1 hb2, h.done hp h0 hV hg rfl rfl rfl rfl rfl rfl⟩
  · have hb2 : ¬ M 1 6 = 1 := fun z => by rw [if_pos z] at hb; exact absurd hb (by decide)
    rw [if_neg hb2] at hv
    subst hv
    exact ⟨_, _, _, ct_X6_pass l S hp.1 hp.2.1 hp.2.2.1 hp.2.2.2.1 h.1.1.began.2 hC, ct_X7_pass_no l M hb2, h.fail hp (by decide) hV⟩
set_option maxRecDepth 100000 in
set_option maxHeartbeats 200000 in
theorem st_check (l : Launch) {S M : SS} (h : Rel S M) (a : Int32) (b : Int32) (c : Int32) : ∃ (v : Int32) (S2 M2 : SS), CtS l yX6_check cX6_check 4 (some FieldType.int) (rmD 6) [.ref 0, .int a, .int b, .int c] 77 shK S (some (.int v)) S2 ∧ CtS l yX7_check cX7_check 5 (some FieldType.int) (rmD 4) [.ref 0, .int a, .int b, .int c] 7 shM M (some (.int v)) M2 ∧ Rel S2 M2 := by
  obtain ⟨f, np, hp⟩ := h.2.1
  obtain ⟨r, G2, hC, ⟨hb, hv, h0, hV⟩ | ⟨hb, hv, hV⟩⟩ := op_check l (h.hold hp.1) h.1.2 a b c
  · have hg := good_checks h.1.2 hb
    obtain ⟨p, hp3, rfl⟩ := barCheck_v hb
    rw [nI_clamp (by omega)] at hv hV hg
    subst hv
    exact ⟨_, _, _, ct_X6_check l S (nI p) b c hp.1 hp.2.1 hp.2.2.1 hp.2.2.2.1 h.1.1.began.2 hC, ct_X7_check l M b c hp.2.2.2.2.1 hp.2.2.1 (good_t h.1.2).1 (good_t h.1.2).2 hp3 hb, h.done hp h0 hV hg rfl rfl rfl rfl rfl rfl⟩
  · subst hv
    exact ⟨_, _, _, ct_X6_check l S a b c hp.1 hp.2.1 hp.2.2.1 hp.2.2.2.1 h.1.1.began.2 hC, ct_X7_check_no l M a b c (bar_n hb), h.fail hp hb hV⟩
set_option maxRecDepth 100000 in
set_option maxHeartbeats 200000 in
theorem st_dig (l : Launch) {S M : SS} (h : Rel S M) (a : Int32) : ∃ (v : Int32) (S2 M2 : SS), CtS l yX6_dig cX6_dig 2 (some FieldType.int) (rmD 5) [.ref 0, .int a] 77 shK S (some (.int v)) S2 ∧ CtS l yX7_dig cX7_dig 3 (some FieldType.int) (rmD 4) [.ref 0, .int a] 7 shM M (some (.int v)) M2 ∧ Rel S2 M2 := by
  obtain ⟨f, np, hp⟩ := h.2.1
  obtain ⟨r, G2, hC, ⟨hb, hv, h0, hV⟩ | ⟨hb, hv, hV⟩⟩ := op_dig l (h.hold hp.1) h.1.2 a
  · have hg := good_digs (its := distI (M 1 0) a (M 1 1)) h.1.2 hb
    obtain ⟨⟨k, hk, rfl⟩, hb6⟩ := barDig_v hb
    obtain ⟨tr, htr, htr2⟩ := good_tr h.1.2
    rw [nI_clamp (by omega)] at hV hg
    have em : md (M 1 0) k (M 6) tr = distI (M 1 0) (nI k) (M 1 1) := by rw [htr]; exact md_dist hk htr2
    rw [← em] at hv hV hg
    subst hv
    exact ⟨_, _, _, ct_X6_dig l S (nI k) hp.1 hp.2.1 hp.2.2.1 hp.2.2.2.1 h.1.1.began.2 hC, ct_X7_dig l M hp.2.2.2.2.1 hp.2.2.1 (good_t h.1.2).1 (good_t h.1.2).2 (good_d h.1.2).1 ((good_d h.1.2).2.2 hb6) htr htr2 hk hb, h.done hp h0 hV hg rfl rfl rfl rfl rfl rfl⟩
  · subst hv
    exact ⟨_, _, _, ct_X6_dig l S a hp.1 hp.2.1 hp.2.2.1 hp.2.2.2.1 h.1.1.began.2 hC, ct_X7_dig_no l M a (good_t h.1.2).1 (good_t h.1.2).2 (bar_n hb), h.fail hp hb hV⟩
theorem lo_0 (k : Int32) : 0 ≤ loS k := by unfold loS; split <;> decide
theorem k_4 {k : Int32} (hk : 0 ≤ k ∧ k ≤ 3) : ∃ j : Nat, j < 4 ∧ k = nI j := by
  obtain ⟨j, hj, e⟩ := vp_in_of (n := 4) (x := k) (vp_in_iff.mpr ⟨Int32.le_iff_toInt_le.mp hk.1, by have := Int32.le_iff_toInt_le.mp hk.2; have e3 : (3 : Int32).toInt = 3 := rfl; omega⟩) (by decide)
  exact ⟨j, hj, e⟩
set_option maxRecDepth 100000 in
set_option maxHeartbeats 200000 in
theorem st_set (l : Launch) {S M : SS} (h : Rel S M) (a : Int32) (b : Int32) : ∃ (v : Int32) (S2 M2 : SS), CtS l yX6_set cX6_set 3 (some FieldType.int) (rmD 4) [.ref 0, .int a, .int b] 77 shK S (some (.int v)) S2 ∧ CtS l yX7_set cX7_set 4 (some FieldType.int) (rmD 2) [.ref 0, .int a, .int b] 7 shM M (some (.int v)) M2 ∧ Rel S2 M2 := by
  obtain ⟨f, np, hp⟩ := h.2.1
  by_cases hk : (0 ≤ a ∧ a ≤ 3) ∧ loS a ≤ b ∧ b ≤ hiS a
  · obtain ⟨r, G2, hC, ⟨hb, hv, h0, hV⟩ | ⟨hb, hv, hV⟩⟩ := op_set l (h.hold hp.1) h.1.2 a b
    · obtain ⟨k, hk4, rfl⟩ := k_4 hk.1
      rw [nI_clamp (by omega)] at hv hV
      have hg := good_set h.1.2 hk4 (Int32.le_trans (lo_0 _) hk.2.1)
      subst hv
      exact ⟨_, _, _, ct_X6_set l S (nI k) b hp.1 hp.2.1 hp.2.2.1 hp.2.2.2.1 h.1.1.began.2 hC, ct_X7_set l M b hp.2.2.2.2.1 hp.2.2.1 hk4 hk.2, h.done hp h0 hV hg rfl rfl rfl rfl rfl rfl⟩
    · rw [if_pos hk] at hb; exact absurd hb (by decide)
  · obtain ⟨r, G2, hC, ⟨hb, hv, h0, hV⟩ | ⟨hb, hv, hV⟩⟩ := op_set l (h.hold hp.1) h.1.2 a b
    · rw [if_neg hk] at hb; exact absurd hb (by decide)
    · rw [if_neg hk] at hv
      subst hv
      exact ⟨_, _, _, ct_X6_set l S a b hp.1 hp.2.1 hp.2.2.1 hp.2.2.2.1 h.1.1.began.2 hC, ct_X7_set_no l M a b hk, h.fail hp (by decide) hV⟩
