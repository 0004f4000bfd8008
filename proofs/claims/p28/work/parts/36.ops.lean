/-! what each change answers and does, against the reference -/
theorem nI_ge0 (k : Nat) (h : k < 2 ^ 31) : 0 ≤ nI k := Int32.not_lt.mp (nI_pos h)
def Outc (r bar val : Int32) (G2 : SS) (s s2 : Nat → Int32) : Prop := (bar = 0 ∧ r = val ∧ 0 ≤ r ∧ Vs G2 s2) ∨ (bar < 0 ∧ r = bar ∧ Vs G2 s)
theorem pcI_0 (x : Int32) : 0 ≤ pcI x := nI_ge0 _ (by have := pcN_le x; omega)
theorem wrE_neg {a b : Int32} (h : ¬ wrE a b = 0) : wrE a b < 0 := by
  unfold wrE at *
  split
  · split
    · decide
    · rename_i h1 h2; rw [if_pos h1, if_neg h2] at h; exact absurd rfl h
  · decide
theorem dd_k (r t : Int32) : ∀ n s re ed, s + n ≤ 8 → dd r t n s re ed = 99 ∨ ∃ k, k < 8 ∧ dd r t n s re ed = nI k
  | 0, _, _, _, _ => Or.inl rfl
  | n + 1, s, re, ed, h => by
    unfold dd
    split
    · exact Or.inl rfl
    · split
      · exact dd_k r t n (s + 1) _ _ (by omega)
      · exact Or.inr ⟨s, by omega, rfl⟩
theorem dist_0 (r f t : Int32) : 0 ≤ distI r f t := by
  rcases dd_k r t 8 0 ((1 : Int32) <<< (f &&& 31)) ((1 : Int32) <<< (f &&& 31)) (by omega) with h | ⟨k, hk, h⟩
  · unfold distI; rw [h]; decide
  · unfold distI; rw [h]; exact nI_ge0 _ (by omega)
theorem op_road (l : Launch) {G : SS} {s : Nat → Int32} (h : Vs G s) (hg : Good s) (a b : Int32) : ∃ r G2, CtS l yX0_layRoad cX0_layRoad 4 (some FieldType.int) (rmD 3) [.ref 0, .int a, .int b] 7 shG G (some (.int r)) G2 ∧ Outc r (rBarRoad s a b) (pcI (s 0 ^^^ bitE a b)) G2 s (rLays s a b) := by
  refine ⟨_, _, ct_X0_layRoad l G a b, ?_⟩
  by_cases hw : wrE a b = 0
  · by_cases hb : 0 < s 6
    · have e : ¬ G 0 3 = 0 := fun z => h.began.1.mp z hb
      have eG : lyS G a b = G := if_neg (fun q => e q.2)
      refine Or.inr ⟨?_, ?_, by rw [eG]; exact h⟩
      · unfold rBarRoad; rw [if_pos hw, if_pos hb]; decide
      · unfold lyV rBarRoad; rw [if_pos hw, if_pos hw, if_neg e, if_pos hb]
    · obtain ⟨e1, e2⟩ := sim_road h hg hw hb
      refine Or.inl ⟨?_, e1, e1 ▸ pcI_0 _, e2⟩
      unfold rBarRoad; rw [if_pos hw, if_neg hb]
  · have eG : lyS G a b = G := if_neg (fun q => hw q.1)
    refine Or.inr ⟨?_, ?_, by rw [eG]; exact h⟩
    · unfold rBarRoad; rw [if_neg hw]; exact wrE_neg hw
    · unfold lyV rBarRoad; rw [if_neg hw, if_neg hw]
theorem op_treasure (l : Launch) {G : SS} {s : Nat → Int32} (h : Vs G s) (hg : Good s) (a : Int32) : ∃ r G2, CtS l yX0_hideTreasure cX0_hideTreasure 3 (some FieldType.int) (rmD 1) [.ref 0, .int a] 7 shG G (some (.int r)) G2 ∧ Outc r (rBarTreasure s a) (s 1) G2 s (upd s 1 a) := by
  refine ⟨_, _, ct_X0_hideTreasure l G a, ?_⟩
  by_cases ha : 0 ≤ a ∧ a < 8
  · by_cases hb : 0 < s 6
    · have e : ¬ G 0 3 = 0 := fun z => h.began.1.mp z hb
      have eG : trS G a = G := if_neg (fun q => e q.2)
      refine Or.inr ⟨?_, ?_, by rw [eG]; exact h⟩
      · unfold rBarTreasure; rw [if_pos ha, if_pos hb]; decide
      · unfold trV rBarTreasure; rw [if_pos ha, if_pos ha, if_neg e, if_pos hb]
    · obtain ⟨e1, e2⟩ := sim_treasure h hg ha hb
      refine Or.inl ⟨?_, e1, ?_, e2⟩
      · unfold rBarTreasure; rw [if_pos ha, if_neg hb]
      · obtain ⟨tr, e3, e4⟩ := good_tr hg
        rw [e1, e3]; exact nI_ge0 _ (by omega)
  · have eG : trS G a = G := if_neg (fun q => ha q.1)
    refine Or.inr ⟨?_, ?_, by rw [eG]; exact h⟩
    · unfold rBarTreasure; rw [if_neg ha]; decide
    · unfold trV rBarTreasure; rw [if_neg ha, if_neg ha]
theorem op_begin (l : Launch) {G : SS} {s : Nat → Int32} (h : Vs G s) (hg : Good s) : ∃ r G2, CtS l yX0_start cX0_start 1 (some FieldType.int) (rmD 3) [.ref 0] 7 shG G (some (.int r)) G2 ∧ Outc r (if 0 < s 6 then -5 else 0) (pcI (rKn (upd s 6 1) (s 17))) G2 s (upd s 6 1) := by
  refine ⟨_, _, ct_X0_start l G, ?_⟩
  by_cases hb : 0 < s 6
  · have e : ¬ G 0 3 = 0 := fun z => h.began.1.mp z hb
    have eG : bgS G = G := if_neg e
    refine Or.inr ⟨?_, ?_, by rw [eG]; exact h⟩
    · rw [if_pos hb]; decide
    · unfold bgV; rw [if_neg e, if_pos hb]
  · obtain ⟨e1, e2⟩ := sim_begin h hg hb
    exact Or.inl ⟨if_neg hb, e1, e1 ▸ pcI_0 _, e2⟩
theorem op_pass (l : Launch) {G : SS} {s : Nat → Int32} (h : Vs G s) (hg : Good s) : ∃ r G2, CtS l yX0_passTurn cX0_passTurn 1 (some FieldType.int) (rmD 2) [.ref 0] 7 shG G (some (.int r)) G2 ∧ Outc r (if s 6 = 1 then 0 else -5) (rem3 (rEnds s 7)) G2 s (rEnds s) := by
  refine ⟨_, _, ct_X0_passTurn l G, ?_⟩
  by_cases hb : s 6 = 1
  · obtain ⟨e1, e2⟩ := sim_pass h hg hb
    refine Or.inl ⟨if_pos hb, e1, ?_, e2⟩
    have hg2 := good_ends hg hb
    rw [e1, (good_t hg2).1]
    exact nI_ge0 _ (by have := (good_t hg2).2; omega)
  · have e : ¬ stI G = 1 := fun z => hb ((h.stage hg).symm.trans z)
    have eG : psS G = G := if_neg e
    refine Or.inr ⟨?_, ?_, by rw [eG]; exact h⟩
    · rw [if_neg hb]; decide
    · unfold psV; rw [if_neg e, if_neg hb]
theorem op_claim (l : Launch) {G : SS} {s : Nat → Int32} (h : Vs G s) (hg : Good s) (a b is : Int32) : ∃ r G2, CtS l yX0_makeClaim cX0_makeClaim 6 (some FieldType.int) (rmD 3) [.ref 0, .int a, .int b, .int is] 7 shG G (some (.int r)) G2 ∧ Outc r (rBarClaim s a b is) (rClaims (rSays s (nT s) (bitE a b) is) (nT s)) G2 s (rSays s (nT s) (bitE a b) is) := by
  have hst := h.stage hg
  by_cases hn : wrE a b = 0 ∧ (is = 0 ∨ is = 1) ∧ stI G = 1
  · have hb : s 6 = 1 := hst.symm.trans hn.2.2
    obtain ⟨e1, e2⟩ := sim_claim h hg hb hn.2.1 (bitE a b) (good_t hg).2
    refine ⟨_, _, ct_X0_makeClaim l G a b is (h.turn hg) (good_t hg).2 hn.1 hn.2.1 hn.2.2, Or.inl ⟨?_, e1, e1 ▸ pcI_0 _, e2⟩⟩
    unfold rBarClaim; rw [if_pos hn.1, if_pos (is_iff.mpr hn.2.1), if_pos hb]
  · refine ⟨_, _, ct_X0_makeClaim_no l G a b is hn, Or.inr ⟨?_, ?_, h⟩⟩
    · unfold rBarClaim
      by_cases hw : wrE a b = 0
      · rw [if_pos hw]
        by_cases hi : 0 ≤ is ∧ is ≤ 1
        · rw [if_pos hi, if_neg (fun z => hn ⟨hw, is_iff.mp hi, hst.trans z⟩)]; decide
        · rw [if_neg hi]; decide
      · rw [if_neg hw]; exact wrE_neg hw
    · unfold mkN rBarClaim
      by_cases hw : wrE a b = 0
      · rw [if_pos hw, if_pos hw]
        by_cases hi : 0 ≤ is ∧ is ≤ 1
        · rw [if_pos hi, if_pos (is_iff.mp hi), if_neg (fun z => hn ⟨hw, is_iff.mp hi, hst.trans z⟩)]
        · rw [if_neg hi, if_neg (fun z => hi (is_iff.mpr z))]
      · rw [if_neg hw, if_neg hw]
theorem op_dig (l : Launch) {G : SS} {s : Nat → Int32} (h : Vs G s) (hg : Good s) (a : Int32) : ∃ r G2, CtS l yX0_digAt cX0_digAt 4 (some FieldType.int) (rmD 4) [.ref 0, .int a] 7 shG G (some (.int r)) G2 ∧ Outc r (rBarDig s (nT s) a) (distI (s 0) a (s 1)) G2 s (rDigs s (nT s) (nD s) a.toNatClampNeg (distI (s 0) a (s 1))) := by
  have hst := h.stage hg
  have h12 : G 1 2 = s 4 := h.2.1 2 (by decide)
  have hpu : G (2 + nT s) 0 = s (8 + nT s) := (h.pl (good_t hg).2).1
  by_cases ha : 0 ≤ a ∧ a < 8
  · by_cases hn : stI G = 1 ∧ G 1 2 ≤ G (2 + nT s) 0
    · have hb : s 6 = 1 := hst.symm.trans hn.1
      obtain ⟨k, hk, rfl⟩ := plc ha
      have hd2 := (good_d hg).2.2 hb
      obtain ⟨e1, e2⟩ := sim_dig h hg hb (good_t hg).2 hk (good_d hg).1 hd2
      refine ⟨_, _, ct_X0_digAt l G (h.turn hg) (good_t hg).2 hk (h.1.2.2.2.2.2.2.2.trans (good_d hg).1) hd2 hn.1 hn.2, Or.inl ⟨?_, e1, e1 ▸ dist_0 _ _ _, ?_⟩⟩
      · unfold rBarDig; rw [if_pos ha, if_pos hb, if_neg]
        rw [← h12, ← hpu]; exact Int32.not_lt.mpr hn.2
      · rw [nI_clamp (by omega)]; exact e2
    · refine ⟨_, _, ct_X0_digAt_n2 l G a (h.turn hg) (good_t hg).2 ha hn, ?_⟩
      have e : rBarDig s (nT s) a = -5 := by
        unfold rBarDig; rw [if_pos ha]
        by_cases hb : s 6 = 1
        · rw [if_pos hb, if_pos]
          rw [← h12, ← hpu]; exact Int32.not_le.mp (fun z => hn ⟨hst.trans hb, z⟩)
        · rw [if_neg hb]
      exact Or.inr ⟨by rw [e]; decide, e.symm, h⟩
  · have e : rBarDig s (nT s) a = -1 := if_neg ha
    exact ⟨_, _, ct_X0_digAt_n1 l G a ha, Or.inr ⟨by rw [e]; decide, e.symm, h⟩⟩
theorem lie_01 (s : Nat → Int32) (p : Nat) (b : Int32) : 0 ≤ lieI s p b := by unfold lieI; split <;> decide
theorem bar_wr {s : Nat → Int32} {q a b : Int32} (hq : 0 ≤ q ∧ q < 3) (hw : ¬ wrE a b = 0) (hn : ¬ wrE a b = -1 → q ≠ rem3 (s 7) → True) : rBarCheck s q a b = wrE a b := by
  unfold rBarCheck
  rw [if_pos hq]
  by_cases h1 : 0 ≤ a ∧ a < 8
  · by_cases h2 : 0 ≤ b ∧ b < 8
    · by_cases e : a = b
      · rw [wrE_3 h1 h2 e, if_pos h1, if_pos h2]
        by_cases z : q = rem3 (s 7)
        · rw [if_pos z]
        · rw [if_neg z, if_pos e]
      · exact absurd (wrE_4 h1 h2 e) hw
    · rw [wrE_2 h2, if_pos h1, if_neg h2]
  · rw [wrE_1 h1, if_neg h1]
theorem op_check (l : Launch) {G : SS} {s : Nat → Int32} (h : Vs G s) (hg : Good s) (q a b : Int32) : ∃ r G2, CtS l yX0_checkClaim cX0_checkClaim 8 (some FieldType.int) (rmD 5) [.ref 0, .int q, .int a, .int b] 7 shG G (some (.int r)) G2 ∧ Outc r (rBarCheck s q a b) (lieI s q.toNatClampNeg (bitE a b)) G2 s (rChecks s (nT s) q.toNatClampNeg (bitE a b)) := by
  have hst := h.stage hg
  by_cases hq : 0 ≤ q ∧ q < 3
  · by_cases hw : wrE a b = 0
    · obtain ⟨p, hp, rfl⟩ := pln hq
      have hpl := h.pl hp
      have hwr := wr_eq hw
      have hcl : (nI p).toNatClampNeg = p := nI_clamp (by omega)
      have htu := (good_t hg).1
      rw [hcl]
      by_cases e : nT s = p
      · have eb : rBarCheck s (nI p) a b = -2 := by
          unfold rBarCheck
          rw [if_pos hq, if_pos hwr.1.1, if_pos hwr.1.2, if_pos (by rw [htu, e])]
        exact ⟨_, _, ct_X0_checkClaim_n3 l G a b (h.turn hg) (good_t hg).2 hp hw e, Or.inr ⟨by rw [eb]; decide, eb.symm, h⟩⟩
      · have ne : ¬ nI p = rem3 (s 7) := by
          rw [htu]; exact fun z => e ((nI_eq (by omega) (by have := (good_t hg).2; omega)).mp z).symm
        have eb : rBarCheck s (nI p) a b = if s 6 = 1 then (if (s (11 + p) ||| s (14 + p)) &&& bitE a b = 0 then -5 else if s 17 &&& bitE a b = 0 then 0 else -5) else -5 := by
          unfold rBarCheck
          rw [if_pos hq, if_pos hwr.1.1, if_pos hwr.1.2, if_neg ne, if_neg hwr.2, hcl]
        rw [eb]
        by_cases hn : stI G = 1 ∧ ¬ (G (2 + p) 1 ||| G (2 + p) 2) &&& bitE a b = 0 ∧ G 0 4 &&& bitE a b = 0
        · have hb : s 6 = 1 := hst.symm.trans hn.1
          obtain ⟨k, hk, ek⟩ := eI_k hw
          have h2 := hn.2.1
          have h4 := hn.2.2
          rw [hpl.2.1, hpl.2.2.1] at h2
          rw [h.1.2.2.2.1] at h4
          have h2' := h2
          rw [bitE_k ek] at h2'
          obtain ⟨e1, e2⟩ := sim_check h hg hb (show k < 32 by omega) (good_t hg).2 hp e h2'
          rw [← bitE_k ek] at e1 e2
          refine ⟨_, _, ct_X0_checkClaim l G a b (h.turn hg) (good_t hg).2 hp hw e hn.1 hn.2.1 hn.2.2, Or.inl ⟨?_, e1, e1 ▸ lie_01 _ _ _, e2⟩⟩
          rw [if_pos hb, if_neg h2, if_pos h4]
        · refine ⟨_, _, ct_X0_checkClaim_n4 l G a b (h.turn hg) (good_t hg).2 hp hw e hn, ?_⟩
          have e5 : (if s 6 = 1 then (if (s (11 + p) ||| s (14 + p)) &&& bitE a b = 0 then (-5 : Int32) else if s 17 &&& bitE a b = 0 then 0 else -5) else -5) = -5 := by
            by_cases hb : s 6 = 1
            · rw [if_pos hb]
              by_cases z : (s (11 + p) ||| s (14 + p)) &&& bitE a b = 0
              · rw [if_pos z]
              · rw [if_neg z, if_neg]
                intro y
                exact hn ⟨hst.trans hb, by rw [hpl.2.1, hpl.2.2.1]; exact z, by rw [h.1.2.2.2.1]; exact y⟩
            · rw [if_neg hb]
          rw [e5]
          exact Or.inr ⟨by decide, rfl, h⟩
    · obtain ⟨p, hp, rfl⟩ := pln hq
      refine ⟨_, _, ct_X0_checkClaim_n2 l G a b (h.turn hg) (good_t hg).2 hp hw, ?_⟩
      rw [bar_wr hq hw (fun _ _ => trivial)]
      exact Or.inr ⟨wrE_neg hw, rfl, h⟩
  · have e : rBarCheck s q a b = -1 := if_neg hq
    exact ⟨_, _, ct_X0_checkClaim_n1 l G q a b hq, Or.inr ⟨by rw [e]; decide, e.symm, h⟩⟩
theorem op_set (l : Launch) {G : SS} {s : Nat → Int32} (h : Vs G s) (hg : Good s) (k v : Int32) : ∃ r G2, CtS l yX0_changeSetting cX0_changeSetting 4 (some FieldType.int) (rmD 0) [.ref 0, .int k, .int v] 7 shG G (some (.int r)) G2 ∧ Outc r (if (0 ≤ k ∧ k ≤ 3) ∧ loS k ≤ v ∧ v ≤ hiS k then 0 else -2) (s (2 + k.toNatClampNeg)) G2 s (upd s (2 + k.toNatClampNeg) v) := by
  by_cases hk : 0 ≤ k ∧ k ≤ 3
  · have hk2 : ∃ j : Nat, j < 4 ∧ k = nI j := by
      obtain ⟨j, hj, e⟩ := vp_in_of (n := 4) (x := k) (vp_in_iff.mpr ⟨Int32.le_iff_toInt_le.mp hk.1, by have := Int32.le_iff_toInt_le.mp hk.2; have e3 : (3 : Int32).toInt = 3 := rfl; omega⟩) (by decide)
      exact ⟨j, hj, e⟩
    obtain ⟨j, hj, rfl⟩ := hk2
    rw [nI_clamp (by omega)]
    by_cases hv : loS (nI j) ≤ v ∧ v ≤ hiS (nI j)
    · obtain ⟨n, d, tr, -, -, -, -, -, -, -, -, -, -, -, hS⟩ := hg
      have e1 : G 1 j = s (2 + j) := h.2.1 j hj
      exact ⟨_, _, ct_X0_changeSetting l G v hj hv, Or.inl ⟨if_pos ⟨hk, hv⟩, e1, e1 ▸ hS j hj, sim_set h hj v⟩⟩
    · have e : (if (0 ≤ nI j ∧ nI j ≤ 3) ∧ loS (nI j) ≤ v ∧ v ≤ hiS (nI j) then (0 : Int32) else -2) = -2 := if_neg (fun z => hv z.2)
      rw [e]
      exact ⟨_, _, ct_X0_changeSetting_n1 l G v hj hv, Or.inr ⟨by decide, rfl, h⟩⟩
  · have e : (if (0 ≤ k ∧ k ≤ 3) ∧ loS k ≤ v ∧ v ≤ hiS k then (0 : Int32) else -2) = -2 := if_neg (fun z => hk z.1)
    rw [e]
    exact ⟨_, _, ct_X0_changeSetting_n2 l G k v hk, Or.inr ⟨by decide, rfl, h⟩⟩
