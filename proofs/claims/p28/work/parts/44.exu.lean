/-! checks and diggings keep the sums -/
theorem ext_checks {s : Nat → Int32} {t p k : Nat} (h : Ext s) (hg : Good s) (hb : s 6 = 1) (ht : t < 3) (hp : p < 3) (hne : t ≠ p) (hk : k < 28) (h17 : bt (s 17) k = false) : Ext (rChecks s t p (one k)) := by
  obtain ⟨n, e7, hn, e30⟩ := good_n hg hb
  obtain ⟨-, -, -, -, -, -, -, -, -, -, -, -, -, -, hset⟩ := hg
  obtain ⟨pu, li, ch, hi, di, n', d, w, ⟨p1, p2, p3, p4, p5⟩, ⟨q1, q2, q3, q4, q5⟩, a1, a2, a3, a4, a5, a6, a7, a8⟩ := h
  have en : n' = n := (nI_eq (by omega) (by omega)).mp (q1.symm.trans e7)
  subst en
  have hpu : S3 pu ≤ 60 := by
    rcases a6 with ⟨-, z⟩ | ⟨p, -, -, -, z, -⟩
    · exact z
    · rw [z] at hb; exact absurd hb (by decide)
  obtain ⟨pu1, s1, nA, oA⟩ := pays_ext ht hp hne (hset 0 (by decide)) p1 (by omega)
  have o2 : ∀ j, j ≠ 17 → j ≠ 21 + t → rC2 s t p (one k) j = rPays s t p (s 2) j := fun j h1 h2 => by unfold rC2 rC1; rw [upd_ne h2, upd_ne h1]
  have v17 : rC2 s t p (one k) 17 = s 17 ||| one k := by
    unfold rC2 rC1; rw [upd_ne (by omega), upd_at, oA 17 (by omega)]
  have v21 : rC2 s t p (one k) (21 + t) = nI (ch t + 1) := by
    unfold rC2; rw [upd_at]; unfold rC1; rw [upd_ne (by omega), oA _ (by omega), p3 t ht, nI_1]
  have oo : ∀ j, (j < 8 ∨ 10 < j) → j ≠ 17 → j ≠ 21 + t → rC2 s t p (one k) j = s j := fun j h0 h1 h2 => (o2 j h1 h2).trans (oA j h0)
  have n8 : NumAt (rC2 s t p (one k)) 8 pu1 := nA.same fun j hj => o2 _ (by omega) (by omega)
  have n21 : NumAt (rC2 s t p (one k)) 21 (upN ch t (ch t + 1)) := p3.up v21 fun j hj hjt => oo _ (by omega) (by omega) (by omega)
  have sch := S3_up (f := ch) (v := ch t + 1) ht
  have hpc : pcN (s 17 ||| one k) = pcN (s 17) + 1 := pc_or_one (by omega) h17
  have hch : ∀ q, q < 3 → ch q ≤ upN ch t (ch t + 1) q := fun q hq => by
    by_cases z : q = t
    · subst z; rw [upN_at]; omega
    · rw [upN_ne z]; exact Nat.le_refl _
  unfold rChecks
  by_cases hl : lieI s p (one k) = 0
  · rw [if_pos hl]
    refine ext_ends (n := n') ?_ ((oo 6 (by omega) (by omega) (by omega)).trans hb) ((oo 7 (by omega) (by omega) (by omega)).trans e7) hn
    refine ⟨pu1, li, upN ch t (ch t + 1), hi, di, n', d, w, ⟨n8, p2.same fun j hj => oo _ (by omega) (by omega) (by omega), n21, p4.same fun j hj => oo _ (by omega) (by omega) (by omega), p5.same fun j hj => oo _ (by omega) (by omega) (by omega)⟩, ⟨(oo 7 (by omega) (by omega) (by omega)).trans q1, q2, (oo 31 (by omega) (by omega) (by omega)).trans q3, (oo 5 (by omega) (by omega) (by omega)).trans q4, q5⟩, ?_, a2, fun q hq => Nat.le_trans (a3 q hq) (hch q hq), a4, by omega, Or.inl ⟨(oo 30 (by omega) (by omega) (by omega)).trans e30, by omega⟩, fun z => ?_, fun q hq i hi => ?_⟩
    · rw [v17, hpc]; omega
    · rw [oo 6 (by omega) (by omega) (by omega), hb] at z; exact absurd (by decide) z
    · rw [oo (11 + q) (by omega) (by omega) (by omega), oo (14 + q) (by omega) (by omega) (by omega)]; exact a8 q hq i hi
  · rw [if_neg hl]
    have c3 : 0 ≤ rC2 s t p (one k) 3 := by rw [oo 3 (by omega) (by omega) (by omega)]; exact hset 1 (by decide)
    obtain ⟨pu2, s2, nB, oB⟩ := pays_ext hp ht (Ne.symm hne) c3 n8 (by omega)
    have o5 : ∀ j, j ≠ 18 + p → j ≠ 24 + t → rC5 s t p (one k) j = rC3 s t p (one k) j := fun j h1 h2 => by unfold rC5 rC4; rw [upd_ne h2, upd_ne h1]
    have o6 : ∀ j, (j < 8 ∨ 10 < j) → j ≠ 18 + p → j ≠ 24 + t → rC5 s t p (one k) j = rC2 s t p (one k) j := fun j h0 h1 h2 => (o5 j h1 h2).trans (oB j h0)
    have o7 : ∀ j, (j < 8 ∨ 10 < j) → j ≠ 18 + p → j ≠ 24 + t → j ≠ 17 → j ≠ 21 + t → rC5 s t p (one k) j = s j := fun j h0 h1 h2 h3 h4 => (o6 j h0 h1 h2).trans (oo j h0 h3 h4)
    have v18 : rC5 s t p (one k) (18 + p) = nI (li p + 1) := by
      unfold rC5; rw [upd_ne (by omega)]; unfold rC4; rw [upd_at]
      show rPays (rC2 s t p (one k)) p t (rC2 s t p (one k) 3) (18 + p) + 1 = _
      rw [oB _ (by omega), oo _ (by omega) (by omega) (by omega), p2 p hp, nI_1]
    have v24 : rC5 s t p (one k) (24 + t) = nI (hi t + 1) := by
      unfold rC5; rw [upd_at]; unfold rC4; rw [upd_ne (by omega)]
      show rPays (rC2 s t p (one k)) p t (rC2 s t p (one k) 3) (24 + t) + 1 = _
      rw [oB _ (by omega), oo _ (by omega) (by omega) (by omega), p4 t ht, nI_1]
    have sli := S3_up (f := li) (v := li p + 1) hp
    have shi := S3_up (f := hi) (v := hi t + 1) ht
    refine ext_ends (n := n') ?_ ((o7 6 (by omega) (by omega) (by omega) (by omega) (by omega)).trans hb) ((o7 7 (by omega) (by omega) (by omega) (by omega) (by omega)).trans e7) hn
    refine ⟨pu2, upN li p (li p + 1), upN ch t (ch t + 1), upN hi t (hi t + 1), di, n', d, w, ⟨nB.same fun j hj => o5 _ (by omega) (by omega), p2.up v18 fun j hj hjp => o7 _ (by omega) (by omega) (by omega) (by omega) (by omega), n21.same fun j hj => o6 _ (by omega) (by omega) (by omega), p4.up v24 fun j hj hjt => o7 _ (by omega) (by omega) (by omega) (by omega) (by omega), p5.same fun j hj => o7 _ (by omega) (by omega) (by omega) (by omega) (by omega)⟩, ⟨(o7 7 (by omega) (by omega) (by omega) (by omega) (by omega)).trans q1, q2, (o7 31 (by omega) (by omega) (by omega) (by omega) (by omega)).trans q3, (o7 5 (by omega) (by omega) (by omega) (by omega) (by omega)).trans q4, q5⟩, ?_, by omega, fun q hq => ?_, a4, by omega, Or.inl ⟨(o7 30 (by omega) (by omega) (by omega) (by omega) (by omega)).trans e30, by omega⟩, fun z => ?_, fun q hq i hi => ?_⟩
    · rw [o6 17 (by omega) (by omega) (by omega), v17, hpc]; omega
    · by_cases z : q = t
      · subst z; rw [upN_at, upN_at]; have := a3 q hq; omega
      · rw [upN_ne z, upN_ne z]; exact a3 q hq
    · rw [o7 6 (by omega) (by omega) (by omega) (by omega) (by omega), hb] at z; exact absurd (by decide) z
    · rw [o7 (11 + q) (by omega) (by omega) (by omega) (by omega) (by omega), o7 (14 + q) (by omega) (by omega) (by omega) (by omega) (by omega)]; exact a8 q hq i hi
theorem ext_digs {s : Nat → Int32} {t a : Nat} {its : Int32} (h : Ext s) (hg : Good s) (hb : s 6 = 1) (ht : t < 3) (hpay : ¬ s (8 + t) < s 4) : Ext (rDigs s t (nD s) a its) := by
  obtain ⟨n, e7, hn, e30⟩ := good_n hg hb
  obtain ⟨-, -, -, -, -, -, -, -, -, -, -, -, -, -, hset⟩ := hg
  obtain ⟨pu, li, ch, hi, di, n', d, w, ⟨p1, p2, p3, p4, p5⟩, ⟨q1, q2, q3, q4, q5⟩, a1, a2, a3, a4, a5, a6, a7, a8⟩ := h
  have en : n' = n := (nI_eq (by omega) (by omega)).mp (q1.symm.trans e7)
  subst en
  have hpu : S3 pu ≤ 60 := by
    rcases a6 with ⟨-, z⟩ | ⟨p, -, -, -, z, -⟩
    · exact z
    · rw [z] at hb; exact absurd hb (by decide)
  have bpu := S3_ge pu ht
  have hx : ∃ x, x ≤ pu t ∧ s 4 = nI x := by
    obtain ⟨x, hx, e⟩ := nn_of (hset 2 (by decide))
    refine ⟨x, ?_, e⟩
    apply Classical.byContradiction
    intro z
    rw [p1 t ht, show s 4 = nI x from e] at hpay
    exact hpay ((nI_ltI (by omega) hx).mpr (by omega))
  obtain ⟨x, hx, ex⟩ := hx
  have o4 : ∀ j, j ≠ 8 + t → j ≠ 27 + t → j ≤ 30 → rD4 s t (nD s) a j = s j := fun j h1 h2 h3 => rD4_at h1 h2 (by omega) (by omega)
  have v8 : rD4 s t (nD s) a (8 + t) = nI (pu t - x) := by
    unfold rD4 rD3 rD2 rD1
    rw [upd_ne (by omega), upd_ne (by omega), upd_ne (by omega), upd_at, p1 t ht, ex, nI_subN hx]
  have v27 : rD4 s t (nD s) a (27 + t) = nI (di t + 1) := by
    unfold rD4 rD3 rD2
    rw [upd_ne (by omega), upd_ne (by omega), upd_at]
    unfold rD1
    rw [upd_ne (by omega), p5 t ht, nI_1]
  have v31 : rD4 s t (nD s) a 31 = nI (d + 1) := by
    unfold rD4 rD3
    rw [upd_at, upd_ne (by omega), rD2_at (by omega) (by omega), q3, nI_1]
  have spu := S3_up (f := pu) (v := pu t - x) ht
  have sdi := S3_up (f := di) (v := di t + 1) ht
  have n8 : NumAt (rD4 s t (nD s) a) 8 (upN pu t (pu t - x)) := p1.up v8 fun j hj hjt => o4 _ (by omega) (by omega) (by omega)
  have n27 : NumAt (rD4 s t (nD s) a) 27 (upN di t (di t + 1)) := p5.up v27 fun j hj hjt => o4 _ (by omega) (by omega) (by omega)
  have n18 : NumAt (rD4 s t (nD s) a) 18 li := p2.same fun j hj => o4 _ (by omega) (by omega) (by omega)
  have n21 : NumAt (rD4 s t (nD s) a) 21 ch := p3.same fun j hj => o4 _ (by omega) (by omega) (by omega)
  have n24 : NumAt (rD4 s t (nD s) a) 24 hi := p4.same fun j hj => o4 _ (by omega) (by omega) (by omega)
  have hD5 : Ext (rD5 s t (nD s) a) := by
    refine ext_ends (n := n') ?_ ((o4 6 (by omega) (by omega) (by omega)).trans hb) ((o4 7 (by omega) (by omega) (by omega)).trans e7) hn
    refine ⟨upN pu t (pu t - x), li, ch, hi, upN di t (di t + 1), n', d + 1, w, ⟨n8, n18, n21, n24, n27⟩, ⟨(o4 7 (by omega) (by omega) (by omega)).trans q1, q2, v31, (o4 5 (by omega) (by omega) (by omega)).trans q4, q5⟩, ?_, a2, a3, by omega, by omega, Or.inl ⟨(o4 30 (by omega) (by omega) (by omega)).trans e30, by omega⟩, fun z => ?_, fun q hq i hi => ?_⟩
    · rw [o4 17 (by omega) (by omega) (by omega)]; exact a1
    · rw [o4 6 (by omega) (by omega) (by omega), hb] at z; exact absurd (by decide) z
    · rw [o4 (11 + q) (by omega) (by omega) (by omega), o4 (14 + q) (by omega) (by omega) (by omega)]; exact a8 q hq i hi
  unfold rDigs
  by_cases hz : its = 0
  · rw [if_pos hz]
    have o5 : ∀ j, j ≠ 6 → j ≠ 7 → rD5 s t (nD s) a j = rD4 s t (nD s) a j := fun j h1 h2 => ends_o h1 h2
    have o9 : ∀ j, j ≠ 6 → j ≠ 30 → j ≠ 8 + t → upd (rD7 s t (nD s) a) 6 2 j = rD5 s t (nD s) a j := fun j h1 h2 h3 => by
      rw [upd_ne h1]; unfold rD7 rD6 rGets; rw [upd_ne h2, upd_ne h3]
    have w8 : upd (rD7 s t (nD s) a) 6 2 (8 + t) = nI (pu t - x + w) := by
      rw [upd_ne (by omega)]; unfold rD7 rD6 rGets
      rw [upd_ne (by omega), upd_at, o5 _ (by omega) (by omega), o5 _ (by omega) (by omega), v8, o4 5 (by omega) (by omega) (by omega), q4, nI_add, if_neg]
      exact fun z => absurd ((nI_ltI (a := 9999) (by decide) (by omega)).mp z) (by omega)
    have oa : ∀ j, j ≠ 6 → j ≠ 7 → j ≠ 30 → j ≠ 8 + t → upd (rD7 s t (nD s) a) 6 2 j = rD4 s t (nD s) a j := fun j h1 h2 h3 h4 => (o9 j h1 h3 h4).trans (o5 j h1 h2)
    have s7 : upd (rD7 s t (nD s) a) 6 2 7 = nI (n' + 1) := by
      rw [o9 7 (by omega) (by omega) (by omega)]
      show rD4 s t (nD s) a 7 + 1 = _
      rw [o4 7 (by omega) (by omega) (by omega), q1, nI_1]
    have s30 : upd (rD7 s t (nD s) a) 6 2 30 = nI t := by
      rw [upd_ne (by omega)]; exact upd_at _ _ _
    have spu2 := S3_up (f := upN pu t (pu t - x)) (v := pu t - x + w) ht
    rw [upN_at] at spu2
    refine ⟨upN (upN pu t (pu t - x)) t (pu t - x + w), li, ch, hi, upN di t (di t + 1), n' + 1, d + 1, w, ⟨n8.up w8 fun j hj hjt => oa _ (by omega) (by omega) (by omega) (by omega), n18.same fun j hj => oa _ (by omega) (by omega) (by omega) (by omega), n21.same fun j hj => oa _ (by omega) (by omega) (by omega) (by omega), n24.same fun j hj => oa _ (by omega) (by omega) (by omega) (by omega), n27.same fun j hj => oa _ (by omega) (by omega) (by omega) (by omega)⟩, ⟨s7, by omega, (oa 31 (by omega) (by omega) (by omega) (by omega)).trans v31, (oa 5 (by omega) (by omega) (by omega) (by omega)).trans ((o4 5 (by omega) (by omega) (by omega)).trans q4), q5⟩, ?_, a2, a3, by omega, by omega, Or.inr ⟨t, ht, s30, by rw [upN_at]; omega, rfl, by omega⟩, fun z => absurd (show (0 : Int32) < 2 by decide) z, fun q hq i hi => ?_⟩
    · rw [oa 17 (by omega) (by omega) (by omega) (by omega), o4 17 (by omega) (by omega) (by omega)]; exact a1
    · rw [oa (11 + q) (by omega) (by omega) (by omega) (by omega), oa (14 + q) (by omega) (by omega) (by omega) (by omega), o4 (11 + q) (by omega) (by omega) (by omega), o4 (14 + q) (by omega) (by omega) (by omega)]; exact a8 q hq i hi
  · rw [if_neg hz]; exact hD5
/-- an order that is carried out keeps the sums -/
theorem barClaim_v {s : Nat → Int32} {a b is : Int32} (h : rBarClaim s a b is = 0) : wrE a b = 0 ∧ s 6 = 1 := by
  unfold rBarClaim at h
  by_cases hw : wrE a b = 0
  · rw [if_pos hw] at h
    by_cases hi : 0 ≤ is ∧ is ≤ 1
    · rw [if_pos hi] at h
      by_cases h6 : s 6 = 1
      · exact ⟨hw, h6⟩
      · rw [if_neg h6] at h; exact absurd h (by decide)
    · rw [if_neg hi] at h; exact absurd h (by decide)
  · rw [if_neg hw] at h; exact absurd h hw
theorem extb_claim {s : Nat → Int32} {a b is : Int32} (h : Ext s) (hg : Good s) (hb : rBarClaim s a b is = 0) : Ext (rSays s (nT s) (bitE a b) is) := by
  obtain ⟨hw, h6⟩ := barClaim_v hb
  exact ext_says h hg h6 (good_t hg).2 fun i hi => bitE_hi hw hi
theorem extb_check {s : Nat → Int32} {q a b : Int32} (h : Ext s) (hg : Good s) (hb : rBarCheck s q a b = 0) : Ext (rChecks s (nT s) q.toNatClampNeg (bitE a b)) := by
  unfold rBarCheck at hb
  by_cases h1 : 0 ≤ q ∧ q < 3
  · rw [if_pos h1] at hb
    by_cases h2 : 0 ≤ a ∧ a < 8
    · rw [if_pos h2] at hb
      by_cases h3 : 0 ≤ b ∧ b < 8
      · rw [if_pos h3] at hb
        by_cases h4 : q = rem3 (s 7)
        · rw [if_pos h4] at hb; exact absurd hb (by decide)
        · rw [if_neg h4] at hb
          by_cases h5 : a = b
          · rw [if_pos h5] at hb; exact absurd hb (by decide)
          · rw [if_neg h5] at hb
            by_cases h6 : s 6 = 1
            · rw [if_pos h6] at hb
              by_cases h7 : (s (11 + q.toNatClampNeg) ||| s (14 + q.toNatClampNeg)) &&& bitE a b = 0
              · rw [if_pos h7] at hb; exact absurd hb (by decide)
              · rw [if_neg h7] at hb
                by_cases h8 : s 17 &&& bitE a b = 0
                · obtain ⟨p, hp, rfl⟩ := pln h1
                  rw [nI_clamp (by omega)]
                  obtain ⟨k, hk, ek⟩ := eI_k (wrE_4 h2 h3 h5)
                  rw [bitE_k ek] at h8 ⊢
                  refine ext_checks h hg h6 (good_t hg).2 hp (fun z => h4 ?_) hk ((and_one (by omega)).mp h8)
                  rw [(good_t hg).1, z]
                · rw [if_neg h8] at hb; exact absurd hb (by decide)
            · rw [if_neg h6] at hb; exact absurd hb (by decide)
      · rw [if_neg h3] at hb; exact absurd hb (by decide)
    · rw [if_neg h2] at hb; exact absurd hb (by decide)
  · rw [if_neg h1] at hb; exact absurd hb (by decide)
theorem extb_dig {s : Nat → Int32} {a its : Int32} (h : Ext s) (hg : Good s) (hb : rBarDig s (nT s) a = 0) : Ext (rDigs s (nT s) (nD s) a.toNatClampNeg its) := by
  have h6 := (barDig_v hb).2
  refine ext_digs h hg h6 (good_t hg).2 fun z => ?_
  unfold rBarDig at hb
  by_cases h1 : 0 ≤ a ∧ a < 8
  · rw [if_pos h1, if_pos h6, if_pos z] at hb; exact absurd hb (by decide)
  · rw [if_neg h1] at hb; exact absurd hb (by decide)
theorem extb_op {s : Nat → Int32} {g dg fi se : Int32} (h : Ext s) (hg : Good s) (ho : opS g) (hb : opBar s g dg fi se = 0) : Ext (opDo s g dg fi se) := by
  rcases ho with rfl | rfl | rfl | rfl | rfl | rfl | rfl | rfl
  · exact ext_road h
  · exact ext_treasure h
  · refine ext_begin h fun z => ?_
    have e : opBar s 98 dg fi se = if 0 < s 6 then -5 else 0 := rfl
    rw [e, if_pos z] at hb; exact absurd hb (by decide)
  · exact extb_claim h hg hb
  · have e : opBar s 45 dg fi se = rBarClaim s fi se 1 := rfl
    rw [e, ← claim_is] at hb
    exact extb_claim h hg hb
  · exact extb_check h hg hb
  · exact extb_dig h hg hb
  · refine ext_pass h hg ?_
    have e : opBar s 112 dg fi se = if s 6 = 1 then 0 else -5 := rfl
    rw [e] at hb
    by_cases z : s 6 = 1
    · exact z
    · rw [if_neg z] at hb; exact absurd hb (by decide)
