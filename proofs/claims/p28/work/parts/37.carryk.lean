/-! the class: the orders of a text -/
theorem claim_is (s : Nat → Int32) (fi se : Int32) : rBarClaim s fi se 0 = rBarClaim s fi se 1 := by
  unfold rBarClaim; rw [if_pos (c := (0 : Int32) ≤ 0 ∧ (0 : Int32) ≤ 1) (by decide), if_pos (c := (0 : Int32) ≤ 1 ∧ (1 : Int32) ≤ 1) (by decide)]
def Osg (r bar : Int32) (G2 : SS) (s s2 : Nat → Int32) : Prop := (bar = 0 ∧ 0 ≤ r ∧ Vs G2 s2) ∨ (¬ bar = 0 ∧ r < 0 ∧ Vs G2 s)
theorem Outc.sg {r bar val : Int32} {G2 : SS} {s s2 : Nat → Int32} (h : Outc r bar val G2 s s2) : Osg r bar G2 s s2 := by
  rcases h with ⟨h1, h2, h3, h4⟩ | ⟨h1, h2, h3⟩
  · exact Or.inl ⟨h1, h3, h4⟩
  · exact Or.inr ⟨fun z => by rw [z] at h1; exact absurd h1 (by decide), by rw [h2]; exact h1, h3⟩
theorem ord_sim (l : Launch) {G : SS} {s : Nat → Int32} (h : Vs G s) (hg : Good s) {g : Int32} (dg fi se : Int32) (hop : opS g) : ∃ r G2, dCt l G g dg fi se r G2 ∧ Osg r (opBar s g dg fi se) G2 s (opDo s g dg fi se) := by
  rcases hop with rfl | rfl | rfl | rfl | rfl | rfl | rfl | rfl
  · obtain ⟨r, G2, hC, hO⟩ := op_road l h hg fi se
    exact ⟨r, G2, Or.inl ⟨rfl, hC⟩, hO.sg⟩
  · obtain ⟨r, G2, hC, hO⟩ := op_treasure l h hg fi
    exact ⟨r, G2, Or.inr (Or.inl ⟨rfl, hC⟩), hO.sg⟩
  · obtain ⟨r, G2, hC, hO⟩ := op_begin l h hg
    exact ⟨r, G2, Or.inr (Or.inr (Or.inl ⟨rfl, hC⟩)), hO.sg⟩
  · obtain ⟨r, G2, hC, hO⟩ := op_claim l h hg fi se 1
    exact ⟨r, G2, Or.inr (Or.inr (Or.inr (Or.inl ⟨rfl, hC⟩))), hO.sg⟩
  · obtain ⟨r, G2, hC, hO⟩ := op_claim l h hg fi se 0
    rw [claim_is] at hO
    exact ⟨r, G2, Or.inr (Or.inr (Or.inr (Or.inr (Or.inl ⟨rfl, hC⟩)))), hO.sg⟩
  · obtain ⟨r, G2, hC, hO⟩ := op_check l h hg dg fi se
    exact ⟨r, G2, Or.inr (Or.inr (Or.inr (Or.inr (Or.inr (Or.inl ⟨rfl, hC⟩))))), hO.sg⟩
  · obtain ⟨r, G2, hC, hO⟩ := op_dig l h hg fi
    exact ⟨r, G2, Or.inr (Or.inr (Or.inr (Or.inr (Or.inr (Or.inr (Or.inl ⟨rfl, hC⟩)))))), hO.sg⟩
  · obtain ⟨r, G2, hC, hO⟩ := op_pass l h hg
    exact ⟨r, G2, Or.inr (Or.inr (Or.inr (Or.inr (Or.inr (Or.inr (Or.inr ⟨rfl, hC⟩)))))), hO.sg⟩
/-- the pad is emptied -/
def endK (S : SS) : SS := putG S 59 2 (up2 (gm S 59) 0 1 0)
theorem endK_k {S : SS} {k : Nat} (h : k ≠ 59) : endK S k = S k := by
  by_cases e : k = 60
  · subst e; rfl
  · exact putG_out (by omega)
theorem endK_L {S : SS} : endK S 59 1 = 0 := rfl
theorem putG_hi {S G : SS} {k : Nat} (h : 8 ≤ k) : putG S 1 7 G k = S k := putG_out (by omega)
theorem gm_put {S G : SS} : ∀ i, i < 7 → gm (putG S 1 7 G) 1 i = G i := fun i hi => putG_in hi
set_option maxRecDepth 100000 in
set_option maxHeartbeats 4000000 in
theorem carryK (l : Launch) {L : Nat} (hL2 : L ≤ 80) : ∀ (n at_ e m c : Nat) (S : SS) (s : Nat → Int32), at_ + n = L → at_ ≤ e → (e = L + 1 ∨ (e ≤ L ∧ dS (S 60) e = 1 ∧ (e = 0 ∨ S 60 (e - 1) = 59))) → (∀ j, at_ ≤ j → j < e → j ≠ 0 ∧ S 60 (j - 1) ≠ 59) → S 59 1 = nI L → dS (S 60) L = 5 → Good s → Vs (gm S 1) s → L + 1 < e + m →
    ∃ S2 : SS, Vs (gm S2 1) (exF (S 60) L m e s c).1 ∧ S2 59 1 = 0 ∧ (∀ k, 8 ≤ k → k ≠ 59 → S2 k = S k) ∧ VS l (rmD 7) RX6 cX6_carryOut 3 (XF (some .int) 77 (some (.int (nI (exF (S 60) L m e s c).2))) (shW shK S2)) 0 0 77 (shW shK S) 37 [some (.ref 0), some (.int (nI c)), some (.int (nI at_))] [] := by
  intro n
  induction n with
  | zero =>
    intro at_ e m c S s hn hae he hno hL h5 hg hV hm
    have hat : at_ = L := by omega
    subst hat
    have he1 : e = at_ + 1 := by
      rcases he with h | ⟨h, h1, -⟩
      · exact h
      · have : e = at_ := by omega
        rw [this, h5] at h1; exact absurd h1 (by decide)
    obtain ⟨m, rfl⟩ : ∃ k, m = k + 1 := ⟨m - 1, by omega⟩
    have ex : exF (S 60) at_ (m + 1) e s c = (s, c) := if_neg (by omega)
    rw [ex]
    refine ⟨endK S, hV.congr (fun i hi => endK_k (by omega)), endK_L, fun k _ h => endK_k h, ?_⟩
    obtain ⟨L, rfl⟩ : ∃ k, k = at_ := ⟨at_, rfl⟩
    refine VS.iload_n dX6_carryOut_37 rfl ?_
    refine VS.aload_n dX6_carryOut_38 rfl ?_
    refine VS.sgetR 5 dX6_carryOut_39 uw_X6 rfl (by decide) 2 (rfl) rfl (by decide) fl_X6_26 rfl ?_
    refine VS.sgetI 1 dX6_carryOut_42 uw_X2 rfl (by decide) 1 (rfl) rfl (by decide) fl_X6_184 rfl ?_
    refine VS.val (y := nI L) hL ?_
    refine VS.icmp_ge 79 dX6_carryOut_45 (by decide) (fun _ => ?_) (fun hh => absurd (nI_le (Nat.le_refl _) (by omega)) hh)
    refine VS.aload_n dX6_carryOut_79 rfl ?_
    refine VS.sgetR 5 dX6_carryOut_80 uw_X6 rfl (by decide) 2 (rfl) rfl (by decide) fl_X6_26 rfl ?_
    refine VS.callR (fun i => 59 + i) (shi_pd) (ct_X2_empty l _) dX6_carryOut_83 mi_X2_empty im_X2_empty sel_X2_empty ml_X6_203 (by decide) rfl rfl (rmOk_D (by decide) (by decide)) (Nat.le_of_ble_eq_true rfl) rfl ?_
    refine VS.stt (mg_off 59 2 _ _) ?_
    refine VS.pop dX6_carryOut_86 rfl ?_
    refine VS.iload_n dX6_carryOut_87 rfl ?_
    exact VS.iret dX6_carryOut_88 (rfl) (fun _ _ => rfl)
  | succ n ih =>
    intro at_ e m c S s hn hae he hno hL h5 hg hV hm
    have hat : at_ < L := by omega
    by_cases hlt : at_ < e
    · have hns : ¬ (at_ = 0 ∨ itI (gm S 59 1) L (at_ - 1) = 59) := by
        obtain ⟨h0, h1⟩ := hno at_ (Nat.le_refl _) hlt
        rintro (q | q)
        · exact h0 q
        · rw [it_lt (by omega)] at q; exact h1 q
      obtain ⟨S2, a1, a2, a3, hv⟩ := ih (at_ + 1) e m c S s (by omega) (by omega) he (fun j h1 h2 => hno j (by omega) h2) hL h5 hg hV hm
      refine ⟨S2, a1, a2, a3, ?_⟩
      refine VS.iload_n dX6_carryOut_37 rfl ?_
      refine VS.aload_n dX6_carryOut_38 rfl ?_
      refine VS.sgetR 5 dX6_carryOut_39 uw_X6 rfl (by decide) 2 (rfl) rfl (by decide) fl_X6_26 rfl ?_
      refine VS.sgetI 1 dX6_carryOut_42 uw_X2 rfl (by decide) 1 (rfl) rfl (by decide) fl_X6_184 rfl ?_
      refine VS.val (y := nI L) hL ?_
      refine VS.icmp_ge 79 dX6_carryOut_45 (by decide) (fun hh => absurd hh (nI_ge hat (by omega))) (fun _ => ?_)
      refine VS.aload_n dX6_carryOut_48 rfl ?_
      refine VS.sgetR 5 dX6_carryOut_49 uw_X6 rfl (by decide) 2 (rfl) rfl (by decide) fl_X6_26 rfl ?_
      refine VS.iload_n dX6_carryOut_52 rfl ?_
      refine VS.callR (fun i => 59 + i) (shi_pd) (ct_X2_startsOrder l _ hL hL2 (by omega)) dX6_carryOut_53 mi_X2_startsOrder im_X2_startsOrder sel_X2_startsOrder ml_X6_209 (by decide) rfl rfl (rmOk_D (by decide) (by decide)) (Nat.le_of_ble_eq_true rfl) rfl ?_
      refine VS.stt ((mg_off 59 2 _ _).trans putG_id) ?_
      refine VS.if_eq 73 dX6_carryOut_56 (by decide) (fun _ => ?_) (fun hh => absurd (if_neg hns) hh)
      refine VS.iinc (nI (at_ + 1)) dX6_carryOut_73 rfl (by decide) (nI_1 at_) rfl ?_
      refine VS.goto 37 dX6_carryOut_76 (by decide) ?_
      exact hv
    · have hae2 : at_ = e := by omega
      subst hae2
      obtain ⟨hd1, hst0⟩ : dS (S 60) at_ = 1 ∧ (at_ = 0 ∨ S 60 (at_ - 1) = 59) := by
        rcases he with h | ⟨-, h1, h2⟩
        · omega
        · exact ⟨h1, h2⟩
      have hst : at_ = 0 ∨ itI (gm S 59 1) L (at_ - 1) = 59 := by
        rcases hst0 with h | h
        · exact Or.inl h
        · exact Or.inr ((it_lt (by omega)).trans h)
      obtain ⟨hok, hK5⟩ := ord_of l hL2 hat hd1 h5
      have hop := ord_S hok
      have hKL := hok.1
      have hlp := lenO_pos (S 60 at_)
      obtain ⟨r, G2, hd, hO⟩ := ord_sim l hV hg (dgO (S 60) at_) (fiO (S 60) at_) (seO (S 60) at_) hop
      obtain ⟨m, rfl⟩ : ∃ k, m = k + 1 := ⟨m - 1, by omega⟩
      rcases hO with ⟨hb, r0, hV2⟩ | ⟨hb, r0, hV2⟩
      · have ex : exF (S 60) L (m + 1) at_ s c = exF (S 60) L m (at_ + lenO (S 60 at_) + 1) (opDo s (S 60 at_) (dgO (S 60) at_) (fiO (S 60) at_) (seO (S 60) at_)) (c + 1) := by
          show (if at_ < L then _ else _) = _
          rw [if_pos hat, if_pos hb]
        rw [ex]
        have hnx : at_ + lenO (S 60 at_) + 1 = L + 1 ∨ (at_ + lenO (S 60 at_) + 1 ≤ L ∧ dS (putG S 1 7 G2 60) (at_ + lenO (S 60 at_) + 1) = 1 ∧ (at_ + lenO (S 60 at_) + 1 = 0 ∨ putG S 1 7 G2 60 (at_ + lenO (S 60 at_) + 1 - 1) = 59)) := by
          rw [putG_hi (by decide)]
          by_cases q : at_ + lenO (S 60 at_) = L
          · exact Or.inl (by omega)
          · have hsm := semi_at h5 hK5 (by omega)
            exact Or.inr ⟨by omega, hsm.2, Or.inr hsm.1⟩
        obtain ⟨S2, a1, a2, a3, hv⟩ := ih (at_ + 1) (at_ + lenO (S 60 at_) + 1) m (c + 1) (putG S 1 7 G2) (opDo s (S 60 at_) (dgO (S 60) at_) (fiO (S 60) at_) (seO (S 60) at_)) (by omega) (by omega) hnx (fun j h1 h2 => by
          rw [putG_hi (by decide)]
          exact ⟨by omega, no_semi hok (j - 1) (by omega) (by omega)⟩) (by rw [putG_hi (by decide)]; exact hL) (by rw [putG_hi (by decide)]; exact h5) (good_op hg hop hb) (hV2.congr gm_put) (by omega)
        rw [putG_hi (by decide)] at a1 hv
        refine ⟨S2, a1, a2, fun k h1 h2 => (a3 k h1 h2).trans (putG_hi h1), ?_⟩
        refine VS.iload_n dX6_carryOut_37 rfl ?_
        refine VS.aload_n dX6_carryOut_38 rfl ?_
        refine VS.sgetR 5 dX6_carryOut_39 uw_X6 rfl (by decide) 2 (rfl) rfl (by decide) fl_X6_26 rfl ?_
        refine VS.sgetI 1 dX6_carryOut_42 uw_X2 rfl (by decide) 1 (rfl) rfl (by decide) fl_X6_184 rfl ?_
        refine VS.val (y := nI L) hL ?_
        refine VS.icmp_ge 79 dX6_carryOut_45 (by decide) (fun hh => absurd hh (nI_ge hat (by omega))) (fun _ => ?_)
        refine VS.aload_n dX6_carryOut_48 rfl ?_
        refine VS.sgetR 5 dX6_carryOut_49 uw_X6 rfl (by decide) 2 (rfl) rfl (by decide) fl_X6_26 rfl ?_
        refine VS.iload_n dX6_carryOut_52 rfl ?_
        refine VS.callR (fun i => 59 + i) (shi_pd) (ct_X2_startsOrder l _ hL hL2 (by omega)) dX6_carryOut_53 mi_X2_startsOrder im_X2_startsOrder sel_X2_startsOrder ml_X6_209 (by decide) rfl rfl (rmOk_D (by decide) (by decide)) (Nat.le_of_ble_eq_true rfl) rfl ?_
        refine VS.stt ((mg_off 59 2 _ _).trans putG_id) ?_
        refine VS.if_eq 73 dX6_carryOut_56 (by decide) (fun hh => absurd hh (by rw [if_pos hst]; decide)) (fun _ => ?_)
        refine VS.aload_n dX6_carryOut_59 rfl ?_
        refine VS.iload_n dX6_carryOut_60 rfl ?_
        refine VS.callT (ct_X6_carryOutOrder l _ hL hL2 hat hok hd) dX6_carryOut_61 mi_X6_carryOutOrder im_X6_carryOutOrder sel_X6_carryOutOrder ml_X6_212 (by decide) rfl rfl (rmOk_D (by decide) (by decide)) (Nat.le_of_ble_eq_true rfl) rfl ?_
        refine VS.if_ge 70 dX6_carryOut_64 (by decide) (fun _ => ?_) (fun hh => absurd (r0) hh)
        refine VS.iinc (nI (c + 1)) dX6_carryOut_70 rfl (by decide) (nI_1 c) rfl ?_
        refine VS.iinc (nI (at_ + 1)) dX6_carryOut_73 rfl (by decide) (nI_1 at_) rfl ?_
        refine VS.goto 37 dX6_carryOut_76 (by decide) ?_
        exact hv
      · have ex : exF (S 60) L (m + 1) at_ s c = (s, c) := by
          show (if at_ < L then _ else _) = _
          rw [if_pos hat, if_neg hb]
        rw [ex]
        refine ⟨endK (putG S 1 7 G2), hV2.congr (fun i hi => (endK_k (by omega)).trans (putG_in hi)), endK_L, fun k h1 h2 => (endK_k h2).trans (putG_hi h1), ?_⟩
        refine VS.iload_n dX6_carryOut_37 rfl ?_
        refine VS.aload_n dX6_carryOut_38 rfl ?_
        refine VS.sgetR 5 dX6_carryOut_39 uw_X6 rfl (by decide) 2 (rfl) rfl (by decide) fl_X6_26 rfl ?_
        refine VS.sgetI 1 dX6_carryOut_42 uw_X2 rfl (by decide) 1 (rfl) rfl (by decide) fl_X6_184 rfl ?_
        refine VS.val (y := nI L) hL ?_
        refine VS.icmp_ge 79 dX6_carryOut_45 (by decide) (fun hh => absurd hh (nI_ge hat (by omega))) (fun _ => ?_)
        refine VS.aload_n dX6_carryOut_48 rfl ?_
        refine VS.sgetR 5 dX6_carryOut_49 uw_X6 rfl (by decide) 2 (rfl) rfl (by decide) fl_X6_26 rfl ?_
        refine VS.iload_n dX6_carryOut_52 rfl ?_
        refine VS.callR (fun i => 59 + i) (shi_pd) (ct_X2_startsOrder l _ hL hL2 (by omega)) dX6_carryOut_53 mi_X2_startsOrder im_X2_startsOrder sel_X2_startsOrder ml_X6_209 (by decide) rfl rfl (rmOk_D (by decide) (by decide)) (Nat.le_of_ble_eq_true rfl) rfl ?_
        refine VS.stt ((mg_off 59 2 _ _).trans putG_id) ?_
        refine VS.if_eq 73 dX6_carryOut_56 (by decide) (fun hh => absurd hh (by rw [if_pos hst]; decide)) (fun _ => ?_)
        refine VS.aload_n dX6_carryOut_59 rfl ?_
        refine VS.iload_n dX6_carryOut_60 rfl ?_
        refine VS.callT (ct_X6_carryOutOrder l _ hL hL2 hat hok hd) dX6_carryOut_61 mi_X6_carryOutOrder im_X6_carryOutOrder sel_X6_carryOutOrder ml_X6_212 (by decide) rfl rfl (rmOk_D (by decide) (by decide)) (Nat.le_of_ble_eq_true rfl) rfl ?_
        refine VS.if_ge 70 dX6_carryOut_64 (by decide) (fun hh => absurd hh (Int32.not_le.mpr r0)) (fun _ => ?_)
        refine VS.goto 79 dX6_carryOut_67 (by decide) ?_
        refine VS.aload_n dX6_carryOut_79 rfl ?_
        refine VS.sgetR 5 dX6_carryOut_80 uw_X6 rfl (by decide) 2 (rfl) rfl (by decide) fl_X6_26 rfl ?_
        refine VS.callR (fun i => 59 + i) (shi_pd) (ct_X2_empty l _) dX6_carryOut_83 mi_X2_empty im_X2_empty sel_X2_empty ml_X6_203 (by decide) rfl rfl (rmOk_D (by decide) (by decide)) (Nat.le_of_ble_eq_true rfl) rfl ?_
        refine VS.stt (mg_off 59 2 _ _) ?_
        refine VS.pop dX6_carryOut_86 rfl ?_
        refine VS.iload_n dX6_carryOut_87 rfl ?_
        exact VS.iret dX6_carryOut_88 (rfl) (fun _ _ => rfl)
