/-! the reference: the whole text, its fault -/
theorem oF3_w (f : Nat → Int32) (k k2 : Nat) (w w2 sg dg fi se : Int32) : upd (upd (oF3 f k w sg dg fi se) 11 w2) 10 (nI k2) = oF3 f k2 w2 sg dg fi se := by
  funext j
  rw [show oF3 f k2 w2 sg dg fi se j = if j = 15 then se else oF2 f k2 w2 sg dg fi j from rfl, ← oF2_w f k k2 w w2 sg]
  unfold upd oF3
  by_cases h : j = 15
  · subst h; simp
  · simp [h]
theorem sw_od3 (M : SS) (k k2 : Nat) (w w2 sg dg fi se : Int32) : sw2 (od3 M k w sg dg fi se) k2 w2 = od3 M k2 w2 sg dg fi se := by
  unfold sw2 od3
  rw [upC_upC, upC_at, oF3_w]
theorem oF3_o (f h : Nat → Int32) (hf : ∀ j, j ≠ 10 → j ≠ 11 → j ≠ 12 → j ≠ 13 → j ≠ 14 → j ≠ 15 → f j = h j) (k : Nat) (w sg dg fi se : Int32) : oF3 f k w sg dg fi se = oF3 h k w sg dg fi se := by
  funext j
  unfold oF3 oF2 oF1 oF0
  by_cases a : j = 15
  · rw [if_pos a, if_pos a]
  rw [if_neg a, if_neg a]
  by_cases b : j = 14
  · rw [if_pos b, if_pos b]
  rw [if_neg b, if_neg b]
  by_cases c : j = 13
  · rw [if_pos c, if_pos c]
  rw [if_neg c, if_neg c]
  by_cases d : j = 10
  · rw [if_pos d, if_pos d]
  rw [if_neg d, if_neg d]
  by_cases e : j = 11
  · rw [if_pos e, if_pos e]
  rw [if_neg e, if_neg e]
  by_cases g : j = 12
  · rw [if_pos g, if_pos g]
  rw [if_neg g, if_neg g, hf j d e g c b a]
theorem oF3_oo (f : Nat → Int32) (k k2 : Nat) (w w2 sg sg2 dg dg2 fi fi2 se se2 : Int32) : oF3 (oF3 f k w sg dg fi se) k2 w2 sg2 dg2 fi2 se2 = oF3 f k2 w2 sg2 dg2 fi2 se2 :=
  oF3_o _ _ (fun j h1 h2 h3 h4 h5 h6 => by unfold oF3 oF2 oF1 oF0; rw [if_neg h6, if_neg h5, if_neg h4, if_neg h1, if_neg h2, if_neg h3]) _ _ _ _ _ _
theorem od3_od3 (M : SS) (k k2 : Nat) (w w2 sg sg2 dg dg2 fi fi2 se se2 : Int32) : od3 (od3 M k w sg dg fi se) k2 w2 sg2 dg2 fi2 se2 = od3 M k2 w2 sg2 dg2 fi2 se2 := by
  unfold od3
  rw [upC_upC, upC_at, oF3_oo]
theorem od3_ini (M : SS) (k2 : Nat) (a b w2 sg2 dg2 fi2 se2 : Int32) : od3 (up2 (up2 M 0 10 a) 0 11 b) k2 w2 sg2 dg2 fi2 se2 = od3 M k2 w2 sg2 dg2 fi2 se2 := by
  unfold od3 up2
  rw [upC_upC, upC_upC, upC_at, upC_at]
  congr 1
  exact oF3_o _ _ (fun j h1 h2 _ _ _ _ => by rw [upd_ne h2, upd_ne h1]) _ _ _ _ _ _
/-- the text is whole, or it has its fault at K -/
def WhR (P : Nat → Int32) (L K : Nat) (w R : Int32) : Prop := (R = 1 ∧ w = 0 ∧ dS P L = 5) ∨ (R = 0 ∧ w = 1 ∧ FltAt P L K)
set_option maxRecDepth 100000 in
set_option maxHeartbeats 4000000 in
theorem isWhole_loop (l : Launch) {L : Nat} (hL2 : L ≤ 80) : ∀ (n k : Nat) (Mk : SS), L < k + n → k ≤ L → Mk 0 10 = nI k → Mk 0 6 = nI L → Mk 0 11 = 0 → dS (Mk 5) k = 1 →
    ∃ (K : Nat) (w sg dg fi se R : Int32), WhR (Mk 5) L K w R ∧ VS l (rmD 3) RX7 cX7_isWhole 3 (XF (some .boolean) 7 (some (.int R)) (shW shM (od3 Mk K w sg dg fi se))) 0 0 7 (shW shM Mk) 12 [some (.ref 0), some (.int 1), none] [] := by
  intro n
  induction n with
  | zero => intro k Mk h1 h2; omega
  | succ n ih =>
    intro k Mk hn hkL hk hL hw hd
    obtain ⟨K, w, sg, dg, fi, se, hC, ⟨rfl, hok, h5, rfl, -, -, -, -⟩ | ⟨rfl, hf⟩⟩ := ct_X7_order l hk hL hL2 hkL hw hd
    · by_cases hlt : k + lenO (Mk 5 k) < L
      · by_cases h59 : Mk 5 (k + lenO (Mk 5 k)) = 59
        · have hd2 : dS (Mk 5) (k + lenO (Mk 5 k) + 1) = 1 := by rw [dS_s, h5, h59]; rfl
          have hpos : 0 < lenO (Mk 5 k) := by unfold lenO; split; · decide
                                              split; · decide
                                              split <;> decide
          obtain ⟨K, w, sg2, dg2, fi2, se2, R, hR, hv⟩ := ih (k + lenO (Mk 5 k) + 1) (od3 Mk (k + lenO (Mk 5 k) + 1) 0 sg dg fi se) (by omega) (by omega) rfl hL rfl hd2
          refine ⟨K, w, sg2, dg2, fi2, se2, R, hR, ?_⟩
          refine VS.iload_n dX7_isWhole_12 rfl ?_
          refine VS.if_eq 73 dX7_isWhole_13 (by decide) (fun hh => absurd hh (by decide)) (fun _ => ?_)
          refine VS.aload_n dX7_isWhole_16 rfl ?_
          refine VS.callT (hC) dX7_isWhole_17 mi_X7_order im_X7_order sel_X7_order ml_X7_181 (by decide) rfl rfl (rmOk_D (by decide) (by decide)) (Nat.le_of_ble_eq_true rfl) rfl ?_
          refine VS.aload_n dX7_isWhole_20 rfl ?_
          refine VS.sgetI 6 dX7_isWhole_21 uw_X7 rfl (by decide) 11 rfl rfl (by decide) fl_X7_162 rfl ?_
          refine VS.val (y := 0) rfl ?_
          refine VS.if_ne 42 dX7_isWhole_24 (by decide) (fun hh => absurd (rfl) hh) (fun _ => ?_)
          refine VS.aload_n dX7_isWhole_27 rfl ?_
          refine VS.sgetI 6 dX7_isWhole_28 uw_X7 rfl (by decide) 10 rfl rfl (by decide) fl_X7_159 rfl ?_
          refine VS.val (y := nI (k + lenO (Mk 5 k))) rfl ?_
          refine VS.aload_n dX7_isWhole_31 rfl ?_
          refine VS.sgetI 6 dX7_isWhole_32 uw_X7 rfl (by decide) 6 rfl rfl (by decide) fl_X7_151 rfl ?_
          refine VS.val (y := nI L) hL ?_
          refine VS.icmp_ge 42 dX7_isWhole_35 (by decide) (fun hh => absurd hh (nI_ge (by omega) (by omega))) (fun _ => ?_)
          refine VS.iconst (1) dX7_isWhole_38 rfl ?_
          refine VS.goto 43 dX7_isWhole_39 (by decide) ?_
          refine VS.istore_n dX7_isWhole_43 (by decide) rfl ?_
          refine VS.iload_n dX7_isWhole_44 rfl ?_
          refine VS.if_eq 12 dX7_isWhole_45 (by decide) (fun hh => absurd hh (by decide)) (fun _ => ?_)
          refine VS.aload_n dX7_isWhole_48 rfl ?_
          refine VS.bipush (59) dX7_isWhole_49 rfl ?_
          refine VS.bipush (59) dX7_isWhole_51 rfl ?_
          refine VS.callT (ct_X7_within l (od3 Mk (k + lenO (Mk 5 k)) 0 sg dg fi se) 59 59 (k := k + lenO (Mk 5 k)) (L := L) rfl hL hL2 (by omega)) dX7_isWhole_53 mi_X7_within im_X7_within sel_X7_within ml_X7_169 (by decide) rfl rfl (rmOk_D (by decide) (by decide)) (Nat.le_of_ble_eq_true rfl) rfl ?_
          refine VS.stt (S2 := od3 Mk (k + lenO (Mk 5 k) + 1) 0 sg dg fi se) (by rw [show wiB ((od3 Mk (k + lenO (Mk 5 k)) 0 sg dg fi se) 5) L (k + lenO (Mk 5 k)) ((od3 Mk (k + lenO (Mk 5 k)) 0 sg dg fi se) 0 11) 59 59 = 0 from wi_y rfl (by rw [it_lt hlt]; show 59 ≤ Mk 5 _ ∧ Mk 5 _ ≤ 59; rw [h59]; decide), wk0, sw_od3]) ?_
          refine VS.istore_n dX7_isWhole_56 (by decide) rfl ?_
          refine VS.aload_n dX7_isWhole_57 rfl ?_
          refine VS.sgetI 6 dX7_isWhole_58 uw_X7 rfl (by decide) 11 rfl rfl (by decide) fl_X7_162 rfl ?_
          refine VS.val (y := 0) rfl ?_
          refine VS.if_ne 68 dX7_isWhole_61 (by decide) (fun hh => absurd (rfl) hh) (fun _ => ?_)
          refine VS.iconst (1) dX7_isWhole_64 rfl ?_
          refine VS.goto 69 dX7_isWhole_65 (by decide) ?_
          refine VS.istore_n dX7_isWhole_69 (by decide) rfl ?_
          refine VS.goto 12 dX7_isWhole_70 (by decide) ?_
          rw [od3_od3] at hv
          exact VS.forget 2 hv
        · refine ⟨k + lenO (Mk 5 k), 1, sg, dg, fi, se, 0, Or.inr ⟨rfl, rfl, by omega, by rw [h5]; decide, Or.inl ⟨hlt, by rw [dS_s, h5, d5, if_neg h59]⟩⟩, ?_⟩
          refine VS.iload_n dX7_isWhole_12 rfl ?_
          refine VS.if_eq 73 dX7_isWhole_13 (by decide) (fun hh => absurd hh (by decide)) (fun _ => ?_)
          refine VS.aload_n dX7_isWhole_16 rfl ?_
          refine VS.callT (hC) dX7_isWhole_17 mi_X7_order im_X7_order sel_X7_order ml_X7_181 (by decide) rfl rfl (rmOk_D (by decide) (by decide)) (Nat.le_of_ble_eq_true rfl) rfl ?_
          refine VS.aload_n dX7_isWhole_20 rfl ?_
          refine VS.sgetI 6 dX7_isWhole_21 uw_X7 rfl (by decide) 11 rfl rfl (by decide) fl_X7_162 rfl ?_
          refine VS.val (y := 0) rfl ?_
          refine VS.if_ne 42 dX7_isWhole_24 (by decide) (fun hh => absurd (rfl) hh) (fun _ => ?_)
          refine VS.aload_n dX7_isWhole_27 rfl ?_
          refine VS.sgetI 6 dX7_isWhole_28 uw_X7 rfl (by decide) 10 rfl rfl (by decide) fl_X7_159 rfl ?_
          refine VS.val (y := nI (k + lenO (Mk 5 k))) rfl ?_
          refine VS.aload_n dX7_isWhole_31 rfl ?_
          refine VS.sgetI 6 dX7_isWhole_32 uw_X7 rfl (by decide) 6 rfl rfl (by decide) fl_X7_151 rfl ?_
          refine VS.val (y := nI L) hL ?_
          refine VS.icmp_ge 42 dX7_isWhole_35 (by decide) (fun hh => absurd hh (nI_ge (by omega) (by omega))) (fun _ => ?_)
          refine VS.iconst (1) dX7_isWhole_38 rfl ?_
          refine VS.goto 43 dX7_isWhole_39 (by decide) ?_
          refine VS.istore_n dX7_isWhole_43 (by decide) rfl ?_
          refine VS.iload_n dX7_isWhole_44 rfl ?_
          refine VS.if_eq 12 dX7_isWhole_45 (by decide) (fun hh => absurd hh (by decide)) (fun _ => ?_)
          refine VS.aload_n dX7_isWhole_48 rfl ?_
          refine VS.bipush (59) dX7_isWhole_49 rfl ?_
          refine VS.bipush (59) dX7_isWhole_51 rfl ?_
          refine VS.callT (ct_X7_within l (od3 Mk (k + lenO (Mk 5 k)) 0 sg dg fi se) 59 59 (k := k + lenO (Mk 5 k)) (L := L) rfl hL hL2 (by omega)) dX7_isWhole_53 mi_X7_within im_X7_within sel_X7_within ml_X7_169 (by decide) rfl rfl (rmOk_D (by decide) (by decide)) (Nat.le_of_ble_eq_true rfl) rfl ?_
          refine VS.stt (S2 := od3 Mk (k + lenO (Mk 5 k)) 1 sg dg fi se) (by rw [show wiB ((od3 Mk (k + lenO (Mk 5 k)) 0 sg dg fi se) 5) L (k + lenO (Mk 5 k)) ((od3 Mk (k + lenO (Mk 5 k)) 0 sg dg fi se) 0 11) 59 59 = 1 from wi_n2 (by rw [it_lt hlt]; exact fun z => h59 (Int32.le_antisymm z.2 z.1)), wk1, sw_od3]) ?_
          refine VS.istore_n dX7_isWhole_56 (by decide) rfl ?_
          refine VS.aload_n dX7_isWhole_57 rfl ?_
          refine VS.sgetI 6 dX7_isWhole_58 uw_X7 rfl (by decide) 11 rfl rfl (by decide) fl_X7_162 rfl ?_
          refine VS.val (y := 1) rfl ?_
          refine VS.if_ne 68 dX7_isWhole_61 (by decide) (fun _ => ?_) (fun hh => absurd hh (by decide))
          refine VS.iconst (0) dX7_isWhole_68 rfl ?_
          refine VS.istore_n dX7_isWhole_69 (by decide) rfl ?_
          refine VS.goto 12 dX7_isWhole_70 (by decide) ?_
          refine VS.iload_n dX7_isWhole_12 rfl ?_
          refine VS.if_eq 73 dX7_isWhole_13 (by decide) (fun _ => ?_) (fun hh => absurd (rfl) hh)
          refine VS.aload_n dX7_isWhole_73 rfl ?_
          refine VS.sgetI 6 dX7_isWhole_74 uw_X7 rfl (by decide) 11 rfl rfl (by decide) fl_X7_162 rfl ?_
          refine VS.val (y := 1) rfl ?_
          refine VS.if_ne 84 dX7_isWhole_77 (by decide) (fun _ => ?_) (fun hh => absurd hh (by decide))
          refine VS.iconst (0) dX7_isWhole_84 rfl ?_
          exact VS.zret dX7_isWhole_85 (by first | rfl | exact nb_ite) (rfl) (shk rfl)
      · have hKL : k + lenO (Mk 5 k) = L := by have := hok.1; omega
        refine ⟨k + lenO (Mk 5 k), 0, sg, dg, fi, se, 1, Or.inl ⟨rfl, rfl, by rw [← hKL]; exact h5⟩, ?_⟩
        refine VS.iload_n dX7_isWhole_12 rfl ?_
        refine VS.if_eq 73 dX7_isWhole_13 (by decide) (fun hh => absurd hh (by decide)) (fun _ => ?_)
        refine VS.aload_n dX7_isWhole_16 rfl ?_
        refine VS.callT (hC) dX7_isWhole_17 mi_X7_order im_X7_order sel_X7_order ml_X7_181 (by decide) rfl rfl (rmOk_D (by decide) (by decide)) (Nat.le_of_ble_eq_true rfl) rfl ?_
        refine VS.aload_n dX7_isWhole_20 rfl ?_
        refine VS.sgetI 6 dX7_isWhole_21 uw_X7 rfl (by decide) 11 rfl rfl (by decide) fl_X7_162 rfl ?_
        refine VS.val (y := 0) rfl ?_
        refine VS.if_ne 42 dX7_isWhole_24 (by decide) (fun hh => absurd (rfl) hh) (fun _ => ?_)
        refine VS.aload_n dX7_isWhole_27 rfl ?_
        refine VS.sgetI 6 dX7_isWhole_28 uw_X7 rfl (by decide) 10 rfl rfl (by decide) fl_X7_159 rfl ?_
        refine VS.val (y := nI (k + lenO (Mk 5 k))) rfl ?_
        refine VS.aload_n dX7_isWhole_31 rfl ?_
        refine VS.sgetI 6 dX7_isWhole_32 uw_X7 rfl (by decide) 6 rfl rfl (by decide) fl_X7_151 rfl ?_
        refine VS.val (y := nI L) hL ?_
        refine VS.icmp_ge 42 dX7_isWhole_35 (by decide) (fun _ => ?_) (fun hh => absurd (nI_le (by omega) (by omega)) hh)
        refine VS.iconst (0) dX7_isWhole_42 rfl ?_
        refine VS.istore_n dX7_isWhole_43 (by decide) rfl ?_
        refine VS.iload_n dX7_isWhole_44 rfl ?_
        refine VS.if_eq 12 dX7_isWhole_45 (by decide) (fun _ => ?_) (fun hh => absurd (rfl) hh)
        refine VS.iload_n dX7_isWhole_12 rfl ?_
        refine VS.if_eq 73 dX7_isWhole_13 (by decide) (fun _ => ?_) (fun hh => absurd (rfl) hh)
        refine VS.aload_n dX7_isWhole_73 rfl ?_
        refine VS.sgetI 6 dX7_isWhole_74 uw_X7 rfl (by decide) 11 rfl rfl (by decide) fl_X7_162 rfl ?_
        refine VS.val (y := 0) rfl ?_
        refine VS.if_ne 84 dX7_isWhole_77 (by decide) (fun hh => absurd (rfl) hh) (fun _ => ?_)
        refine VS.iconst (1) dX7_isWhole_80 rfl ?_
        refine VS.goto 85 dX7_isWhole_81 (by decide) ?_
        exact VS.zret dX7_isWhole_85 (by first | rfl | exact nb_ite) (rfl) (shk rfl)
    · refine ⟨K, 1, sg, dg, fi, se, 0, Or.inr ⟨rfl, rfl, hf⟩, ?_⟩
      refine VS.iload_n dX7_isWhole_12 rfl ?_
      refine VS.if_eq 73 dX7_isWhole_13 (by decide) (fun hh => absurd hh (by decide)) (fun _ => ?_)
      refine VS.aload_n dX7_isWhole_16 rfl ?_
      refine VS.callT (hC) dX7_isWhole_17 mi_X7_order im_X7_order sel_X7_order ml_X7_181 (by decide) rfl rfl (rmOk_D (by decide) (by decide)) (Nat.le_of_ble_eq_true rfl) rfl ?_
      refine VS.aload_n dX7_isWhole_20 rfl ?_
      refine VS.sgetI 6 dX7_isWhole_21 uw_X7 rfl (by decide) 11 rfl rfl (by decide) fl_X7_162 rfl ?_
      refine VS.val (y := 1) rfl ?_
      refine VS.if_ne 42 dX7_isWhole_24 (by decide) (fun _ => ?_) (fun hh => absurd hh (by decide))
      refine VS.iconst (0) dX7_isWhole_42 rfl ?_
      refine VS.istore_n dX7_isWhole_43 (by decide) rfl ?_
      refine VS.iload_n dX7_isWhole_44 rfl ?_
      refine VS.if_eq 12 dX7_isWhole_45 (by decide) (fun _ => ?_) (fun hh => absurd (rfl) hh)
      refine VS.iload_n dX7_isWhole_12 rfl ?_
      refine VS.if_eq 73 dX7_isWhole_13 (by decide) (fun _ => ?_) (fun hh => absurd (rfl) hh)
      refine VS.aload_n dX7_isWhole_73 rfl ?_
      refine VS.sgetI 6 dX7_isWhole_74 uw_X7 rfl (by decide) 11 rfl rfl (by decide) fl_X7_162 rfl ?_
      refine VS.val (y := 1) rfl ?_
      refine VS.if_ne 84 dX7_isWhole_77 (by decide) (fun _ => ?_) (fun hh => absurd hh (by decide))
      refine VS.iconst (0) dX7_isWhole_84 rfl ?_
      exact VS.zret dX7_isWhole_85 (by first | rfl | exact nb_ite) (rfl) (shk rfl)
set_option maxRecDepth 100000 in
set_option maxHeartbeats 4000000 in
theorem ct_X7_isWhole (l : Launch) {M : SS} {L : Nat} (hL2 : L ≤ 80) (hL : M 0 6 = nI L) : ∃ (K : Nat) (w sg dg fi se R : Int32), WhR (M 5) L K w R ∧ CtS l yX7_isWhole cX7_isWhole 3 (some .boolean) (rmD 3) [.ref 0] 7 shM M (some (.int R)) (od3 M K w sg dg fi se) := by
  obtain ⟨K, w, sg, dg, fi, se, R, hR, hv⟩ := isWhole_loop l hL2 (L + 1) 0 (up2 (up2 M 0 10 0) 0 11 0) (by omega) (Nat.zero_le _) rfl hL rfl rfl
  refine ⟨K, w, sg, dg, fi, se, R, hR, ?_⟩
  rw [od3_ini] at hv
  refine CtF.of (own := RX7) [some (.ref 0), none, none] (by decide +kernel) rfl (fun _ => Nat.le_of_ble_eq_true rfl) (fun _ => rfl) ?_
  refine VS.aload_n dX7_isWhole_0 rfl ?_
  refine VS.iconst (0) dX7_isWhole_1 rfl ?_
  refine VS.sput 6 dX7_isWhole_2 uw_X7 tyX7 tyX7_ok nmX7 rfl (by decide) 10 rfl rfl (by decide) fl_X7_159 rfl rfl (rfl) (rfl) ?_
  refine VS.aload_n dX7_isWhole_5 rfl ?_
  refine VS.iconst (0) dX7_isWhole_6 rfl ?_
  refine VS.sput 6 dX7_isWhole_7 uw_X7 tyX7 tyX7_ok nmX7 rfl (by decide) 11 rfl rfl (by decide) fl_X7_162 rfl rfl (rfl) (rfl) ?_
  refine VS.iconst (1) dX7_isWhole_10 rfl ?_
  refine VS.istore_n dX7_isWhole_11 (by decide) rfl ?_
  exact hv
/-- the fault of a text -/
def FaultV (P : Nat → Int32) (L : Nat) (v : Int32) : Prop := (dS P L = 5 ∧ v = -6) ∨ ∃ K, FltAt P L K ∧ v = nI K
set_option maxRecDepth 100000 in
set_option maxHeartbeats 4000000 in
theorem ct_X7_fault (l : Launch) {M : SS} {L : Nat} (hL2 : L ≤ 80) (hL : M 0 6 = nI L) : ∃ (K : Nat) (w sg dg fi se v : Int32), FaultV (M 5) L v ∧ CtS l yX7_fault cX7_fault 1 (some .int) (rmD 4) [.ref 0] 7 shM M (some (.int v)) (od3 M K w sg dg fi se) := by
  obtain ⟨K, w, sg, dg, fi, se, R, ⟨rfl, rfl, h5⟩ | ⟨rfl, rfl, hf⟩, hC⟩ := ct_X7_isWhole l hL2 hL
  · refine ⟨K, 0, sg, dg, fi, se, -6, Or.inl ⟨h5, rfl⟩, ?_⟩
    refine CtF.of (own := RX7) [some (.ref 0)] (by decide +kernel) rfl (fun _ => Nat.le_of_ble_eq_true rfl) (fun _ => rfl) ?_
    refine VS.aload_n dX7_fault_0 rfl ?_
    refine VS.callT (hC) dX7_fault_1 mi_X7_isWhole im_X7_isWhole sel_X7_isWhole ml_X7_184 (by decide) rfl rfl (rmOk_D (by decide) (by decide)) (Nat.le_of_ble_eq_true rfl) rfl ?_
    refine VS.if_eq 12 dX7_fault_4 (by decide) (fun hh => absurd hh (by decide)) (fun _ => ?_)
    refine VS.bipush (-6) dX7_fault_7 rfl ?_
    refine VS.goto 16 dX7_fault_9 (by decide) ?_
    exact VS.iret dX7_fault_16 (rfl) (shk rfl)
  · refine ⟨K, 1, sg, dg, fi, se, nI K, Or.inr ⟨K, hf, rfl⟩, ?_⟩
    refine CtF.of (own := RX7) [some (.ref 0)] (by decide +kernel) rfl (fun _ => Nat.le_of_ble_eq_true rfl) (fun _ => rfl) ?_
    refine VS.aload_n dX7_fault_0 rfl ?_
    refine VS.callT (hC) dX7_fault_1 mi_X7_isWhole im_X7_isWhole sel_X7_isWhole ml_X7_184 (by decide) rfl rfl (rmOk_D (by decide) (by decide)) (Nat.le_of_ble_eq_true rfl) rfl ?_
    refine VS.if_eq 12 dX7_fault_4 (by decide) (fun _ => ?_) (fun hh => absurd (rfl) hh)
    refine VS.aload_n dX7_fault_12 rfl ?_
    refine VS.sgetI 6 dX7_fault_13 uw_X7 rfl (by decide) 10 rfl rfl (by decide) fl_X7_159 rfl ?_
    exact VS.iret dX7_fault_16 (rfl) (shk rfl)
