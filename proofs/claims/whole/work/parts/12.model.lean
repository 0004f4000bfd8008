/-! the reference: what its methods do to its row of numbers -/
def rem3 (x : Int32) : Int32 := x - x / 3 * 3
def rEnds (s : Nat → Int32) : Nat → Int32 := upd (upd s 7 (s 7 + 1)) 6 (if s 7 + 1 = 150 then 2 else s 6)
def rGets (s : Nat → Int32) (p : Nat) (c : Int32) : Nat → Int32 := upd s (8 + p) (if 9999 < s (8 + p) + c then 9999 else s (8 + p) + c)
def rPaid (s : Nat → Int32) (f : Nat) (c : Int32) : Int32 := if s (8 + f) < c then s (8 + f) else c
def rPays (s : Nat → Int32) (f t : Nat) (c : Int32) : Nat → Int32 := rGets (upd s (8 + f) (s (8 + f) - rPaid s f c)) t (rPaid s f c)
def rClaims (s : Nat → Int32) (p : Nat) : Int32 := pcI (s (11 + p) ||| s (14 + p))
def rBarRoad (s : Nat → Int32) (a b : Int32) : Int32 := if wrE a b = 0 then (if 0 < s 6 then -5 else 0) else wrE a b
def rBarTreasure (s : Nat → Int32) (a : Int32) : Int32 := if 0 ≤ a ∧ a < 8 then (if 0 < s 6 then -5 else 0) else -1
def rBarClaim (s : Nat → Int32) (a b is : Int32) : Int32 := if wrE a b = 0 then (if 0 ≤ is ∧ is ≤ 1 then (if s 6 = 1 then 0 else -5) else -2) else wrE a b
def rLays (s : Nat → Int32) (a b : Int32) : Nat → Int32 := upd s 0 (s 0 ^^^ bitE a b)
def rSays1 (s : Nat → Int32) (p : Nat) (b is : Int32) : Nat → Int32 := upd s (11 + p) (if is = 1 then s (11 + p) ||| b else s (11 + p) &&& (b ^^^ -1))
def rSays2 (s : Nat → Int32) (p : Nat) (b is : Int32) : Nat → Int32 := upd s (14 + p) (if is = 0 then s (14 + p) ||| b else s (14 + p) &&& (b ^^^ -1))
def rSays (s : Nat → Int32) (p : Nat) (b is : Int32) : Nat → Int32 := rEnds (rSays2 (rSays1 s p b is) p b is)
theorem ix_add {c p : Nat} : nI c + nI p = nI (c + p) := nI_add c p
theorem irem3 : ¬ (3 : Int32) = 0 := by decide

set_option maxRecDepth 100000 in
set_option maxHeartbeats 4000000 in
theorem ct_X7_hasBegun (l : Launch) (M : SS)  : CtS l yX7_hasBegun cX7_hasBegun 1 (some FieldType.boolean) (rmD 0) [.ref 0] 7 shM M (some (.int (if 0 < M 1 6 then 1 else 0))) (M) := by
  refine CtF.of (own := RX7) [some (.ref 0)] (by decide +kernel) rfl (fun _ => Nat.le_of_ble_eq_true rfl) (fun _ => rfl) ?_
  refine VS.aload_n dX7_hasBegun_0 rfl ?_
  refine VS.sgetR 6 dX7_hasBegun_1 uw_X7 rfl (by decide) 0 (rfl) rfl (by decide) fl_X7_7 rfl ?_
  refine VS.bipush (6) dX7_hasBegun_4 rfl ?_
  refine VS.siald (6) dX7_hasBegun_6 (by decide) rfl (rfl) (by decide) (by decide) ?_
  refine VS.if_le 14 dX7_hasBegun_7 (by decide) (fun h_7 => ?_) (fun h_7 => ?_)
  · refine VS.iconst (0) dX7_hasBegun_14 rfl ?_
    exact VS.zret dX7_hasBegun_15 (by first | rfl | exact nb_ite) (by first | (rw [if_pos (by simp only [Int32.lt_iff_toInt_lt, Int32.le_iff_toInt_le, ti_0, ti_1, ti_2, ti_3, ti_4, ti_5, ti_6, ti_7, ti_8, ti_9, ti_10, ti_14, ti_15, ti_16, ti_20, ti_28, ti_33, ti_40, ti_50, ti_80, ti_97, ti_99, ti_100, ti_104, ti_126, ti_150, ti_182, ti_200, ti_255, ti_364, ti_1092, ti_9999, tim_1, tim_2, tim_3, tim_4, tim_5, tim_6] at *; omega)]) | (rw [if_neg (by simp only [Int32.lt_iff_toInt_lt, Int32.le_iff_toInt_le, ti_0, ti_1, ti_2, ti_3, ti_4, ti_5, ti_6, ti_7, ti_8, ti_9, ti_10, ti_14, ti_15, ti_16, ti_20, ti_28, ti_33, ti_40, ti_50, ti_80, ti_97, ti_99, ti_100, ti_104, ti_126, ti_150, ti_182, ti_200, ti_255, ti_364, ti_1092, ti_9999, tim_1, tim_2, tim_3, tim_4, tim_5, tim_6] at *; omega)])) (fun _ _ => rfl)
  · refine VS.iconst (1) dX7_hasBegun_10 rfl ?_
    refine VS.goto 15 dX7_hasBegun_11 (by decide) ?_
    exact VS.zret dX7_hasBegun_15 (by first | rfl | exact nb_ite) (by first | (rw [if_pos (by simp only [Int32.lt_iff_toInt_lt, Int32.le_iff_toInt_le, ti_0, ti_1, ti_2, ti_3, ti_4, ti_5, ti_6, ti_7, ti_8, ti_9, ti_10, ti_14, ti_15, ti_16, ti_20, ti_28, ti_33, ti_40, ti_50, ti_80, ti_97, ti_99, ti_100, ti_104, ti_126, ti_150, ti_182, ti_200, ti_255, ti_364, ti_1092, ti_9999, tim_1, tim_2, tim_3, tim_4, tim_5, tim_6] at *; omega)]) | (rw [if_neg (by simp only [Int32.lt_iff_toInt_lt, Int32.le_iff_toInt_le, ti_0, ti_1, ti_2, ti_3, ti_4, ti_5, ti_6, ti_7, ti_8, ti_9, ti_10, ti_14, ti_15, ti_16, ti_20, ti_28, ti_33, ti_40, ti_50, ti_80, ti_97, ti_99, ti_100, ti_104, ti_126, ti_150, ti_182, ti_200, ti_255, ti_364, ti_1092, ti_9999, tim_1, tim_2, tim_3, tim_4, tim_5, tim_6] at *; omega)])) (fun _ _ => rfl)
set_option maxRecDepth 100000 in
set_option maxHeartbeats 4000000 in
theorem ct_X7_goes (l : Launch) (M : SS)  : CtS l yX7_goes cX7_goes 1 (some FieldType.boolean) (rmD 0) [.ref 0] 7 shM M (some (.int (if M 1 6 = 1 then 1 else 0))) (M) := by
  refine CtF.of (own := RX7) [some (.ref 0)] (by decide +kernel) rfl (fun _ => Nat.le_of_ble_eq_true rfl) (fun _ => rfl) ?_
  refine VS.aload_n dX7_goes_0 rfl ?_
  refine VS.sgetR 6 dX7_goes_1 uw_X7 rfl (by decide) 0 (rfl) rfl (by decide) fl_X7_7 rfl ?_
  refine VS.bipush (6) dX7_goes_4 rfl ?_
  refine VS.siald (6) dX7_goes_6 (by decide) rfl (rfl) (by decide) (by decide) ?_
  refine VS.iconst (1) dX7_goes_7 rfl ?_
  refine VS.icmp_ne 15 dX7_goes_8 (by decide) (fun h_8 => ?_) (fun h_8 => ?_)
  · refine VS.iconst (0) dX7_goes_15 rfl ?_
    exact VS.zret dX7_goes_16 (by first | rfl | exact nb_ite) (by simp_all) (fun _ _ => rfl)
  · refine VS.iconst (1) dX7_goes_11 rfl ?_
    refine VS.goto 16 dX7_goes_12 (by decide) ?_
    exact VS.zret dX7_goes_16 (by first | rfl | exact nb_ite) (by simp_all) (fun _ _ => rfl)
set_option maxRecDepth 100000 in
set_option maxHeartbeats 4000000 in
theorem ct_X7_turn (l : Launch) (M : SS)  : CtS l yX7_turn cX7_turn 1 (some FieldType.int) (rmD 0) [.ref 0] 7 shM M (some (.int (rem3 (M 1 7)))) (M) := by
  refine CtF.of (own := RX7) [some (.ref 0)] (by decide +kernel) rfl (fun _ => Nat.le_of_ble_eq_true rfl) (fun _ => rfl) ?_
  refine VS.aload_n dX7_turn_0 rfl ?_
  refine VS.sgetR 6 dX7_turn_1 uw_X7 rfl (by decide) 0 (rfl) rfl (by decide) fl_X7_7 rfl ?_
  refine VS.bipush (7) dX7_turn_4 rfl ?_
  refine VS.siald (7) dX7_turn_6 (by decide) rfl (rfl) (by decide) (by decide) ?_
  refine VS.iconst (3) dX7_turn_7 rfl ?_
  refine VS.irem dX7_turn_8 (by decide) ?_
  exact VS.iret dX7_turn_9 (rfl) (fun _ _ => rfl)
set_option maxRecDepth 100000 in
set_option maxHeartbeats 4000000 in
theorem ct_X7_ends (l : Launch) (M : SS)  : CtS l yX7_ends cX7_ends 1 none (rmD 0) [.ref 0] 7 shM M (none) (upC M 1 (rEnds (M 1))) := by
  refine CtF.of (own := RX7) [some (.ref 0)] (by decide +kernel) rfl (fun _ => Nat.le_of_ble_eq_true rfl) (fun _ => rfl) ?_
  refine VS.aload_n dX7_ends_0 rfl ?_
  refine VS.sgetR 6 dX7_ends_1 uw_X7 rfl (by decide) 0 (rfl) rfl (by decide) fl_X7_7 rfl ?_
  refine VS.bipush (7) dX7_ends_4 rfl ?_
  refine VS.dup2 dX7_ends_6 rfl rfl ?_
  refine VS.siald (7) dX7_ends_7 (by decide) rfl (rfl) (by decide) (by decide) ?_
  refine VS.iconst (1) dX7_ends_8 rfl ?_
  refine VS.iadd dX7_ends_9 ?_
  refine VS.siast (7) dX7_ends_10 (by decide) rfl (rfl) (by decide) (by decide) ?_
  refine VS.aload_n dX7_ends_11 rfl ?_
  refine VS.sgetR 6 dX7_ends_12 uw_X7 rfl (by decide) 0 (rfl) rfl (by decide) fl_X7_7 rfl ?_
  refine VS.bipush (6) dX7_ends_15 rfl ?_
  refine VS.aload_n dX7_ends_17 rfl ?_
  refine VS.sgetR 6 dX7_ends_18 uw_X7 rfl (by decide) 0 (rfl) rfl (by decide) fl_X7_7 rfl ?_
  refine VS.bipush (7) dX7_ends_21 rfl ?_
  refine VS.siald (7) dX7_ends_23 (by decide) rfl (rfl) (by decide) (by decide) ?_
  refine VS.sipush (150) dX7_ends_24 rfl ?_
  refine VS.icmp_ne 34 dX7_ends_27 (by decide) (fun h_27 => ?_) (fun h_27 => ?_)
  · refine VS.aload_n dX7_ends_34 rfl ?_
    refine VS.sgetR 6 dX7_ends_35 uw_X7 rfl (by decide) 0 (rfl) rfl (by decide) fl_X7_7 rfl ?_
    refine VS.bipush (6) dX7_ends_38 rfl ?_
    refine VS.siald (6) dX7_ends_40 (by decide) rfl (rfl) (by decide) (by decide) ?_
    refine VS.siast (6) dX7_ends_41 (by decide) rfl (rfl) (by decide) (by decide) ?_
    exact VS.vret dX7_ends_42 rfl (fun k _ => congrArg (fun S => shW shM S k) (by simp only [up2, upC_upC, upC_at, upd_at, rEnds]; simp only [upC_at, upd_at] at h_27; first | rw [if_pos h_27] | rw [if_neg h_27]; simp [upd]))
  · refine VS.iconst (2) dX7_ends_30 rfl ?_
    refine VS.goto 41 dX7_ends_31 (by decide) ?_
    refine VS.siast (6) dX7_ends_41 (by decide) rfl (rfl) (by decide) (by decide) ?_
    exact VS.vret dX7_ends_42 rfl (fun k _ => congrArg (fun S => shW shM S k) (by simp only [up2, upC_upC, upC_at, upd_at, rEnds]; simp only [upC_at, upd_at] at h_27; first | rw [if_pos h_27] | rw [if_neg h_27]; simp [upd]))
set_option maxRecDepth 100000 in
set_option maxHeartbeats 4000000 in
theorem ct_X7_claims (l : Launch) (M : SS)  {p : Nat} (hp : p < 3) : CtS l yX7_claims cX7_claims 2 (some FieldType.int) (rmD 1) [.ref 0, .int (nI p)] 7 shM M (some (.int (rClaims (M 1) p))) (M) := by
  refine CtF.of (own := RX7) [some (.ref 0), some (.int (nI p))] (by decide +kernel) rfl (fun _ => Nat.le_of_ble_eq_true rfl) (fun _ => rfl) ?_
  refine VS.aload_n dX7_claims_0 rfl ?_
  refine VS.sgetR 6 dX7_claims_1 uw_X7 rfl (by decide) 0 (rfl) rfl (by decide) fl_X7_7 rfl ?_
  refine VS.bipush (11) dX7_claims_4 rfl ?_
  refine VS.iload_n dX7_claims_6 rfl ?_
  refine VS.iadd dX7_claims_7 ?_
  refine VS.siald (11 + p) dX7_claims_8 (by decide) rfl (ix_add) (by omega) (by decide) ?_
  refine VS.aload_n dX7_claims_9 rfl ?_
  refine VS.sgetR 6 dX7_claims_10 uw_X7 rfl (by decide) 0 (rfl) rfl (by decide) fl_X7_7 rfl ?_
  refine VS.bipush (14) dX7_claims_13 rfl ?_
  refine VS.iload_n dX7_claims_15 rfl ?_
  refine VS.iadd dX7_claims_16 ?_
  refine VS.siald (14 + p) dX7_claims_17 (by decide) rfl (ix_add) (by omega) (by decide) ?_
  refine VS.ior dX7_claims_18 ?_
  refine VS.callN (ct_X7_many l _) dX7_claims_19 mi_X7_many st_X7_many ml_X7_55 (rmOk_D (by decide) (by decide)) (Nat.le_of_ble_eq_true rfl) rfl ?_
  exact VS.iret dX7_claims_22 (rfl) (fun _ _ => rfl)
set_option maxRecDepth 100000 in
set_option maxHeartbeats 4000000 in
theorem ct_X7_gets (l : Launch) (M : SS) (c : Int32) {p : Nat} (hp : p < 3) : CtS l yX7_gets cX7_gets 3 none (rmD 0) [.ref 0, .int (nI p), .int c] 7 shM M (none) (upC M 1 (rGets (M 1) p c)) := by
  refine CtF.of (own := RX7) [some (.ref 0), some (.int (nI p)), some (.int c)] (by decide +kernel) rfl (fun _ => Nat.le_of_ble_eq_true rfl) (fun _ => rfl) ?_
  refine VS.aload_n dX7_gets_0 rfl ?_
  refine VS.sgetR 6 dX7_gets_1 uw_X7 rfl (by decide) 0 (rfl) rfl (by decide) fl_X7_7 rfl ?_
  refine VS.bipush (8) dX7_gets_4 rfl ?_
  refine VS.iload_n dX7_gets_6 rfl ?_
  refine VS.iadd dX7_gets_7 ?_
  refine VS.aload_n dX7_gets_8 rfl ?_
  refine VS.sgetR 6 dX7_gets_9 uw_X7 rfl (by decide) 0 (rfl) rfl (by decide) fl_X7_7 rfl ?_
  refine VS.bipush (8) dX7_gets_12 rfl ?_
  refine VS.iload_n dX7_gets_14 rfl ?_
  refine VS.iadd dX7_gets_15 ?_
  refine VS.siald (8 + p) dX7_gets_16 (by decide) rfl (ix_add) (by omega) (by decide) ?_
  refine VS.iload_n dX7_gets_17 rfl ?_
  refine VS.iadd dX7_gets_18 ?_
  refine VS.sipush (9999) dX7_gets_19 rfl ?_
  refine VS.icmp_le 31 dX7_gets_22 (by decide) (fun h_22 => ?_) (fun h_22 => ?_)
  · refine VS.aload_n dX7_gets_31 rfl ?_
    refine VS.sgetR 6 dX7_gets_32 uw_X7 rfl (by decide) 0 (rfl) rfl (by decide) fl_X7_7 rfl ?_
    refine VS.bipush (8) dX7_gets_35 rfl ?_
    refine VS.iload_n dX7_gets_37 rfl ?_
    refine VS.iadd dX7_gets_38 ?_
    refine VS.siald (8 + p) dX7_gets_39 (by decide) rfl (ix_add) (by omega) (by decide) ?_
    refine VS.iload_n dX7_gets_40 rfl ?_
    refine VS.iadd dX7_gets_41 ?_
    refine VS.siast (8 + p) dX7_gets_42 (by decide) rfl (ix_add) (by omega) (by decide) ?_
    exact VS.vret dX7_gets_43 rfl (fun k _ => congrArg (fun S => shW shM S k) (by simp only [rGets, up2]; first | rw [if_pos (by simp only [Int32.lt_iff_toInt_lt, Int32.le_iff_toInt_le, ti_0, ti_1, ti_2, ti_3, ti_4, ti_5, ti_6, ti_7, ti_8, ti_9, ti_10, ti_14, ti_15, ti_16, ti_20, ti_28, ti_33, ti_40, ti_50, ti_80, ti_97, ti_99, ti_100, ti_104, ti_126, ti_150, ti_182, ti_200, ti_255, ti_364, ti_1092, ti_9999, tim_1, tim_2, tim_3, tim_4, tim_5, tim_6] at *; omega)] | rw [if_neg (by simp only [Int32.lt_iff_toInt_lt, Int32.le_iff_toInt_le, ti_0, ti_1, ti_2, ti_3, ti_4, ti_5, ti_6, ti_7, ti_8, ti_9, ti_10, ti_14, ti_15, ti_16, ti_20, ti_28, ti_33, ti_40, ti_50, ti_80, ti_97, ti_99, ti_100, ti_104, ti_126, ti_150, ti_182, ti_200, ti_255, ti_364, ti_1092, ti_9999, tim_1, tim_2, tim_3, tim_4, tim_5, tim_6] at *; omega)]))
  · refine VS.sipush (9999) dX7_gets_25 rfl ?_
    refine VS.goto 42 dX7_gets_28 (by decide) ?_
    refine VS.siast (8 + p) dX7_gets_42 (by decide) rfl (ix_add) (by omega) (by decide) ?_
    exact VS.vret dX7_gets_43 rfl (fun k _ => congrArg (fun S => shW shM S k) (by simp only [rGets, up2]; first | rw [if_pos (by simp only [Int32.lt_iff_toInt_lt, Int32.le_iff_toInt_le, ti_0, ti_1, ti_2, ti_3, ti_4, ti_5, ti_6, ti_7, ti_8, ti_9, ti_10, ti_14, ti_15, ti_16, ti_20, ti_28, ti_33, ti_40, ti_50, ti_80, ti_97, ti_99, ti_100, ti_104, ti_126, ti_150, ti_182, ti_200, ti_255, ti_364, ti_1092, ti_9999, tim_1, tim_2, tim_3, tim_4, tim_5, tim_6] at *; omega)] | rw [if_neg (by simp only [Int32.lt_iff_toInt_lt, Int32.le_iff_toInt_le, ti_0, ti_1, ti_2, ti_3, ti_4, ti_5, ti_6, ti_7, ti_8, ti_9, ti_10, ti_14, ti_15, ti_16, ti_20, ti_28, ti_33, ti_40, ti_50, ti_80, ti_97, ti_99, ti_100, ti_104, ti_126, ti_150, ti_182, ti_200, ti_255, ti_364, ti_1092, ti_9999, tim_1, tim_2, tim_3, tim_4, tim_5, tim_6] at *; omega)]))
set_option maxRecDepth 100000 in
set_option maxHeartbeats 4000000 in
theorem ct_X7_barRoad (l : Launch) (M : SS) (a : Int32) (b : Int32) : CtS l yX7_barRoad cX7_barRoad 3 (some FieldType.int) (rmD 2) [.ref 0, .int a, .int b] 7 shM M (some (.int (rBarRoad (M 1) a b))) (M) := by
  refine CtF.of (own := RX7) [some (.ref 0), some (.int a), some (.int b)] (by decide +kernel) rfl (fun _ => Nat.le_of_ble_eq_true rfl) (fun _ => rfl) ?_
  refine VS.iload_n dX7_barRoad_0 rfl ?_
  refine VS.callN (ct_X7_isPlace l _) dX7_barRoad_1 mi_X7_isPlace st_X7_isPlace ml_X7_67 (rmOk_D (by decide) (by decide)) (Nat.le_of_ble_eq_true rfl) rfl ?_
  refine VS.if_eq 14 dX7_barRoad_4 (by decide) (fun h_4 => ?_) (fun h_4 => ?_)
  · refine VS.iconst (-1) dX7_barRoad_14 rfl ?_
    refine VS.goto 41 dX7_barRoad_15 (by decide) ?_
    exact VS.iret dX7_barRoad_41 (by unfold rBarRoad; first | (rw [wrE_1 (ite10.mp h_4)] <;> rfl) | (rw [wrE_2 (ite10.mp h_11)] <;> rfl) | (rw [wrE_3 (ite11 h_4) (ite11 h_11) h_20] <;> rfl) | (rw [wrE_4 (ite11 h_4) (ite11 h_11) h_20, if_pos rfl, if_neg (ite10.mp h_32)]) | (rw [wrE_4 (ite11 h_4) (ite11 h_11) h_20, if_pos rfl, if_pos (ite11 h_32)])) (fun _ _ => rfl)
  · refine VS.iload_n dX7_barRoad_7 rfl ?_
    refine VS.callN (ct_X7_isPlace l _) dX7_barRoad_8 mi_X7_isPlace st_X7_isPlace ml_X7_67 (rmOk_D (by decide) (by decide)) (Nat.le_of_ble_eq_true rfl) rfl ?_
    refine VS.if_ne 18 dX7_barRoad_11 (by decide) (fun h_11 => ?_) (fun h_11 => ?_)
    · refine VS.iload_n dX7_barRoad_18 rfl ?_
      refine VS.iload_n dX7_barRoad_19 rfl ?_
      refine VS.icmp_ne 28 dX7_barRoad_20 (by decide) (fun h_20 => ?_) (fun h_20 => ?_)
      · refine VS.aload_n dX7_barRoad_28 rfl ?_
        refine VS.callT (ct_X7_hasBegun l _) dX7_barRoad_29 mi_X7_hasBegun im_X7_hasBegun sel_X7_hasBegun ml_X7_41 (by decide) rfl rfl (rmOk_D (by decide) (by decide)) (Nat.le_of_ble_eq_true rfl) rfl ?_
        refine VS.if_eq 40 dX7_barRoad_32 (by decide) (fun h_32 => ?_) (fun h_32 => ?_)
        · refine VS.iconst (0) dX7_barRoad_40 rfl ?_
          exact VS.iret dX7_barRoad_41 (by unfold rBarRoad; first | (rw [wrE_1 (ite10.mp h_4)] <;> rfl) | (rw [wrE_2 (ite10.mp h_11)] <;> rfl) | (rw [wrE_3 (ite11 h_4) (ite11 h_11) h_20] <;> rfl) | (rw [wrE_4 (ite11 h_4) (ite11 h_11) h_20, if_pos rfl, if_neg (ite10.mp h_32)]) | (rw [wrE_4 (ite11 h_4) (ite11 h_11) h_20, if_pos rfl, if_pos (ite11 h_32)])) (fun _ _ => rfl)
        · refine VS.bipush (-5) dX7_barRoad_35 rfl ?_
          refine VS.goto 41 dX7_barRoad_37 (by decide) ?_
          exact VS.iret dX7_barRoad_41 (by unfold rBarRoad; first | (rw [wrE_1 (ite10.mp h_4)] <;> rfl) | (rw [wrE_2 (ite10.mp h_11)] <;> rfl) | (rw [wrE_3 (ite11 h_4) (ite11 h_11) h_20] <;> rfl) | (rw [wrE_4 (ite11 h_4) (ite11 h_11) h_20, if_pos rfl, if_neg (ite10.mp h_32)]) | (rw [wrE_4 (ite11 h_4) (ite11 h_11) h_20, if_pos rfl, if_pos (ite11 h_32)])) (fun _ _ => rfl)
      · refine VS.bipush (-2) dX7_barRoad_23 rfl ?_
        refine VS.goto 41 dX7_barRoad_25 (by decide) ?_
        exact VS.iret dX7_barRoad_41 (by unfold rBarRoad; first | (rw [wrE_1 (ite10.mp h_4)] <;> rfl) | (rw [wrE_2 (ite10.mp h_11)] <;> rfl) | (rw [wrE_3 (ite11 h_4) (ite11 h_11) h_20] <;> rfl) | (rw [wrE_4 (ite11 h_4) (ite11 h_11) h_20, if_pos rfl, if_neg (ite10.mp h_32)]) | (rw [wrE_4 (ite11 h_4) (ite11 h_11) h_20, if_pos rfl, if_pos (ite11 h_32)])) (fun _ _ => rfl)
    · refine VS.iconst (-1) dX7_barRoad_14 rfl ?_
      refine VS.goto 41 dX7_barRoad_15 (by decide) ?_
      exact VS.iret dX7_barRoad_41 (by unfold rBarRoad; first | (rw [wrE_1 (ite10.mp h_4)] <;> rfl) | (rw [wrE_2 (ite10.mp h_11)] <;> rfl) | (rw [wrE_3 (ite11 h_4) (ite11 h_11) h_20] <;> rfl) | (rw [wrE_4 (ite11 h_4) (ite11 h_11) h_20, if_pos rfl, if_neg (ite10.mp h_32)]) | (rw [wrE_4 (ite11 h_4) (ite11 h_11) h_20, if_pos rfl, if_pos (ite11 h_32)])) (fun _ _ => rfl)
set_option maxRecDepth 100000 in
set_option maxHeartbeats 4000000 in
theorem ct_X7_barTreasure (l : Launch) (M : SS) (a : Int32) : CtS l yX7_barTreasure cX7_barTreasure 2 (some FieldType.int) (rmD 2) [.ref 0, .int a] 7 shM M (some (.int (rBarTreasure (M 1) a))) (M) := by
  refine CtF.of (own := RX7) [some (.ref 0), some (.int a)] (by decide +kernel) rfl (fun _ => Nat.le_of_ble_eq_true rfl) (fun _ => rfl) ?_
  refine VS.iload_n dX7_barTreasure_0 rfl ?_
  refine VS.callN (ct_X7_isPlace l _) dX7_barTreasure_1 mi_X7_isPlace st_X7_isPlace ml_X7_67 (rmOk_D (by decide) (by decide)) (Nat.le_of_ble_eq_true rfl) rfl ?_
  refine VS.if_ne 11 dX7_barTreasure_4 (by decide) (fun h_4 => ?_) (fun h_4 => ?_)
  · refine VS.aload_n dX7_barTreasure_11 rfl ?_
    refine VS.callT (ct_X7_hasBegun l _) dX7_barTreasure_12 mi_X7_hasBegun im_X7_hasBegun sel_X7_hasBegun ml_X7_41 (by decide) rfl rfl (rmOk_D (by decide) (by decide)) (Nat.le_of_ble_eq_true rfl) rfl ?_
    refine VS.if_eq 23 dX7_barTreasure_15 (by decide) (fun h_15 => ?_) (fun h_15 => ?_)
    · refine VS.iconst (0) dX7_barTreasure_23 rfl ?_
      exact VS.iret dX7_barTreasure_24 (by unfold rBarTreasure; first | (rw [if_neg (ite10.mp h_4)]) | (rw [if_pos (ite11 h_4), if_neg (ite10.mp h_15)]) | (rw [if_pos (ite11 h_4), if_pos (ite11 h_15)])) (fun _ _ => rfl)
    · refine VS.bipush (-5) dX7_barTreasure_18 rfl ?_
      refine VS.goto 24 dX7_barTreasure_20 (by decide) ?_
      exact VS.iret dX7_barTreasure_24 (by unfold rBarTreasure; first | (rw [if_neg (ite10.mp h_4)]) | (rw [if_pos (ite11 h_4), if_neg (ite10.mp h_15)]) | (rw [if_pos (ite11 h_4), if_pos (ite11 h_15)])) (fun _ _ => rfl)
  · refine VS.iconst (-1) dX7_barTreasure_7 rfl ?_
    refine VS.goto 24 dX7_barTreasure_8 (by decide) ?_
    exact VS.iret dX7_barTreasure_24 (by unfold rBarTreasure; first | (rw [if_neg (ite10.mp h_4)]) | (rw [if_pos (ite11 h_4), if_neg (ite10.mp h_15)]) | (rw [if_pos (ite11 h_4), if_pos (ite11 h_15)])) (fun _ _ => rfl)
set_option maxRecDepth 100000 in
set_option maxHeartbeats 4000000 in
theorem ct_X7_barClaim (l : Launch) (M : SS) (a : Int32) (b : Int32) (is : Int32) : CtS l yX7_barClaim cX7_barClaim 4 (some FieldType.int) (rmD 2) [.ref 0, .int a, .int b, .int is] 7 shM M (some (.int (rBarClaim (M 1) a b is))) (M) := by
  refine CtF.of (own := RX7) [some (.ref 0), some (.int a), some (.int b), some (.int is)] (by decide +kernel) rfl (fun _ => Nat.le_of_ble_eq_true rfl) (fun _ => rfl) ?_
  refine VS.iload_n dX7_barClaim_0 rfl ?_
  refine VS.callN (ct_X7_isPlace l _) dX7_barClaim_1 mi_X7_isPlace st_X7_isPlace ml_X7_67 (rmOk_D (by decide) (by decide)) (Nat.le_of_ble_eq_true rfl) rfl ?_
  refine VS.if_eq 14 dX7_barClaim_4 (by decide) (fun h_4 => ?_) (fun h_4 => ?_)
  · refine VS.iconst (-1) dX7_barClaim_14 rfl ?_
    refine VS.goto 50 dX7_barClaim_15 (by decide) ?_
    exact VS.iret dX7_barClaim_50 (by unfold rBarClaim; first | (rw [wrE_1 (ite10.mp h_4)] <;> rfl) | (rw [wrE_2 (ite10.mp h_11)] <;> rfl) | (rw [wrE_3 (ite11 h_4) (ite11 h_11) h_20] <;> rfl) | (rw [wrE_4 (ite11 h_4) (ite11 h_11) h_20, if_pos rfl, if_neg (ite10.mp h_29)]) | (rw [wrE_4 (ite11 h_4) (ite11 h_11) h_20, if_pos rfl, if_pos (ite11 h_29), if_neg (ite10.mp h_41)]) | (rw [wrE_4 (ite11 h_4) (ite11 h_11) h_20, if_pos rfl, if_pos (ite11 h_29), if_pos (ite11 h_41)])) (fun _ _ => rfl)
  · refine VS.iload_n dX7_barClaim_7 rfl ?_
    refine VS.callN (ct_X7_isPlace l _) dX7_barClaim_8 mi_X7_isPlace st_X7_isPlace ml_X7_67 (rmOk_D (by decide) (by decide)) (Nat.le_of_ble_eq_true rfl) rfl ?_
    refine VS.if_ne 18 dX7_barClaim_11 (by decide) (fun h_11 => ?_) (fun h_11 => ?_)
    · refine VS.iload_n dX7_barClaim_18 rfl ?_
      refine VS.iload_n dX7_barClaim_19 rfl ?_
      refine VS.icmp_eq 32 dX7_barClaim_20 (by decide) (fun h_20 => ?_) (fun h_20 => ?_)
      · refine VS.bipush (-2) dX7_barClaim_32 rfl ?_
        refine VS.goto 50 dX7_barClaim_34 (by decide) ?_
        exact VS.iret dX7_barClaim_50 (by unfold rBarClaim; first | (rw [wrE_1 (ite10.mp h_4)] <;> rfl) | (rw [wrE_2 (ite10.mp h_11)] <;> rfl) | (rw [wrE_3 (ite11 h_4) (ite11 h_11) h_20] <;> rfl) | (rw [wrE_4 (ite11 h_4) (ite11 h_11) h_20, if_pos rfl, if_neg (ite10.mp h_29)]) | (rw [wrE_4 (ite11 h_4) (ite11 h_11) h_20, if_pos rfl, if_pos (ite11 h_29), if_neg (ite10.mp h_41)]) | (rw [wrE_4 (ite11 h_4) (ite11 h_11) h_20, if_pos rfl, if_pos (ite11 h_29), if_pos (ite11 h_41)])) (fun _ _ => rfl)
      · refine VS.iload_n dX7_barClaim_23 rfl ?_
        refine VS.iconst (0) dX7_barClaim_24 rfl ?_
        refine VS.iconst (1) dX7_barClaim_25 rfl ?_
        refine VS.callN (ct_X7_in l _ _ _) dX7_barClaim_26 mi_X7_in st_X7_in ml_X7_29 (rmOk_D (by decide) (by decide)) (Nat.le_of_ble_eq_true rfl) rfl ?_
        refine VS.if_ne 37 dX7_barClaim_29 (by decide) (fun h_29 => ?_) (fun h_29 => ?_)
        · refine VS.aload_n dX7_barClaim_37 rfl ?_
          refine VS.callT (ct_X7_goes l _) dX7_barClaim_38 mi_X7_goes im_X7_goes sel_X7_goes ml_X7_84 (by decide) rfl rfl (rmOk_D (by decide) (by decide)) (Nat.le_of_ble_eq_true rfl) rfl ?_
          refine VS.if_eq 48 dX7_barClaim_41 (by decide) (fun h_41 => ?_) (fun h_41 => ?_)
          · refine VS.bipush (-5) dX7_barClaim_48 rfl ?_
            exact VS.iret dX7_barClaim_50 (by unfold rBarClaim; first | (rw [wrE_1 (ite10.mp h_4)] <;> rfl) | (rw [wrE_2 (ite10.mp h_11)] <;> rfl) | (rw [wrE_3 (ite11 h_4) (ite11 h_11) h_20] <;> rfl) | (rw [wrE_4 (ite11 h_4) (ite11 h_11) h_20, if_pos rfl, if_neg (ite10.mp h_29)]) | (rw [wrE_4 (ite11 h_4) (ite11 h_11) h_20, if_pos rfl, if_pos (ite11 h_29), if_neg (ite10.mp h_41)]) | (rw [wrE_4 (ite11 h_4) (ite11 h_11) h_20, if_pos rfl, if_pos (ite11 h_29), if_pos (ite11 h_41)])) (fun _ _ => rfl)
          · refine VS.iconst (0) dX7_barClaim_44 rfl ?_
            refine VS.goto 50 dX7_barClaim_45 (by decide) ?_
            exact VS.iret dX7_barClaim_50 (by unfold rBarClaim; first | (rw [wrE_1 (ite10.mp h_4)] <;> rfl) | (rw [wrE_2 (ite10.mp h_11)] <;> rfl) | (rw [wrE_3 (ite11 h_4) (ite11 h_11) h_20] <;> rfl) | (rw [wrE_4 (ite11 h_4) (ite11 h_11) h_20, if_pos rfl, if_neg (ite10.mp h_29)]) | (rw [wrE_4 (ite11 h_4) (ite11 h_11) h_20, if_pos rfl, if_pos (ite11 h_29), if_neg (ite10.mp h_41)]) | (rw [wrE_4 (ite11 h_4) (ite11 h_11) h_20, if_pos rfl, if_pos (ite11 h_29), if_pos (ite11 h_41)])) (fun _ _ => rfl)
        · refine VS.bipush (-2) dX7_barClaim_32 rfl ?_
          refine VS.goto 50 dX7_barClaim_34 (by decide) ?_
          exact VS.iret dX7_barClaim_50 (by unfold rBarClaim; first | (rw [wrE_1 (ite10.mp h_4)] <;> rfl) | (rw [wrE_2 (ite10.mp h_11)] <;> rfl) | (rw [wrE_3 (ite11 h_4) (ite11 h_11) h_20] <;> rfl) | (rw [wrE_4 (ite11 h_4) (ite11 h_11) h_20, if_pos rfl, if_neg (ite10.mp h_29)]) | (rw [wrE_4 (ite11 h_4) (ite11 h_11) h_20, if_pos rfl, if_pos (ite11 h_29), if_neg (ite10.mp h_41)]) | (rw [wrE_4 (ite11 h_4) (ite11 h_11) h_20, if_pos rfl, if_pos (ite11 h_29), if_pos (ite11 h_41)])) (fun _ _ => rfl)
    · refine VS.iconst (-1) dX7_barClaim_14 rfl ?_
      refine VS.goto 50 dX7_barClaim_15 (by decide) ?_
      exact VS.iret dX7_barClaim_50 (by unfold rBarClaim; first | (rw [wrE_1 (ite10.mp h_4)] <;> rfl) | (rw [wrE_2 (ite10.mp h_11)] <;> rfl) | (rw [wrE_3 (ite11 h_4) (ite11 h_11) h_20] <;> rfl) | (rw [wrE_4 (ite11 h_4) (ite11 h_11) h_20, if_pos rfl, if_neg (ite10.mp h_29)]) | (rw [wrE_4 (ite11 h_4) (ite11 h_11) h_20, if_pos rfl, if_pos (ite11 h_29), if_neg (ite10.mp h_41)]) | (rw [wrE_4 (ite11 h_4) (ite11 h_11) h_20, if_pos rfl, if_pos (ite11 h_29), if_pos (ite11 h_41)])) (fun _ _ => rfl)
def rBarCheck (s : Nat → Int32) (q a b : Int32) : Int32 := if 0 ≤ q ∧ q < 3 then (if 0 ≤ a ∧ a < 8 then (if 0 ≤ b ∧ b < 8 then (if q = rem3 (s 7) then -2 else if a = b then -2 else if s 6 = 1 then (if (s (11 + q.toNatClampNeg) ||| s (14 + q.toNatClampNeg)) &&& bitE a b = 0 then -5 else if s 17 &&& bitE a b = 0 then 0 else -5) else -5) else -1) else -1) else -1
def rBarDig (s : Nat → Int32) (t : Nat) (a : Int32) : Int32 := if 0 ≤ a ∧ a < 8 then (if s 6 = 1 then (if s (8 + t) < s 4 then -5 else 0) else -5) else -1
theorem pln {q : Int32} (h : 0 ≤ q ∧ q < 3) : ∃ p : Nat, p < 3 ∧ q = nI p := by
  obtain ⟨j, hj, e⟩ := vp_in_of (n := 3) (vp_in_iff.mpr (by simp only [Int32.lt_iff_toInt_lt, Int32.le_iff_toInt_le, ti_0, ti_1, ti_2, ti_3, ti_4, ti_5, ti_6, ti_7, ti_8, ti_9, ti_10, ti_14, ti_15, ti_16, ti_20, ti_28, ti_33, ti_40, ti_50, ti_80, ti_97, ti_99, ti_100, ti_104, ti_126, ti_150, ti_182, ti_200, ti_255, ti_364, ti_1092, ti_9999, tim_1, tim_2, tim_3, tim_4, tim_5, tim_6] at *; omega)) (by decide)
  exact ⟨j, hj, e⟩
theorem plc {q : Int32} (h : 0 ≤ q ∧ q < 8) : ∃ p : Nat, p < 8 ∧ q = nI p := by
  obtain ⟨j, hj, e⟩ := vp_in_of (n := 8) (vp_in_iff.mpr (by simp only [Int32.lt_iff_toInt_lt, Int32.le_iff_toInt_le, ti_0, ti_1, ti_2, ti_3, ti_4, ti_5, ti_6, ti_7, ti_8, ti_9, ti_10, ti_14, ti_15, ti_16, ti_20, ti_28, ti_33, ti_40, ti_50, ti_80, ti_97, ti_99, ti_100, ti_104, ti_126, ti_150, ti_182, ti_200, ti_255, ti_364, ti_1092, ti_9999, tim_1, tim_2, tim_3, tim_4, tim_5, tim_6] at *; omega)) (by decide)
  exact ⟨j, hj, e⟩
set_option maxRecDepth 100000 in
set_option maxHeartbeats 4000000 in
theorem ct_X7_barCheck (l : Launch) (M : SS) (q : Int32) (a : Int32) (b : Int32) : CtS l yX7_barCheck cX7_barCheck 5 (some FieldType.int) (rmD 2) [.ref 0, .int q, .int a, .int b] 7 shM M (some (.int (rBarCheck (M 1) q a b))) (M) := by
  refine CtF.of (own := RX7) [some (.ref 0), some (.int q), some (.int a), some (.int b), none] (by decide +kernel) rfl (fun _ => Nat.le_of_ble_eq_true rfl) (fun _ => rfl) ?_
  refine VS.iload_n dX7_barCheck_0 rfl ?_
  refine VS.callN (ct_X7_isPlayer l _) dX7_barCheck_1 mi_X7_isPlayer st_X7_isPlayer ml_X7_104 (rmOk_D (by decide) (by decide)) (Nat.le_of_ble_eq_true rfl) rfl ?_
  refine VS.if_eq 21 dX7_barCheck_4 (by decide) (fun h_4 => ?_) (fun h_4 => ?_)
  · refine VS.iconst (-1) dX7_barCheck_21 rfl ?_
    exact VS.iret dX7_barCheck_22 (by unfold rBarCheck; first | (rw [if_neg (ite10.mp h_4)]) | (rw [if_pos (ite11 h_4), if_neg (ite10.mp h_11)]) | (rw [if_pos (ite11 h_4), if_pos (ite11 h_11), if_neg (ite10.mp h_18)])) (fun _ _ => rfl)
  · refine VS.iload_n dX7_barCheck_7 rfl ?_
    refine VS.callN (ct_X7_isPlace l _) dX7_barCheck_8 mi_X7_isPlace st_X7_isPlace ml_X7_67 (rmOk_D (by decide) (by decide)) (Nat.le_of_ble_eq_true rfl) rfl ?_
    refine VS.if_eq 21 dX7_barCheck_11 (by decide) (fun h_11 => ?_) (fun h_11 => ?_)
    · refine VS.iconst (-1) dX7_barCheck_21 rfl ?_
      exact VS.iret dX7_barCheck_22 (by unfold rBarCheck; first | (rw [if_neg (ite10.mp h_4)]) | (rw [if_pos (ite11 h_4), if_neg (ite10.mp h_11)]) | (rw [if_pos (ite11 h_4), if_pos (ite11 h_11), if_neg (ite10.mp h_18)])) (fun _ _ => rfl)
    · refine VS.iload_n dX7_barCheck_14 rfl ?_
      refine VS.callN (ct_X7_isPlace l _) dX7_barCheck_15 mi_X7_isPlace st_X7_isPlace ml_X7_67 (rmOk_D (by decide) (by decide)) (Nat.le_of_ble_eq_true rfl) rfl ?_
      refine VS.if_ne 23 dX7_barCheck_18 (by decide) (fun h_18 => ?_) (fun h_18 => ?_)
      · refine VS.iload_n dX7_barCheck_23 rfl ?_
        refine VS.aload_n dX7_barCheck_24 rfl ?_
        refine VS.callT (ct_X7_turn l _) dX7_barCheck_25 mi_X7_turn im_X7_turn sel_X7_turn ml_X7_87 (by decide) rfl rfl (rmOk_D (by decide) (by decide)) (Nat.le_of_ble_eq_true rfl) rfl ?_
        refine VS.icmp_eq 36 dX7_barCheck_28 (by decide) (fun h_28 => ?_) (fun h_28 => ?_)
        · refine VS.bipush (-2) dX7_barCheck_36 rfl ?_
          exact VS.iret dX7_barCheck_38 (by unfold rBarCheck; first | (rw [if_pos (ite11 h_4), if_pos (ite11 h_11), if_pos (ite11 h_18), if_pos h_28]) | (rw [if_pos (ite11 h_4), if_pos (ite11 h_11), if_pos (ite11 h_18), if_neg h_28, if_pos h_33])) (fun _ _ => rfl)
        · refine VS.iload_n dX7_barCheck_31 rfl ?_
          refine VS.iload_n dX7_barCheck_32 rfl ?_
          refine VS.icmp_ne 39 dX7_barCheck_33 (by decide) (fun h_33 => ?_) (fun h_33 => ?_)
          · obtain ⟨p, hp, rfl⟩ := pln (ite11 h_4)
            refine VS.iconst (1) dX7_barCheck_39 rfl ?_
            refine VS.iload_n dX7_barCheck_40 rfl ?_
            refine VS.iload_n dX7_barCheck_41 rfl ?_
            refine VS.callN (ct_X7_edge l _ _) dX7_barCheck_42 mi_X7_edge st_X7_edge ml_X7_37 (rmOk_D (by decide) (by decide)) (Nat.le_of_ble_eq_true rfl) rfl ?_
            refine VS.ishl dX7_barCheck_45 ?_
            refine VS.val (y := bitE a b) rfl ?_
            refine VS.istore dX7_barCheck_46 (by decide) rfl ?_
            refine VS.aload_n dX7_barCheck_48 rfl ?_
            refine VS.callT (ct_X7_goes l _) dX7_barCheck_49 mi_X7_goes im_X7_goes sel_X7_goes ml_X7_84 (by decide) rfl rfl (rmOk_D (by decide) (by decide)) (Nat.le_of_ble_eq_true rfl) rfl ?_
            refine VS.if_eq 93 dX7_barCheck_52 (by decide) (fun h_52 => ?_) (fun h_52 => ?_)
            · refine VS.bipush (-5) dX7_barCheck_93 rfl ?_
              refine VS.goto 99 dX7_barCheck_95 (by decide) ?_
              exact VS.iret dX7_barCheck_99 (by unfold rBarCheck; rw [nI_clamp (by omega)]; first | (rw [if_pos (ite11 h_4), if_pos (ite11 h_11), if_pos (ite11 h_18), if_neg h_28, if_neg h_33, if_neg (ite10.mp h_52)]) | (rw [if_pos (ite11 h_4), if_pos (ite11 h_11), if_pos (ite11 h_18), if_neg h_28, if_neg h_33, if_pos (ite11 h_52), if_pos h_77]) | (rw [if_pos (ite11 h_4), if_pos (ite11 h_11), if_pos (ite11 h_18), if_neg h_28, if_neg h_33, if_pos (ite11 h_52), if_neg h_77, if_pos h_90]) | (rw [if_pos (ite11 h_4), if_pos (ite11 h_11), if_pos (ite11 h_18), if_neg h_28, if_neg h_33, if_pos (ite11 h_52), if_neg h_77, if_neg h_90])) (fun _ _ => rfl)
            · refine VS.aload_n dX7_barCheck_55 rfl ?_
              refine VS.sgetR 6 dX7_barCheck_56 uw_X7 rfl (by decide) 0 (rfl) rfl (by decide) fl_X7_7 rfl ?_
              refine VS.bipush (11) dX7_barCheck_59 rfl ?_
              refine VS.iload_n dX7_barCheck_61 rfl ?_
              refine VS.iadd dX7_barCheck_62 ?_
              refine VS.siald (11 + p) dX7_barCheck_63 (by decide) rfl (ix_add) (by omega) (by decide) ?_
              refine VS.aload_n dX7_barCheck_64 rfl ?_
              refine VS.sgetR 6 dX7_barCheck_65 uw_X7 rfl (by decide) 0 (rfl) rfl (by decide) fl_X7_7 rfl ?_
              refine VS.bipush (14) dX7_barCheck_68 rfl ?_
              refine VS.iload_n dX7_barCheck_70 rfl ?_
              refine VS.iadd dX7_barCheck_71 ?_
              refine VS.siald (14 + p) dX7_barCheck_72 (by decide) rfl (ix_add) (by omega) (by decide) ?_
              refine VS.ior dX7_barCheck_73 ?_
              refine VS.iload dX7_barCheck_74 rfl ?_
              refine VS.iand dX7_barCheck_76 ?_
              refine VS.if_eq 93 dX7_barCheck_77 (by decide) (fun h_77 => ?_) (fun h_77 => ?_)
              · refine VS.bipush (-5) dX7_barCheck_93 rfl ?_
                refine VS.goto 99 dX7_barCheck_95 (by decide) ?_
                exact VS.iret dX7_barCheck_99 (by unfold rBarCheck; rw [nI_clamp (by omega)]; first | (rw [if_pos (ite11 h_4), if_pos (ite11 h_11), if_pos (ite11 h_18), if_neg h_28, if_neg h_33, if_neg (ite10.mp h_52)]) | (rw [if_pos (ite11 h_4), if_pos (ite11 h_11), if_pos (ite11 h_18), if_neg h_28, if_neg h_33, if_pos (ite11 h_52), if_pos h_77]) | (rw [if_pos (ite11 h_4), if_pos (ite11 h_11), if_pos (ite11 h_18), if_neg h_28, if_neg h_33, if_pos (ite11 h_52), if_neg h_77, if_pos h_90]) | (rw [if_pos (ite11 h_4), if_pos (ite11 h_11), if_pos (ite11 h_18), if_neg h_28, if_neg h_33, if_pos (ite11 h_52), if_neg h_77, if_neg h_90])) (fun _ _ => rfl)
              · refine VS.aload_n dX7_barCheck_80 rfl ?_
                refine VS.sgetR 6 dX7_barCheck_81 uw_X7 rfl (by decide) 0 (rfl) rfl (by decide) fl_X7_7 rfl ?_
                refine VS.bipush (17) dX7_barCheck_84 rfl ?_
                refine VS.siald (17) dX7_barCheck_86 (by decide) rfl (rfl) (by decide) (by decide) ?_
                refine VS.iload dX7_barCheck_87 rfl ?_
                refine VS.iand dX7_barCheck_89 ?_
                refine VS.if_eq 98 dX7_barCheck_90 (by decide) (fun h_90 => ?_) (fun h_90 => ?_)
                · refine VS.iconst (0) dX7_barCheck_98 rfl ?_
                  exact VS.iret dX7_barCheck_99 (by unfold rBarCheck; rw [nI_clamp (by omega)]; first | (rw [if_pos (ite11 h_4), if_pos (ite11 h_11), if_pos (ite11 h_18), if_neg h_28, if_neg h_33, if_neg (ite10.mp h_52)]) | (rw [if_pos (ite11 h_4), if_pos (ite11 h_11), if_pos (ite11 h_18), if_neg h_28, if_neg h_33, if_pos (ite11 h_52), if_pos h_77]) | (rw [if_pos (ite11 h_4), if_pos (ite11 h_11), if_pos (ite11 h_18), if_neg h_28, if_neg h_33, if_pos (ite11 h_52), if_neg h_77, if_pos h_90]) | (rw [if_pos (ite11 h_4), if_pos (ite11 h_11), if_pos (ite11 h_18), if_neg h_28, if_neg h_33, if_pos (ite11 h_52), if_neg h_77, if_neg h_90])) (fun _ _ => rfl)
                · refine VS.bipush (-5) dX7_barCheck_93 rfl ?_
                  refine VS.goto 99 dX7_barCheck_95 (by decide) ?_
                  exact VS.iret dX7_barCheck_99 (by unfold rBarCheck; rw [nI_clamp (by omega)]; first | (rw [if_pos (ite11 h_4), if_pos (ite11 h_11), if_pos (ite11 h_18), if_neg h_28, if_neg h_33, if_neg (ite10.mp h_52)]) | (rw [if_pos (ite11 h_4), if_pos (ite11 h_11), if_pos (ite11 h_18), if_neg h_28, if_neg h_33, if_pos (ite11 h_52), if_pos h_77]) | (rw [if_pos (ite11 h_4), if_pos (ite11 h_11), if_pos (ite11 h_18), if_neg h_28, if_neg h_33, if_pos (ite11 h_52), if_neg h_77, if_pos h_90]) | (rw [if_pos (ite11 h_4), if_pos (ite11 h_11), if_pos (ite11 h_18), if_neg h_28, if_neg h_33, if_pos (ite11 h_52), if_neg h_77, if_neg h_90])) (fun _ _ => rfl)
          · refine VS.bipush (-2) dX7_barCheck_36 rfl ?_
            exact VS.iret dX7_barCheck_38 (by unfold rBarCheck; first | (rw [if_pos (ite11 h_4), if_pos (ite11 h_11), if_pos (ite11 h_18), if_pos h_28]) | (rw [if_pos (ite11 h_4), if_pos (ite11 h_11), if_pos (ite11 h_18), if_neg h_28, if_pos h_33])) (fun _ _ => rfl)
      · refine VS.iconst (-1) dX7_barCheck_21 rfl ?_
        exact VS.iret dX7_barCheck_22 (by unfold rBarCheck; first | (rw [if_neg (ite10.mp h_4)]) | (rw [if_pos (ite11 h_4), if_neg (ite10.mp h_11)]) | (rw [if_pos (ite11 h_4), if_pos (ite11 h_11), if_neg (ite10.mp h_18)])) (fun _ _ => rfl)
set_option maxRecDepth 100000 in
set_option maxHeartbeats 4000000 in
theorem ct_X7_barDig (l : Launch) (M : SS) (a : Int32) {t : Nat} (ht : rem3 (M 1 7) = nI t) (h3 : t < 3) : CtS l yX7_barDig cX7_barDig 2 (some FieldType.int) (rmD 2) [.ref 0, .int a] 7 shM M (some (.int (rBarDig (M 1) t a))) (M) := by
  refine CtF.of (own := RX7) [some (.ref 0), some (.int a)] (by decide +kernel) rfl (fun _ => Nat.le_of_ble_eq_true rfl) (fun _ => rfl) ?_
  refine VS.iload_n dX7_barDig_0 rfl ?_
  refine VS.callN (ct_X7_isPlace l _) dX7_barDig_1 mi_X7_isPlace st_X7_isPlace ml_X7_67 (rmOk_D (by decide) (by decide)) (Nat.le_of_ble_eq_true rfl) rfl ?_
  refine VS.if_ne 11 dX7_barDig_4 (by decide) (fun h_4 => ?_) (fun h_4 => ?_)
  · refine VS.aload_n dX7_barDig_11 rfl ?_
    refine VS.callT (ct_X7_goes l _) dX7_barDig_12 mi_X7_goes im_X7_goes sel_X7_goes ml_X7_84 (by decide) rfl rfl (rmOk_D (by decide) (by decide)) (Nat.le_of_ble_eq_true rfl) rfl ?_
    refine VS.if_eq 39 dX7_barDig_15 (by decide) (fun h_15 => ?_) (fun h_15 => ?_)
    · refine VS.bipush (-5) dX7_barDig_39 rfl ?_
      refine VS.goto 45 dX7_barDig_41 (by decide) ?_
      exact VS.iret dX7_barDig_45 (by unfold rBarDig; first | (rw [if_neg (ite10.mp h_4)]) | (rw [if_pos (ite11 h_4), if_neg (ite10.mp h_15)]) | (rw [if_pos (ite11 h_4), if_pos (ite11 h_15), if_neg (Int32.not_lt.mpr h_36)]) | (rw [if_pos (ite11 h_4), if_pos (ite11 h_15), if_pos (Int32.not_le.mp h_36)])) (fun _ _ => rfl)
    · refine VS.aload_n dX7_barDig_18 rfl ?_
      refine VS.sgetR 6 dX7_barDig_19 uw_X7 rfl (by decide) 0 (rfl) rfl (by decide) fl_X7_7 rfl ?_
      refine VS.bipush (8) dX7_barDig_22 rfl ?_
      refine VS.aload_n dX7_barDig_24 rfl ?_
      refine VS.callT (ct_X7_turn l _) dX7_barDig_25 mi_X7_turn im_X7_turn sel_X7_turn ml_X7_87 (by decide) rfl rfl (rmOk_D (by decide) (by decide)) (Nat.le_of_ble_eq_true rfl) rfl ?_
      refine VS.val (y := nI t) ht ?_
      refine VS.iadd dX7_barDig_28 ?_
      refine VS.siald (8 + t) dX7_barDig_29 (by decide) rfl (ix_add) (by omega) (by decide) ?_
      refine VS.aload_n dX7_barDig_30 rfl ?_
      refine VS.sgetR 6 dX7_barDig_31 uw_X7 rfl (by decide) 0 (rfl) rfl (by decide) fl_X7_7 rfl ?_
      refine VS.iconst (4) dX7_barDig_34 rfl ?_
      refine VS.siald (4) dX7_barDig_35 (by decide) rfl (rfl) (by decide) (by decide) ?_
      refine VS.icmp_ge 44 dX7_barDig_36 (by decide) (fun h_36 => ?_) (fun h_36 => ?_)
      · refine VS.iconst (0) dX7_barDig_44 rfl ?_
        exact VS.iret dX7_barDig_45 (by unfold rBarDig; first | (rw [if_neg (ite10.mp h_4)]) | (rw [if_pos (ite11 h_4), if_neg (ite10.mp h_15)]) | (rw [if_pos (ite11 h_4), if_pos (ite11 h_15), if_neg (Int32.not_lt.mpr h_36)]) | (rw [if_pos (ite11 h_4), if_pos (ite11 h_15), if_pos (Int32.not_le.mp h_36)])) (fun _ _ => rfl)
      · refine VS.bipush (-5) dX7_barDig_39 rfl ?_
        refine VS.goto 45 dX7_barDig_41 (by decide) ?_
        exact VS.iret dX7_barDig_45 (by unfold rBarDig; first | (rw [if_neg (ite10.mp h_4)]) | (rw [if_pos (ite11 h_4), if_neg (ite10.mp h_15)]) | (rw [if_pos (ite11 h_4), if_pos (ite11 h_15), if_neg (Int32.not_lt.mpr h_36)]) | (rw [if_pos (ite11 h_4), if_pos (ite11 h_15), if_pos (Int32.not_le.mp h_36)])) (fun _ _ => rfl)
  · refine VS.iconst (-1) dX7_barDig_7 rfl ?_
    refine VS.goto 45 dX7_barDig_8 (by decide) ?_
    exact VS.iret dX7_barDig_45 (by unfold rBarDig; first | (rw [if_neg (ite10.mp h_4)]) | (rw [if_pos (ite11 h_4), if_neg (ite10.mp h_15)]) | (rw [if_pos (ite11 h_4), if_pos (ite11 h_15), if_neg (Int32.not_lt.mpr h_36)]) | (rw [if_pos (ite11 h_4), if_pos (ite11 h_15), if_pos (Int32.not_le.mp h_36)])) (fun _ _ => rfl)
set_option maxRecDepth 100000 in
set_option maxHeartbeats 4000000 in
theorem ct_X7_lays (l : Launch) (M : SS) (a : Int32) (b : Int32) : CtS l yX7_lays cX7_lays 3 (some FieldType.int) (rmD 1) [.ref 0, .int a, .int b] 7 shM M (some (.int (pcI (M 1 0 ^^^ bitE a b)))) (upC M 1 (rLays (M 1) a b)) := by
  refine CtF.of (own := RX7) [some (.ref 0), some (.int a), some (.int b)] (by decide +kernel) rfl (fun _ => Nat.le_of_ble_eq_true rfl) (fun _ => rfl) ?_
  refine VS.aload_n dX7_lays_0 rfl ?_
  refine VS.sgetR 6 dX7_lays_1 uw_X7 rfl (by decide) 0 (rfl) rfl (by decide) fl_X7_7 rfl ?_
  refine VS.iconst (0) dX7_lays_4 rfl ?_
  refine VS.dup2 dX7_lays_5 rfl rfl ?_
  refine VS.siald (0) dX7_lays_6 (by decide) rfl (rfl) (by decide) (by decide) ?_
  refine VS.iconst (1) dX7_lays_7 rfl ?_
  refine VS.iload_n dX7_lays_8 rfl ?_
  refine VS.iload_n dX7_lays_9 rfl ?_
  refine VS.callN (ct_X7_edge l _ _) dX7_lays_10 mi_X7_edge st_X7_edge ml_X7_37 (rmOk_D (by decide) (by decide)) (Nat.le_of_ble_eq_true rfl) rfl ?_
  refine VS.ishl dX7_lays_13 ?_
  refine VS.ixor dX7_lays_14 ?_
  refine VS.siast (0) dX7_lays_15 (by decide) rfl (rfl) (by decide) (by decide) ?_
  refine VS.aload_n dX7_lays_16 rfl ?_
  refine VS.sgetR 6 dX7_lays_17 uw_X7 rfl (by decide) 0 (rfl) rfl (by decide) fl_X7_7 rfl ?_
  refine VS.iconst (0) dX7_lays_20 rfl ?_
  refine VS.siald (0) dX7_lays_21 (by decide) rfl (rfl) (by decide) (by decide) ?_
  refine VS.callN (ct_X7_many l _) dX7_lays_22 mi_X7_many st_X7_many ml_X7_55 (rmOk_D (by decide) (by decide)) (Nat.le_of_ble_eq_true rfl) rfl ?_
  exact VS.iret dX7_lays_25 (rfl) (fun _ _ => rfl)
set_option maxRecDepth 100000 in
set_option maxHeartbeats 4000000 in
theorem ct_X7_pays (l : Launch) (M : SS) (c : Int32) {f t : Nat} (hf : f < 3) (h3 : t < 3) : CtS l yX7_pays cX7_pays 5 none (rmD 1) [.ref 0, .int (nI f), .int (nI t), .int c] 7 shM M (none) (upC M 1 (rPays (M 1) f t c)) := by
  refine CtF.of (own := RX7) [some (.ref 0), some (.int (nI f)), some (.int (nI t)), some (.int c), none] (by decide +kernel) rfl (fun _ => Nat.le_of_ble_eq_true rfl) (fun _ => rfl) ?_
  refine VS.aload_n dX7_pays_0 rfl ?_
  refine VS.sgetR 6 dX7_pays_1 uw_X7 rfl (by decide) 0 (rfl) rfl (by decide) fl_X7_7 rfl ?_
  refine VS.bipush (8) dX7_pays_4 rfl ?_
  refine VS.iload_n dX7_pays_6 rfl ?_
  refine VS.iadd dX7_pays_7 ?_
  refine VS.siald (8 + f) dX7_pays_8 (by decide) rfl (ix_add) (by omega) (by decide) ?_
  refine VS.iload_n dX7_pays_9 rfl ?_
  refine VS.icmp_ge 25 dX7_pays_10 (by decide) (fun h_10 => ?_) (fun h_10 => ?_)
  · refine VS.iload_n dX7_pays_25 rfl ?_
    refine VS.val (y := rPaid (M 1) f c) (by first | exact (if_neg (Int32.not_lt.mpr h_10)).symm | exact (if_pos (Int32.not_le.mp h_10)).symm) ?_
    refine VS.istore dX7_pays_26 (by decide) rfl ?_
    refine VS.aload_n dX7_pays_28 rfl ?_
    refine VS.sgetR 6 dX7_pays_29 uw_X7 rfl (by decide) 0 (rfl) rfl (by decide) fl_X7_7 rfl ?_
    refine VS.bipush (8) dX7_pays_32 rfl ?_
    refine VS.iload_n dX7_pays_34 rfl ?_
    refine VS.iadd dX7_pays_35 ?_
    refine VS.dup2 dX7_pays_36 rfl rfl ?_
    refine VS.siald (8 + f) dX7_pays_37 (by decide) rfl (ix_add) (by omega) (by decide) ?_
    refine VS.iload dX7_pays_38 rfl ?_
    refine VS.isub dX7_pays_40 ?_
    refine VS.siast (8 + f) dX7_pays_41 (by decide) rfl (ix_add) (by omega) (by decide) ?_
    refine VS.aload_n dX7_pays_42 rfl ?_
    refine VS.iload_n dX7_pays_43 rfl ?_
    refine VS.iload dX7_pays_44 rfl ?_
    refine VS.callT (ct_X7_gets l _ _ h3) dX7_pays_46 mi_X7_gets im_X7_gets sel_X7_gets ml_X7_107 (by decide) rfl rfl (rmOk_D (by decide) (by decide)) (Nat.le_of_ble_eq_true rfl) rfl ?_
    exact VS.vret dX7_pays_49 rfl (fun k _ => congrArg (fun S => shW shM S k) (by simp only [up2, upC_upC, upC_at, rPays]))
  · refine VS.aload_n dX7_pays_13 rfl ?_
    refine VS.sgetR 6 dX7_pays_14 uw_X7 rfl (by decide) 0 (rfl) rfl (by decide) fl_X7_7 rfl ?_
    refine VS.bipush (8) dX7_pays_17 rfl ?_
    refine VS.iload_n dX7_pays_19 rfl ?_
    refine VS.iadd dX7_pays_20 ?_
    refine VS.siald (8 + f) dX7_pays_21 (by decide) rfl (ix_add) (by omega) (by decide) ?_
    refine VS.goto 26 dX7_pays_22 (by decide) ?_
    refine VS.val (y := rPaid (M 1) f c) (by first | exact (if_neg (Int32.not_lt.mpr h_10)).symm | exact (if_pos (Int32.not_le.mp h_10)).symm) ?_
    refine VS.istore dX7_pays_26 (by decide) rfl ?_
    refine VS.aload_n dX7_pays_28 rfl ?_
    refine VS.sgetR 6 dX7_pays_29 uw_X7 rfl (by decide) 0 (rfl) rfl (by decide) fl_X7_7 rfl ?_
    refine VS.bipush (8) dX7_pays_32 rfl ?_
    refine VS.iload_n dX7_pays_34 rfl ?_
    refine VS.iadd dX7_pays_35 ?_
    refine VS.dup2 dX7_pays_36 rfl rfl ?_
    refine VS.siald (8 + f) dX7_pays_37 (by decide) rfl (ix_add) (by omega) (by decide) ?_
    refine VS.iload dX7_pays_38 rfl ?_
    refine VS.isub dX7_pays_40 ?_
    refine VS.siast (8 + f) dX7_pays_41 (by decide) rfl (ix_add) (by omega) (by decide) ?_
    refine VS.aload_n dX7_pays_42 rfl ?_
    refine VS.iload_n dX7_pays_43 rfl ?_
    refine VS.iload dX7_pays_44 rfl ?_
    refine VS.callT (ct_X7_gets l _ _ h3) dX7_pays_46 mi_X7_gets im_X7_gets sel_X7_gets ml_X7_107 (by decide) rfl rfl (rmOk_D (by decide) (by decide)) (Nat.le_of_ble_eq_true rfl) rfl ?_
    exact VS.vret dX7_pays_49 rfl (fun k _ => congrArg (fun S => shW shM S k) (by simp only [up2, upC_upC, upC_at, rPays]))
set_option maxRecDepth 100000 in
set_option maxHeartbeats 4000000 in
theorem ct_X7_says (l : Launch) (M : SS) (a : Int32) (b : Int32) (is : Int32) {t : Nat} (ht : rem3 (M 1 7) = nI t) (h3 : t < 3) : CtS l yX7_says cX7_says 6 (some FieldType.int) (rmD 2) [.ref 0, .int a, .int b, .int is] 7 shM M (some (.int (rClaims (rSays (M 1) t (bitE a b) is) t))) (upC M 1 (rSays (M 1) t (bitE a b) is)) := by
  refine CtF.of (own := RX7) [some (.ref 0), some (.int a), some (.int b), some (.int is), none, none] (by decide +kernel) rfl (fun _ => Nat.le_of_ble_eq_true rfl) (fun _ => rfl) ?_
  refine VS.iconst (1) dX7_says_0 rfl ?_
  refine VS.iload_n dX7_says_1 rfl ?_
  refine VS.iload_n dX7_says_2 rfl ?_
  refine VS.callN (ct_X7_edge l _ _) dX7_says_3 mi_X7_edge st_X7_edge ml_X7_37 (rmOk_D (by decide) (by decide)) (Nat.le_of_ble_eq_true rfl) rfl ?_
  refine VS.ishl dX7_says_6 ?_
  refine VS.val (y := bitE a b) rfl ?_
  refine VS.istore dX7_says_7 (by decide) rfl ?_
  refine VS.aload_n dX7_says_9 rfl ?_
  refine VS.callT (ct_X7_turn l _) dX7_says_10 mi_X7_turn im_X7_turn sel_X7_turn ml_X7_87 (by decide) rfl rfl (rmOk_D (by decide) (by decide)) (Nat.le_of_ble_eq_true rfl) rfl ?_
  refine VS.val (y := nI t) ht ?_
  refine VS.istore dX7_says_13 (by decide) rfl ?_
  refine VS.aload_n dX7_says_15 rfl ?_
  refine VS.sgetR 6 dX7_says_16 uw_X7 rfl (by decide) 0 (rfl) rfl (by decide) fl_X7_7 rfl ?_
  refine VS.bipush (11) dX7_says_19 rfl ?_
  refine VS.iload dX7_says_21 rfl ?_
  refine VS.iadd dX7_says_23 ?_
  refine VS.iload_n dX7_says_24 rfl ?_
  refine VS.iconst (1) dX7_says_25 rfl ?_
  refine VS.icmp_ne 45 dX7_says_26 (by decide) (fun h_26 => ?_) (fun h_26 => ?_)
  · refine VS.aload_n dX7_says_45 rfl ?_
    refine VS.sgetR 6 dX7_says_46 uw_X7 rfl (by decide) 0 (rfl) rfl (by decide) fl_X7_7 rfl ?_
    refine VS.bipush (11) dX7_says_49 rfl ?_
    refine VS.iload dX7_says_51 rfl ?_
    refine VS.iadd dX7_says_53 ?_
    refine VS.siald (11 + t) dX7_says_54 (by decide) rfl (ix_add) (by omega) (by decide) ?_
    refine VS.iload dX7_says_55 rfl ?_
    refine VS.iconst (-1) dX7_says_57 rfl ?_
    refine VS.ixor dX7_says_58 ?_
    refine VS.iand dX7_says_59 ?_
    refine VS.siast (11 + t) dX7_says_60 (by decide) rfl (ix_add) (by omega) (by decide) ?_
    refine VS.stt (S2 := upC M 1 (rSays1 (M 1) t (bitE a b) is)) (by simp only [up2, rSays1]; first | rw [if_pos h_26] <;> rfl | rw [if_neg h_26] <;> rfl) ?_
    refine VS.aload_n dX7_says_61 rfl ?_
    refine VS.sgetR 6 dX7_says_62 uw_X7 rfl (by decide) 0 (rfl) rfl (by decide) fl_X7_7 rfl ?_
    refine VS.bipush (14) dX7_says_65 rfl ?_
    refine VS.iload dX7_says_67 rfl ?_
    refine VS.iadd dX7_says_69 ?_
    refine VS.iload_n dX7_says_70 rfl ?_
    refine VS.if_ne 90 dX7_says_71 (by decide) (fun h_71 => ?_) (fun h_71 => ?_)
    · refine VS.aload_n dX7_says_90 rfl ?_
      refine VS.sgetR 6 dX7_says_91 uw_X7 rfl (by decide) 0 (rfl) rfl (by decide) fl_X7_7 rfl ?_
      refine VS.bipush (14) dX7_says_94 rfl ?_
      refine VS.iload dX7_says_96 rfl ?_
      refine VS.iadd dX7_says_98 ?_
      refine VS.siald (14 + t) dX7_says_99 (by decide) rfl (ix_add) (by omega) (by decide) ?_
      refine VS.iload dX7_says_100 rfl ?_
      refine VS.iconst (-1) dX7_says_102 rfl ?_
      refine VS.ixor dX7_says_103 ?_
      refine VS.iand dX7_says_104 ?_
      refine VS.siast (14 + t) dX7_says_105 (by decide) rfl (ix_add) (by omega) (by decide) ?_
      refine VS.stt (S2 := upC M 1 (rSays2 (rSays1 (M 1) t (bitE a b) is) t (bitE a b) is)) (by simp only [up2, upC_upC, rSays2]; first | rw [if_pos h_71] <;> rfl | rw [if_neg h_71] <;> rfl) ?_
      refine VS.aload_n dX7_says_106 rfl ?_
      refine VS.callT (ct_X7_ends l _) dX7_says_107 mi_X7_ends im_X7_ends sel_X7_ends ml_X7_91 (by decide) rfl rfl (rmOk_D (by decide) (by decide)) (Nat.le_of_ble_eq_true rfl) rfl ?_
      refine VS.aload_n dX7_says_110 rfl ?_
      refine VS.iload dX7_says_111 rfl ?_
      refine VS.callT (ct_X7_claims l _ h3) dX7_says_113 mi_X7_claims im_X7_claims sel_X7_claims ml_X7_94 (by decide) rfl rfl (rmOk_D (by decide) (by decide)) (Nat.le_of_ble_eq_true rfl) rfl ?_
      exact VS.iret dX7_says_116 (by simp only [upC_at, rSays]) (fun k _ => congrArg (fun S => shW shM S k) (by simp only [upC_upC, upC_at, rSays]))
    · refine VS.aload_n dX7_says_74 rfl ?_
      refine VS.sgetR 6 dX7_says_75 uw_X7 rfl (by decide) 0 (rfl) rfl (by decide) fl_X7_7 rfl ?_
      refine VS.bipush (14) dX7_says_78 rfl ?_
      refine VS.iload dX7_says_80 rfl ?_
      refine VS.iadd dX7_says_82 ?_
      refine VS.siald (14 + t) dX7_says_83 (by decide) rfl (ix_add) (by omega) (by decide) ?_
      refine VS.iload dX7_says_84 rfl ?_
      refine VS.ior dX7_says_86 ?_
      refine VS.goto 105 dX7_says_87 (by decide) ?_
      refine VS.siast (14 + t) dX7_says_105 (by decide) rfl (ix_add) (by omega) (by decide) ?_
      refine VS.stt (S2 := upC M 1 (rSays2 (rSays1 (M 1) t (bitE a b) is) t (bitE a b) is)) (by simp only [up2, upC_upC, rSays2]; first | rw [if_pos h_71] <;> rfl | rw [if_neg h_71] <;> rfl) ?_
      refine VS.aload_n dX7_says_106 rfl ?_
      refine VS.callT (ct_X7_ends l _) dX7_says_107 mi_X7_ends im_X7_ends sel_X7_ends ml_X7_91 (by decide) rfl rfl (rmOk_D (by decide) (by decide)) (Nat.le_of_ble_eq_true rfl) rfl ?_
      refine VS.aload_n dX7_says_110 rfl ?_
      refine VS.iload dX7_says_111 rfl ?_
      refine VS.callT (ct_X7_claims l _ h3) dX7_says_113 mi_X7_claims im_X7_claims sel_X7_claims ml_X7_94 (by decide) rfl rfl (rmOk_D (by decide) (by decide)) (Nat.le_of_ble_eq_true rfl) rfl ?_
      exact VS.iret dX7_says_116 (by simp only [upC_at, rSays]) (fun k _ => congrArg (fun S => shW shM S k) (by simp only [upC_upC, upC_at, rSays]))
  · refine VS.aload_n dX7_says_29 rfl ?_
    refine VS.sgetR 6 dX7_says_30 uw_X7 rfl (by decide) 0 (rfl) rfl (by decide) fl_X7_7 rfl ?_
    refine VS.bipush (11) dX7_says_33 rfl ?_
    refine VS.iload dX7_says_35 rfl ?_
    refine VS.iadd dX7_says_37 ?_
    refine VS.siald (11 + t) dX7_says_38 (by decide) rfl (ix_add) (by omega) (by decide) ?_
    refine VS.iload dX7_says_39 rfl ?_
    refine VS.ior dX7_says_41 ?_
    refine VS.goto 60 dX7_says_42 (by decide) ?_
    refine VS.siast (11 + t) dX7_says_60 (by decide) rfl (ix_add) (by omega) (by decide) ?_
    refine VS.stt (S2 := upC M 1 (rSays1 (M 1) t (bitE a b) is)) (by simp only [up2, rSays1]; first | rw [if_pos h_26] <;> rfl | rw [if_neg h_26] <;> rfl) ?_
    refine VS.aload_n dX7_says_61 rfl ?_
    refine VS.sgetR 6 dX7_says_62 uw_X7 rfl (by decide) 0 (rfl) rfl (by decide) fl_X7_7 rfl ?_
    refine VS.bipush (14) dX7_says_65 rfl ?_
    refine VS.iload dX7_says_67 rfl ?_
    refine VS.iadd dX7_says_69 ?_
    refine VS.iload_n dX7_says_70 rfl ?_
    refine VS.if_ne 90 dX7_says_71 (by decide) (fun h_71 => ?_) (fun h_71 => ?_)
    · refine VS.aload_n dX7_says_90 rfl ?_
      refine VS.sgetR 6 dX7_says_91 uw_X7 rfl (by decide) 0 (rfl) rfl (by decide) fl_X7_7 rfl ?_
      refine VS.bipush (14) dX7_says_94 rfl ?_
      refine VS.iload dX7_says_96 rfl ?_
      refine VS.iadd dX7_says_98 ?_
      refine VS.siald (14 + t) dX7_says_99 (by decide) rfl (ix_add) (by omega) (by decide) ?_
      refine VS.iload dX7_says_100 rfl ?_
      refine VS.iconst (-1) dX7_says_102 rfl ?_
      refine VS.ixor dX7_says_103 ?_
      refine VS.iand dX7_says_104 ?_
      refine VS.siast (14 + t) dX7_says_105 (by decide) rfl (ix_add) (by omega) (by decide) ?_
      refine VS.stt (S2 := upC M 1 (rSays2 (rSays1 (M 1) t (bitE a b) is) t (bitE a b) is)) (by simp only [up2, upC_upC, rSays2]; first | rw [if_pos h_71] <;> rfl | rw [if_neg h_71] <;> rfl) ?_
      refine VS.aload_n dX7_says_106 rfl ?_
      refine VS.callT (ct_X7_ends l _) dX7_says_107 mi_X7_ends im_X7_ends sel_X7_ends ml_X7_91 (by decide) rfl rfl (rmOk_D (by decide) (by decide)) (Nat.le_of_ble_eq_true rfl) rfl ?_
      refine VS.aload_n dX7_says_110 rfl ?_
      refine VS.iload dX7_says_111 rfl ?_
      refine VS.callT (ct_X7_claims l _ h3) dX7_says_113 mi_X7_claims im_X7_claims sel_X7_claims ml_X7_94 (by decide) rfl rfl (rmOk_D (by decide) (by decide)) (Nat.le_of_ble_eq_true rfl) rfl ?_
      exact VS.iret dX7_says_116 (by simp only [upC_at, rSays]) (fun k _ => congrArg (fun S => shW shM S k) (by simp only [upC_upC, upC_at, rSays]))
    · refine VS.aload_n dX7_says_74 rfl ?_
      refine VS.sgetR 6 dX7_says_75 uw_X7 rfl (by decide) 0 (rfl) rfl (by decide) fl_X7_7 rfl ?_
      refine VS.bipush (14) dX7_says_78 rfl ?_
      refine VS.iload dX7_says_80 rfl ?_
      refine VS.iadd dX7_says_82 ?_
      refine VS.siald (14 + t) dX7_says_83 (by decide) rfl (ix_add) (by omega) (by decide) ?_
      refine VS.iload dX7_says_84 rfl ?_
      refine VS.ior dX7_says_86 ?_
      refine VS.goto 105 dX7_says_87 (by decide) ?_
      refine VS.siast (14 + t) dX7_says_105 (by decide) rfl (ix_add) (by omega) (by decide) ?_
      refine VS.stt (S2 := upC M 1 (rSays2 (rSays1 (M 1) t (bitE a b) is) t (bitE a b) is)) (by simp only [up2, upC_upC, rSays2]; first | rw [if_pos h_71] <;> rfl | rw [if_neg h_71] <;> rfl) ?_
      refine VS.aload_n dX7_says_106 rfl ?_
      refine VS.callT (ct_X7_ends l _) dX7_says_107 mi_X7_ends im_X7_ends sel_X7_ends ml_X7_91 (by decide) rfl rfl (rmOk_D (by decide) (by decide)) (Nat.le_of_ble_eq_true rfl) rfl ?_
      refine VS.aload_n dX7_says_110 rfl ?_
      refine VS.iload dX7_says_111 rfl ?_
      refine VS.callT (ct_X7_claims l _ h3) dX7_says_113 mi_X7_claims im_X7_claims sel_X7_claims ml_X7_94 (by decide) rfl rfl (rmOk_D (by decide) (by decide)) (Nat.le_of_ble_eq_true rfl) rfl ?_
      exact VS.iret dX7_says_116 (by simp only [upC_at, rSays]) (fun k _ => congrArg (fun S => shW shM S k) (by simp only [upC_upC, upC_at, rSays]))
