/-! small static methods of numbers -/
def pl (p : Int32) : Prop := 0 ≤ p ∧ p < 8
/-- the number of the road between two places -/
def eI (a b : Int32) : Int32 := minI a b * (15 - minI a b) / 2 + maxI a b - minI a b - 1
def bitE (a b : Int32) : Int32 := 1 <<< (eI a b &&& 31)
/-- -1, -2 or 0: what is wrong with two places -/
def wrE (a b : Int32) : Int32 := if (0 ≤ a ∧ a < 8) ∧ (0 ≤ b ∧ b < 8) then (if a = b then -2 else 0) else -1
theorem i1ne0 : ¬ (1 : Int32) = 0 := by decide
theorem ite10 {c : Prop} [Decidable c] : ((if c then (1 : Int32) else 0) = 0) ↔ ¬ c := by
  by_cases h : c
  · rw [if_pos h]; exact ⟨fun e => absurd e (by decide), fun e => absurd h e⟩
  · rw [if_neg h]; exact ⟨fun _ => h, fun _ => rfl⟩
theorem wrE_1 {a b : Int32} (h : ¬ (0 ≤ a ∧ a < 8)) : wrE a b = -1 := if_neg (fun q => h q.1)
theorem wrE_2 {a b : Int32} (h : ¬ (0 ≤ b ∧ b < 8)) : wrE a b = -1 := if_neg (fun q => h q.2)
theorem wrE_3 {a b : Int32} (h1 : 0 ≤ a ∧ a < 8) (h2 : 0 ≤ b ∧ b < 8) (h : a = b) : wrE a b = -2 := (if_pos ⟨h1, h2⟩).trans (if_pos h)
theorem wrE_4 {a b : Int32} (h1 : 0 ≤ a ∧ a < 8) (h2 : 0 ≤ b ∧ b < 8) (h : ¬ a = b) : wrE a b = 0 := (if_pos ⟨h1, h2⟩).trans (if_neg h)
theorem ite11 {c : Prop} [Decidable c] (h : ¬ (if c then (1 : Int32) else 0) = 0) : c := Decidable.byContradiction fun q => h (ite10.mpr q)
theorem p7 {p : Int32} : (0 ≤ p ∧ p ≤ 7) ↔ (0 ≤ p ∧ p < 8) := by simp only [Int32.lt_iff_toInt_lt, Int32.le_iff_toInt_le, ti_0, ti_1, ti_2, ti_3, ti_4, ti_5, ti_6, ti_7, ti_8, ti_9, ti_10, ti_14, ti_15, ti_16, ti_20, ti_28, ti_33, ti_40, ti_50, ti_80, ti_97, ti_99, ti_100, ti_104, ti_126, ti_150, ti_182, ti_200, ti_255, ti_364, ti_1092, ti_9999, tim_1, tim_2, tim_3, tim_4, tim_5, tim_6]; omega
theorem p2 {p : Int32} : (0 ≤ p ∧ p ≤ 2) ↔ (0 ≤ p ∧ p < 3) := by simp only [Int32.lt_iff_toInt_lt, Int32.le_iff_toInt_le, ti_0, ti_1, ti_2, ti_3, ti_4, ti_5, ti_6, ti_7, ti_8, ti_9, ti_10, ti_14, ti_15, ti_16, ti_20, ti_28, ti_33, ti_40, ti_50, ti_80, ti_97, ti_99, ti_100, ti_104, ti_126, ti_150, ti_182, ti_200, ti_255, ti_364, ti_1092, ti_9999, tim_1, tim_2, tim_3, tim_4, tim_5, tim_6]; omega
set_option maxRecDepth 100000 in
set_option maxHeartbeats 4000000 in
theorem ct_X1_isPlace (l : Launch) (p : Int32) : CtN l yX1_isPlace cX1_isPlace 1 (some FieldType.boolean) (rmD 0) [.int p] (if 0 ≤ p ∧ p < 8 then 1 else 0) := by
  refine CtF.of (own := RX1) [some (.int p)] (by decide +kernel) rfl (fun _ => Nat.le_of_ble_eq_true rfl) (fun _ => rfl) ?_
  refine VS.iload_n dX1_isPlace_0 rfl ?_
  refine VS.if_lt 14 dX1_isPlace_1 (by decide) (fun h_1 => ?_) (fun h_1 => ?_)
  · refine VS.iconst (0) dX1_isPlace_14 rfl ?_
    exact VS.zret dX1_isPlace_15 (by first | rfl | exact nb_ite) (by first | (rw [if_pos (by simp only [Int32.lt_iff_toInt_lt, Int32.le_iff_toInt_le, ti_0, ti_1, ti_2, ti_3, ti_4, ti_5, ti_6, ti_7, ti_8, ti_9, ti_10, ti_14, ti_15, ti_16, ti_20, ti_28, ti_33, ti_40, ti_50, ti_80, ti_97, ti_99, ti_100, ti_104, ti_126, ti_150, ti_182, ti_200, ti_255, ti_364, ti_1092, ti_9999, tim_1, tim_2, tim_3, tim_4, tim_5, tim_6] at *; omega)]) | (rw [if_neg (by simp only [Int32.lt_iff_toInt_lt, Int32.le_iff_toInt_le, ti_0, ti_1, ti_2, ti_3, ti_4, ti_5, ti_6, ti_7, ti_8, ti_9, ti_10, ti_14, ti_15, ti_16, ti_20, ti_28, ti_33, ti_40, ti_50, ti_80, ti_97, ti_99, ti_100, ti_104, ti_126, ti_150, ti_182, ti_200, ti_255, ti_364, ti_1092, ti_9999, tim_1, tim_2, tim_3, tim_4, tim_5, tim_6] at *; omega)])) (fun _ _ => rfl)
  · refine VS.iload_n dX1_isPlace_4 rfl ?_
    refine VS.bipush (8) dX1_isPlace_5 rfl ?_
    refine VS.icmp_ge 14 dX1_isPlace_7 (by decide) (fun h_7 => ?_) (fun h_7 => ?_)
    · refine VS.iconst (0) dX1_isPlace_14 rfl ?_
      exact VS.zret dX1_isPlace_15 (by first | rfl | exact nb_ite) (by first | (rw [if_pos (by simp only [Int32.lt_iff_toInt_lt, Int32.le_iff_toInt_le, ti_0, ti_1, ti_2, ti_3, ti_4, ti_5, ti_6, ti_7, ti_8, ti_9, ti_10, ti_14, ti_15, ti_16, ti_20, ti_28, ti_33, ti_40, ti_50, ti_80, ti_97, ti_99, ti_100, ti_104, ti_126, ti_150, ti_182, ti_200, ti_255, ti_364, ti_1092, ti_9999, tim_1, tim_2, tim_3, tim_4, tim_5, tim_6] at *; omega)]) | (rw [if_neg (by simp only [Int32.lt_iff_toInt_lt, Int32.le_iff_toInt_le, ti_0, ti_1, ti_2, ti_3, ti_4, ti_5, ti_6, ti_7, ti_8, ti_9, ti_10, ti_14, ti_15, ti_16, ti_20, ti_28, ti_33, ti_40, ti_50, ti_80, ti_97, ti_99, ti_100, ti_104, ti_126, ti_150, ti_182, ti_200, ti_255, ti_364, ti_1092, ti_9999, tim_1, tim_2, tim_3, tim_4, tim_5, tim_6] at *; omega)])) (fun _ _ => rfl)
    · refine VS.iconst (1) dX1_isPlace_10 rfl ?_
      refine VS.goto 15 dX1_isPlace_11 (by decide) ?_
      exact VS.zret dX1_isPlace_15 (by first | rfl | exact nb_ite) (by first | (rw [if_pos (by simp only [Int32.lt_iff_toInt_lt, Int32.le_iff_toInt_le, ti_0, ti_1, ti_2, ti_3, ti_4, ti_5, ti_6, ti_7, ti_8, ti_9, ti_10, ti_14, ti_15, ti_16, ti_20, ti_28, ti_33, ti_40, ti_50, ti_80, ti_97, ti_99, ti_100, ti_104, ti_126, ti_150, ti_182, ti_200, ti_255, ti_364, ti_1092, ti_9999, tim_1, tim_2, tim_3, tim_4, tim_5, tim_6] at *; omega)]) | (rw [if_neg (by simp only [Int32.lt_iff_toInt_lt, Int32.le_iff_toInt_le, ti_0, ti_1, ti_2, ti_3, ti_4, ti_5, ti_6, ti_7, ti_8, ti_9, ti_10, ti_14, ti_15, ti_16, ti_20, ti_28, ti_33, ti_40, ti_50, ti_80, ti_97, ti_99, ti_100, ti_104, ti_126, ti_150, ti_182, ti_200, ti_255, ti_364, ti_1092, ti_9999, tim_1, tim_2, tim_3, tim_4, tim_5, tim_6] at *; omega)])) (fun _ _ => rfl)
set_option maxRecDepth 100000 in
set_option maxHeartbeats 4000000 in
theorem ct_X6_isPlayer (l : Launch) (p : Int32) : CtN l yX6_isPlayer cX6_isPlayer 1 (some FieldType.boolean) (rmD 0) [.int p] (if 0 ≤ p ∧ p < 3 then 1 else 0) := by
  refine CtF.of (own := RX6) [some (.int p)] (by decide +kernel) rfl (fun _ => Nat.le_of_ble_eq_true rfl) (fun _ => rfl) ?_
  refine VS.iload_n dX6_isPlayer_0 rfl ?_
  refine VS.if_lt 13 dX6_isPlayer_1 (by decide) (fun h_1 => ?_) (fun h_1 => ?_)
  · refine VS.iconst (0) dX6_isPlayer_13 rfl ?_
    exact VS.zret dX6_isPlayer_14 (by first | rfl | exact nb_ite) (by first | (rw [if_pos (by simp only [Int32.lt_iff_toInt_lt, Int32.le_iff_toInt_le, ti_0, ti_1, ti_2, ti_3, ti_4, ti_5, ti_6, ti_7, ti_8, ti_9, ti_10, ti_14, ti_15, ti_16, ti_20, ti_28, ti_33, ti_40, ti_50, ti_80, ti_97, ti_99, ti_100, ti_104, ti_126, ti_150, ti_182, ti_200, ti_255, ti_364, ti_1092, ti_9999, tim_1, tim_2, tim_3, tim_4, tim_5, tim_6] at *; omega)]) | (rw [if_neg (by simp only [Int32.lt_iff_toInt_lt, Int32.le_iff_toInt_le, ti_0, ti_1, ti_2, ti_3, ti_4, ti_5, ti_6, ti_7, ti_8, ti_9, ti_10, ti_14, ti_15, ti_16, ti_20, ti_28, ti_33, ti_40, ti_50, ti_80, ti_97, ti_99, ti_100, ti_104, ti_126, ti_150, ti_182, ti_200, ti_255, ti_364, ti_1092, ti_9999, tim_1, tim_2, tim_3, tim_4, tim_5, tim_6] at *; omega)])) (fun _ _ => rfl)
  · refine VS.iload_n dX6_isPlayer_4 rfl ?_
    refine VS.iconst (3) dX6_isPlayer_5 rfl ?_
    refine VS.icmp_ge 13 dX6_isPlayer_6 (by decide) (fun h_6 => ?_) (fun h_6 => ?_)
    · refine VS.iconst (0) dX6_isPlayer_13 rfl ?_
      exact VS.zret dX6_isPlayer_14 (by first | rfl | exact nb_ite) (by first | (rw [if_pos (by simp only [Int32.lt_iff_toInt_lt, Int32.le_iff_toInt_le, ti_0, ti_1, ti_2, ti_3, ti_4, ti_5, ti_6, ti_7, ti_8, ti_9, ti_10, ti_14, ti_15, ti_16, ti_20, ti_28, ti_33, ti_40, ti_50, ti_80, ti_97, ti_99, ti_100, ti_104, ti_126, ti_150, ti_182, ti_200, ti_255, ti_364, ti_1092, ti_9999, tim_1, tim_2, tim_3, tim_4, tim_5, tim_6] at *; omega)]) | (rw [if_neg (by simp only [Int32.lt_iff_toInt_lt, Int32.le_iff_toInt_le, ti_0, ti_1, ti_2, ti_3, ti_4, ti_5, ti_6, ti_7, ti_8, ti_9, ti_10, ti_14, ti_15, ti_16, ti_20, ti_28, ti_33, ti_40, ti_50, ti_80, ti_97, ti_99, ti_100, ti_104, ti_126, ti_150, ti_182, ti_200, ti_255, ti_364, ti_1092, ti_9999, tim_1, tim_2, tim_3, tim_4, tim_5, tim_6] at *; omega)])) (fun _ _ => rfl)
    · refine VS.iconst (1) dX6_isPlayer_9 rfl ?_
      refine VS.goto 14 dX6_isPlayer_10 (by decide) ?_
      exact VS.zret dX6_isPlayer_14 (by first | rfl | exact nb_ite) (by first | (rw [if_pos (by simp only [Int32.lt_iff_toInt_lt, Int32.le_iff_toInt_le, ti_0, ti_1, ti_2, ti_3, ti_4, ti_5, ti_6, ti_7, ti_8, ti_9, ti_10, ti_14, ti_15, ti_16, ti_20, ti_28, ti_33, ti_40, ti_50, ti_80, ti_97, ti_99, ti_100, ti_104, ti_126, ti_150, ti_182, ti_200, ti_255, ti_364, ti_1092, ti_9999, tim_1, tim_2, tim_3, tim_4, tim_5, tim_6] at *; omega)]) | (rw [if_neg (by simp only [Int32.lt_iff_toInt_lt, Int32.le_iff_toInt_le, ti_0, ti_1, ti_2, ti_3, ti_4, ti_5, ti_6, ti_7, ti_8, ti_9, ti_10, ti_14, ti_15, ti_16, ti_20, ti_28, ti_33, ti_40, ti_50, ti_80, ti_97, ti_99, ti_100, ti_104, ti_126, ti_150, ti_182, ti_200, ti_255, ti_364, ti_1092, ti_9999, tim_1, tim_2, tim_3, tim_4, tim_5, tim_6] at *; omega)])) (fun _ _ => rfl)
set_option maxRecDepth 100000 in
set_option maxHeartbeats 4000000 in
theorem ct_X6_isSlot (l : Launch) (p : Int32) : CtN l yX6_isSlot cX6_isSlot 1 (some FieldType.boolean) (rmD 0) [.int p] (if p = 0 ∨ p = 1 then 1 else 0) := by
  refine CtF.of (own := RX6) [some (.int p)] (by decide +kernel) rfl (fun _ => Nat.le_of_ble_eq_true rfl) (fun _ => rfl) ?_
  refine VS.iload_n dX6_isSlot_0 rfl ?_
  refine VS.if_eq 9 dX6_isSlot_1 (by decide) (fun h_1 => ?_) (fun h_1 => ?_)
  · refine VS.iconst (1) dX6_isSlot_9 rfl ?_
    refine VS.goto 14 dX6_isSlot_10 (by decide) ?_
    exact VS.zret dX6_isSlot_14 (by first | rfl | exact nb_ite) (by simp_all) (fun _ _ => rfl)
  · refine VS.iload_n dX6_isSlot_4 rfl ?_
    refine VS.iconst (1) dX6_isSlot_5 rfl ?_
    refine VS.icmp_ne 13 dX6_isSlot_6 (by decide) (fun h_6 => ?_) (fun h_6 => ?_)
    · refine VS.iconst (0) dX6_isSlot_13 rfl ?_
      exact VS.zret dX6_isSlot_14 (by first | rfl | exact nb_ite) (by simp_all) (fun _ _ => rfl)
    · refine VS.iconst (1) dX6_isSlot_9 rfl ?_
      refine VS.goto 14 dX6_isSlot_10 (by decide) ?_
      exact VS.zret dX6_isSlot_14 (by first | rfl | exact nb_ite) (by simp_all) (fun _ _ => rfl)
set_option maxRecDepth 100000 in
set_option maxHeartbeats 4000000 in
theorem ct_X6_isIn (l : Launch) (a : Int32) (b : Int32) : CtN l yX6_isIn cX6_isIn 2 (some FieldType.int) (rmD 0) [.int a, .int b] (if a &&& b = 0 then 0 else 1) := by
  refine CtF.of (own := RX6) [some (.int a), some (.int b)] (by decide +kernel) rfl (fun _ => Nat.le_of_ble_eq_true rfl) (fun _ => rfl) ?_
  refine VS.iload_n dX6_isIn_0 rfl ?_
  refine VS.iload_n dX6_isIn_1 rfl ?_
  refine VS.iand dX6_isIn_2 ?_
  refine VS.if_eq 10 dX6_isIn_3 (by decide) (fun h_3 => ?_) (fun h_3 => ?_)
  · refine VS.iconst (0) dX6_isIn_10 rfl ?_
    exact VS.iret dX6_isIn_11 (by simp_all) (fun _ _ => rfl)
  · refine VS.iconst (1) dX6_isIn_6 rfl ?_
    refine VS.goto 11 dX6_isIn_7 (by decide) ?_
    exact VS.iret dX6_isIn_11 (by simp_all) (fun _ _ => rfl)
set_option maxRecDepth 100000 in
set_option maxHeartbeats 4000000 in
theorem ct_X1_numberOf (l : Launch) (a : Int32) (b : Int32) : CtN l yX1_numberOf cX1_numberOf 4 (some FieldType.int) (rmD 1) [.int a, .int b] (eI a b) := by
  refine CtF.of (own := RX1) [some (.int a), some (.int b), none, none] (by decide +kernel) rfl (fun _ => Nat.le_of_ble_eq_true rfl) (fun _ => rfl) ?_
  refine VS.iload_n dX1_numberOf_0 rfl ?_
  refine VS.iload_n dX1_numberOf_1 rfl ?_
  refine VS.mmin dX1_numberOf_2 ml_X1_15 (rmM_D (by decide)) (Nat.le_of_ble_eq_true rfl) ?_
  refine VS.istore_n dX1_numberOf_5 (by decide) rfl ?_
  refine VS.iload_n dX1_numberOf_6 rfl ?_
  refine VS.iload_n dX1_numberOf_7 rfl ?_
  refine VS.mmax dX1_numberOf_8 ml_X1_21 (rmM_D (by decide)) (Nat.le_of_ble_eq_true rfl) ?_
  refine VS.istore_n dX1_numberOf_11 (by decide) rfl ?_
  refine VS.iload_n dX1_numberOf_12 rfl ?_
  refine VS.bipush (15) dX1_numberOf_13 rfl ?_
  refine VS.iload_n dX1_numberOf_15 rfl ?_
  refine VS.isub dX1_numberOf_16 ?_
  refine VS.imul dX1_numberOf_17 ?_
  refine VS.iconst (2) dX1_numberOf_18 rfl ?_
  refine VS.idiv dX1_numberOf_19 (by decide) ?_
  refine VS.iload_n dX1_numberOf_20 rfl ?_
  refine VS.iadd dX1_numberOf_21 ?_
  refine VS.iload_n dX1_numberOf_22 rfl ?_
  refine VS.isub dX1_numberOf_23 ?_
  refine VS.iconst (1) dX1_numberOf_24 rfl ?_
  refine VS.isub dX1_numberOf_25 ?_
  exact VS.iret dX1_numberOf_26 (rfl) (fun _ _ => rfl)
set_option maxRecDepth 100000 in
set_option maxHeartbeats 4000000 in
theorem ct_X1_roadBetween (l : Launch) (a : Int32) (b : Int32) : CtN l yX1_roadBetween cX1_roadBetween 2 (some FieldType.int) (rmD 2) [.int a, .int b] (bitE a b) := by
  refine CtF.of (own := RX1) [some (.int a), some (.int b)] (by decide +kernel) rfl (fun _ => Nat.le_of_ble_eq_true rfl) (fun _ => rfl) ?_
  refine VS.iconst (1) dX1_roadBetween_0 rfl ?_
  refine VS.iload_n dX1_roadBetween_1 rfl ?_
  refine VS.iload_n dX1_roadBetween_2 rfl ?_
  refine VS.callN (ct_X1_numberOf l _ _) dX1_roadBetween_3 mi_X1_numberOf st_X1_numberOf ml_X1_24 (rmOk_D (by decide) (by decide)) (Nat.le_of_ble_eq_true rfl) rfl ?_
  refine VS.ishl dX1_roadBetween_6 ?_
  exact VS.iret dX1_roadBetween_7 (rfl) (fun _ _ => rfl)
set_option maxRecDepth 100000 in
set_option maxHeartbeats 4000000 in
theorem ct_X1_wrongEnds (l : Launch) (a : Int32) (b : Int32) : CtN l yX1_wrongEnds cX1_wrongEnds 2 (some FieldType.int) (rmD 1) [.int a, .int b] (wrE a b) := by
  refine CtF.of (own := RX1) [some (.int a), some (.int b)] (by decide +kernel) rfl (fun _ => Nat.le_of_ble_eq_true rfl) (fun _ => rfl) ?_
  refine VS.iload_n dX1_wrongEnds_0 rfl ?_
  refine VS.callN (ct_X1_isPlace l _) dX1_wrongEnds_1 mi_X1_isPlace st_X1_isPlace ml_X1_11 (rmOk_D (by decide) (by decide)) (Nat.le_of_ble_eq_true rfl) rfl ?_
  refine VS.if_eq 14 dX1_wrongEnds_4 (by decide) (fun h_4 => ?_) (fun h_4 => ?_)
  · refine VS.iconst (-1) dX1_wrongEnds_14 rfl ?_
    exact VS.iret dX1_wrongEnds_15 (by first | (rw [wrE_1 (ite10.mp h_4)]) | (rw [wrE_2 (ite10.mp h_11)]) | (rw [wrE_3 (ite11 h_4) (ite11 h_11) h_18]) | (rw [wrE_4 (ite11 h_4) (ite11 h_11) h_18])) (fun _ _ => rfl)
  · refine VS.iload_n dX1_wrongEnds_7 rfl ?_
    refine VS.callN (ct_X1_isPlace l _) dX1_wrongEnds_8 mi_X1_isPlace st_X1_isPlace ml_X1_11 (rmOk_D (by decide) (by decide)) (Nat.le_of_ble_eq_true rfl) rfl ?_
    refine VS.if_ne 16 dX1_wrongEnds_11 (by decide) (fun h_11 => ?_) (fun h_11 => ?_)
    · refine VS.iload_n dX1_wrongEnds_16 rfl ?_
      refine VS.iload_n dX1_wrongEnds_17 rfl ?_
      refine VS.icmp_ne 26 dX1_wrongEnds_18 (by decide) (fun h_18 => ?_) (fun h_18 => ?_)
      · refine VS.iconst (0) dX1_wrongEnds_26 rfl ?_
        exact VS.iret dX1_wrongEnds_27 (by first | (rw [wrE_1 (ite10.mp h_4)]) | (rw [wrE_2 (ite10.mp h_11)]) | (rw [wrE_3 (ite11 h_4) (ite11 h_11) h_18]) | (rw [wrE_4 (ite11 h_4) (ite11 h_11) h_18])) (fun _ _ => rfl)
      · refine VS.bipush (-2) dX1_wrongEnds_21 rfl ?_
        refine VS.goto 27 dX1_wrongEnds_23 (by decide) ?_
        exact VS.iret dX1_wrongEnds_27 (by first | (rw [wrE_1 (ite10.mp h_4)]) | (rw [wrE_2 (ite10.mp h_11)]) | (rw [wrE_3 (ite11 h_4) (ite11 h_11) h_18]) | (rw [wrE_4 (ite11 h_4) (ite11 h_11) h_18])) (fun _ _ => rfl)
    · refine VS.iconst (-1) dX1_wrongEnds_14 rfl ?_
      exact VS.iret dX1_wrongEnds_15 (by first | (rw [wrE_1 (ite10.mp h_4)]) | (rw [wrE_2 (ite10.mp h_11)]) | (rw [wrE_3 (ite11 h_4) (ite11 h_11) h_18]) | (rw [wrE_4 (ite11 h_4) (ite11 h_11) h_18])) (fun _ _ => rfl)
set_option maxRecDepth 100000 in
set_option maxHeartbeats 4000000 in
theorem ct_X1_roadsAt (l : Launch) (p : Int32) : CtN l yX1_roadsAt cX1_roadsAt 1 (some FieldType.int) (rmD 0) [.int p] (if 0 ≤ p ∧ p < 8 then k_at p.toNatClampNeg else 0) := by
  refine CtF.of (own := RX1) [some (.int p)] (by decide +kernel) rfl (fun _ => Nat.le_of_ble_eq_true rfl) (fun _ => rfl) ?_
  refine VS.iload_n dX1_roadsAt_0 rfl ?_
  refine VS.if_lt 20 dX1_roadsAt_1 (by decide) (fun h_1 => ?_) (fun h_1 => ?_)
  · refine VS.iconst (0) dX1_roadsAt_20 rfl ?_
    exact VS.iret dX1_roadsAt_21 (by first | (rw [if_pos (by simp only [Int32.lt_iff_toInt_lt, Int32.le_iff_toInt_le, ti_0, ti_1, ti_2, ti_3, ti_4, ti_5, ti_6, ti_7, ti_8, ti_9, ti_10, ti_14, ti_15, ti_16, ti_20, ti_28, ti_33, ti_40, ti_50, ti_80, ti_97, ti_99, ti_100, ti_104, ti_126, ti_150, ti_182, ti_200, ti_255, ti_364, ti_1092, ti_9999, tim_1, tim_2, tim_3, tim_4, tim_5, tim_6] at *; omega)]) | (rw [if_neg (by simp only [Int32.lt_iff_toInt_lt, Int32.le_iff_toInt_le, ti_0, ti_1, ti_2, ti_3, ti_4, ti_5, ti_6, ti_7, ti_8, ti_9, ti_10, ti_14, ti_15, ti_16, ti_20, ti_28, ti_33, ti_40, ti_50, ti_80, ti_97, ti_99, ti_100, ti_104, ti_126, ti_150, ti_182, ti_200, ti_255, ti_364, ti_1092, ti_9999, tim_1, tim_2, tim_3, tim_4, tim_5, tim_6] at *; omega)])) (fun _ _ => rfl)
  · refine VS.iload_n dX1_roadsAt_4 rfl ?_
    refine VS.gslen (v := 8) (ref := "") (fun _ _ _ h => h.1.2.2.2) dX1_roadsAt_5 dX1_roadsAt_8 fl_X1_27 rfl ?_
    refine VS.icmp_ge 20 dX1_roadsAt_9 (by decide) (fun h_9 => ?_) (fun h_9 => ?_)
    · refine VS.iconst (0) dX1_roadsAt_20 rfl ?_
      exact VS.iret dX1_roadsAt_21 (by first | (rw [if_pos (by simp only [Int32.lt_iff_toInt_lt, Int32.le_iff_toInt_le, ti_0, ti_1, ti_2, ti_3, ti_4, ti_5, ti_6, ti_7, ti_8, ti_9, ti_10, ti_14, ti_15, ti_16, ti_20, ti_28, ti_33, ti_40, ti_50, ti_80, ti_97, ti_99, ti_100, ti_104, ti_126, ti_150, ti_182, ti_200, ti_255, ti_364, ti_1092, ti_9999, tim_1, tim_2, tim_3, tim_4, tim_5, tim_6] at *; omega)]) | (rw [if_neg (by simp only [Int32.lt_iff_toInt_lt, Int32.le_iff_toInt_le, ti_0, ti_1, ti_2, ti_3, ti_4, ti_5, ti_6, ti_7, ti_8, ti_9, ti_10, ti_14, ti_15, ti_16, ti_20, ti_28, ti_33, ti_40, ti_50, ti_80, ti_97, ti_99, ti_100, ti_104, ti_126, ti_150, ti_182, ti_200, ti_255, ti_364, ti_1092, ti_9999, tim_1, tim_2, tim_3, tim_4, tim_5, tim_6] at *; omega)])) (fun _ _ => rfl)
    · refine VS.gsld (ref := "") (fun _ _ _ h => h.1.2.2.2) dX1_roadsAt_12 dX1_roadsAt_15 dX1_roadsAt_16 fl_X1_27 rfl (vp_in_iff.mpr (by simp only [Int32.lt_iff_toInt_lt, Int32.le_iff_toInt_le, ti_0, ti_1, ti_2, ti_3, ti_4, ti_5, ti_6, ti_7, ti_8, ti_9, ti_10, ti_14, ti_15, ti_16, ti_20, ti_28, ti_33, ti_40, ti_50, ti_80, ti_97, ti_99, ti_100, ti_104, ti_126, ti_150, ti_182, ti_200, ti_255, ti_364, ti_1092, ti_9999, tim_1, tim_2, tim_3, tim_4, tim_5, tim_6] at *; omega)) ?_
      refine VS.goto 21 dX1_roadsAt_17 (by decide) ?_
      exact VS.iret dX1_roadsAt_21 (by first | (rw [if_pos (by simp only [Int32.lt_iff_toInt_lt, Int32.le_iff_toInt_le, ti_0, ti_1, ti_2, ti_3, ti_4, ti_5, ti_6, ti_7, ti_8, ti_9, ti_10, ti_14, ti_15, ti_16, ti_20, ti_28, ti_33, ti_40, ti_50, ti_80, ti_97, ti_99, ti_100, ti_104, ti_126, ti_150, ti_182, ti_200, ti_255, ti_364, ti_1092, ti_9999, tim_1, tim_2, tim_3, tim_4, tim_5, tim_6] at *; omega)]) | (rw [if_neg (by simp only [Int32.lt_iff_toInt_lt, Int32.le_iff_toInt_le, ti_0, ti_1, ti_2, ti_3, ti_4, ti_5, ti_6, ti_7, ti_8, ti_9, ti_10, ti_14, ti_15, ti_16, ti_20, ti_28, ti_33, ti_40, ti_50, ti_80, ti_97, ti_99, ti_100, ti_104, ti_126, ti_150, ti_182, ti_200, ti_255, ti_364, ti_1092, ti_9999, tim_1, tim_2, tim_3, tim_4, tim_5, tim_6] at *; omega)])) (fun _ _ => rfl)
set_option maxRecDepth 100000 in
set_option maxHeartbeats 4000000 in
theorem ct_X1_thirdOf (l : Launch) (p : Int32) : CtN l yX1_thirdOf cX1_thirdOf 1 (some FieldType.int) (rmD 0) [.int p] ((153391689 <<< (p &&& 31)) &&& 268435455) := by
  refine CtF.of (own := RX1) [some (.int p)] (by decide +kernel) rfl (fun _ => Nat.le_of_ble_eq_true rfl) (fun _ => rfl) ?_
  refine VS.ldc dX1_thirdOf_0 kc_X1_31 ?_
  refine VS.iload_n dX1_thirdOf_2 rfl ?_
  refine VS.ishl dX1_thirdOf_3 ?_
  refine VS.ldc dX1_thirdOf_4 kc_X1_32 ?_
  refine VS.iand dX1_thirdOf_6 ?_
  exact VS.iret dX1_thirdOf_7 (rfl) (fun _ _ => rfl)
theorem minI_1 {a b : Int32} (h : b ≤ a) : minI a b = b := by
  unfold minI
  split
  · rfl
  · rename_i q; exact Int32.le_antisymm (Int32.not_lt.mp q) h
theorem minI_2 {a b : Int32} (h : ¬ b ≤ a) : minI a b = a := if_neg (fun q => h (Int32.le_of_lt q))
theorem maxI_1 {a b : Int32} (h : b ≤ a) : maxI a b = a := if_neg (Int32.not_lt.mpr h)
theorem maxI_2 {a b : Int32} (h : ¬ b ≤ a) : maxI a b = b := if_pos (Int32.not_le.mp h)
