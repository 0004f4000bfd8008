/-! the reference: texts -/
def itI (P : Nat → Int32) (L k : Nat) : Int32 := if k < L then P k else 0
def wiB (P : Nat → Int32) (L k : Nat) (w lo hi : Int32) : Int32 := if w = 0 ∧ (lo ≤ itI P L k ∧ itI P L k ≤ hi) then 0 else 1
def wiK (k : Nat) (w : Int32) : Nat := if w = 0 then k + 1 else k
theorem wi_y {P : Nat → Int32} {L k : Nat} {w lo hi : Int32} (h1 : w = 0) (h2 : lo ≤ itI P L k ∧ itI P L k ≤ hi) : wiB P L k w lo hi = 0 := if_pos ⟨h1, h2⟩
theorem wi_n1 {P : Nat → Int32} {L k : Nat} {w lo hi : Int32} (h1 : ¬ w = 0) : wiB P L k w lo hi = 1 := if_neg (fun q => h1 q.1)
theorem wi_n2 {P : Nat → Int32} {L k : Nat} {w lo hi : Int32} (h2 : ¬ (lo ≤ itI P L k ∧ itI P L k ≤ hi)) : wiB P L k w lo hi = 1 := if_neg (fun q => h2 q.2)
theorem wi_01 (P : Nat → Int32) (L k : Nat) (w lo hi : Int32) : wiB P L k w lo hi = 0 ∨ wiB P L k w lo hi = 1 := by
  unfold wiB; split
  · exact Or.inl rfl
  · exact Or.inr rfl
/-- spot and wrong, in the reference's own cell -/
def sw2 (M : SS) (k : Nat) (w : Int32) : SS := upC M 0 (upd (upd (M 0) 11 w) 10 (nI k))
theorem nI_p0 (k : Nat) : nI k + 0 = nI k := Int32.add_zero _
theorem nI_p1 (k : Nat) : nI k + 1 = nI (k + 1) := nI_1 k
theorem lt_of_nI {k L : Nat} (hk : k < 2 ^ 31) (hL : L < 2 ^ 31) (h : ¬ nI L ≤ nI k) : k < L := by
  rcases Nat.lt_or_ge k L with q | q
  · exact q
  · exact absurd (nI_le q hk) h
set_option maxRecDepth 100000 in
set_option maxHeartbeats 4000000 in
theorem ct_X7_within (l : Launch) (M : SS) (lo : Int32) (hi : Int32) {k L : Nat} (hk : M 0 10 = nI k) (hL : M 0 6 = nI L) (hL2 : L ≤ 80) (hk2 : k ≤ 80) : CtS l yX7_within cX7_within 4 (some FieldType.int) (rmD 1) [.ref 0, .int lo, .int hi] 7 shM M (some (.int (itI (M 5) L k - lo))) (sw2 M (wiK k (wiB (M 5) L k (M 0 11) lo hi)) (wiB (M 5) L k (M 0 11) lo hi)) := by
  refine CtF.of (own := RX7) [some (.ref 0), some (.int lo), some (.int hi), none] (by decide +kernel) rfl (fun _ => Nat.le_of_ble_eq_true rfl) (fun _ => rfl) ?_
  refine VS.aload_n dX7_within_0 rfl ?_
  refine VS.sgetI 6 dX7_within_1 uw_X7 rfl (by decide) 10 rfl rfl (by decide) fl_X7_159 rfl ?_
  refine VS.val (y := nI k) hk ?_
  refine VS.aload_n dX7_within_4 rfl ?_
  refine VS.sgetI 6 dX7_within_5 uw_X7 rfl (by decide) 6 rfl rfl (by decide) fl_X7_151 rfl ?_
  refine VS.val (y := nI L) hL ?_
  refine VS.icmp_ge 23 dX7_within_8 (by decide) (fun h_8 => ?_) (fun h_8 => ?_)
  · refine VS.iconst (0) dX7_within_23 rfl ?_
    refine VS.val (y := itI (M 5) L k) (by first | exact (if_neg (fun q => nI_ge q (by omega) h_8)).symm | exact (if_pos (lt_of_nI (by omega) (by omega) h_8)).symm) ?_
    refine VS.istore_n dX7_within_24 (by decide) rfl ?_
    refine VS.aload_n dX7_within_25 rfl ?_
    refine VS.aload_n dX7_within_26 rfl ?_
    refine VS.sgetI 6 dX7_within_27 uw_X7 rfl (by decide) 11 rfl rfl (by decide) fl_X7_162 rfl ?_
    refine VS.if_ne 42 dX7_within_30 (by decide) (fun h_30 => ?_) (fun h_30 => ?_)
    · refine VS.iconst (1) dX7_within_42 rfl ?_
      refine VS.goto 47 dX7_within_43 (by decide) ?_
      refine VS.val (y := wiB (M 5) L k (M 0 11) lo hi) (by first | exact (wi_n1 h_30).symm | exact (wi_y (Decidable.byContradiction h_30) (ite11 h_39)).symm | exact (wi_y h_30 (ite11 h_39)).symm | exact (wi_n2 (ite10.mp h_39)).symm) ?_
      refine VS.sput 6 dX7_within_47 uw_X7 tyX7 tyX7_ok nmX7 rfl (by decide) 11 rfl rfl (by decide) fl_X7_162 rfl rfl (by first | rw [(wi_n1 h_30 : wiB (M 5) L k (M 0 11) lo hi = 1)] <;> rfl | rw [(wi_n2 (ite10.mp h_39) : wiB (M 5) L k (M 0 11) lo hi = 1)] <;> rfl | rw [(wi_y h_30 (ite11 h_39) : wiB (M 5) L k (M 0 11) lo hi = 0)] <;> rfl) (by first | rw [(wi_n1 h_30 : wiB (M 5) L k (M 0 11) lo hi = 1)] <;> rfl | rw [(wi_n2 (ite10.mp h_39) : wiB (M 5) L k (M 0 11) lo hi = 1)] <;> rfl | rw [(wi_y h_30 (ite11 h_39) : wiB (M 5) L k (M 0 11) lo hi = 0)] <;> rfl) ?_
      refine VS.aload_n dX7_within_50 rfl ?_
      refine VS.dup dX7_within_51 rfl ?_
      refine VS.sgetI 6 dX7_within_52 uw_X7 rfl (by decide) 10 rfl rfl (by decide) fl_X7_159 rfl ?_
      refine VS.val (y := nI k) hk ?_
      refine VS.aload_n dX7_within_55 rfl ?_
      refine VS.sgetI 6 dX7_within_56 uw_X7 rfl (by decide) 11 rfl rfl (by decide) fl_X7_162 rfl ?_
      refine VS.val (y := wiB (M 5) L k (M 0 11) lo hi) rfl ?_
      refine VS.if_eq 66 dX7_within_59 (by decide) (fun hh => absurd hh (by first | rw [(wi_n1 h_30 : wiB (M 5) L k (M 0 11) lo hi = 1)] <;> decide | rw [(wi_n2 (ite10.mp h_39) : wiB (M 5) L k (M 0 11) lo hi = 1)] <;> decide)) (fun _ => ?_)
      refine VS.iconst (0) dX7_within_62 rfl ?_
      refine VS.goto 67 dX7_within_63 (by decide) ?_
      refine VS.iadd dX7_within_67 ?_
      refine VS.sput 6 dX7_within_68 uw_X7 tyX7 tyX7_ok nmX7 rfl (by decide) 10 rfl rfl (by decide) fl_X7_159 rfl rfl (rfl) (rfl) ?_
      refine VS.iload_n dX7_within_71 rfl ?_
      refine VS.iload_n dX7_within_72 rfl ?_
      refine VS.isub dX7_within_73 ?_
      exact VS.iret dX7_within_74 (rfl) (shk (by unfold sw2 up2 wiK; rw [upC_upC, upC_at]; first | rw [if_pos (wi_y h_30 (ite11 h_39)), nI_p1] | rw [if_neg (by first | rw [(wi_n1 h_30 : wiB (M 5) L k (M 0 11) lo hi = 1)] <;> decide | rw [(wi_n2 (ite10.mp h_39) : wiB (M 5) L k (M 0 11) lo hi = 1)] <;> decide), nI_p0]))
    · refine VS.iload_n dX7_within_33 rfl ?_
      refine VS.iload_n dX7_within_34 rfl ?_
      refine VS.iload_n dX7_within_35 rfl ?_
      refine VS.callN (ct_X7_in l _ _ _) dX7_within_36 mi_X7_in st_X7_in ml_X7_29 (rmOk_D (by decide) (by decide)) (Nat.le_of_ble_eq_true rfl) rfl ?_
      refine VS.if_ne 46 dX7_within_39 (by decide) (fun h_39 => ?_) (fun h_39 => ?_)
      · refine VS.iconst (0) dX7_within_46 rfl ?_
        refine VS.val (y := wiB (M 5) L k (M 0 11) lo hi) (by first | exact (wi_n1 h_30).symm | exact (wi_y (Decidable.byContradiction h_30) (ite11 h_39)).symm | exact (wi_y h_30 (ite11 h_39)).symm | exact (wi_n2 (ite10.mp h_39)).symm) ?_
        refine VS.sput 6 dX7_within_47 uw_X7 tyX7 tyX7_ok nmX7 rfl (by decide) 11 rfl rfl (by decide) fl_X7_162 rfl rfl (by first | rw [(wi_n1 h_30 : wiB (M 5) L k (M 0 11) lo hi = 1)] <;> rfl | rw [(wi_n2 (ite10.mp h_39) : wiB (M 5) L k (M 0 11) lo hi = 1)] <;> rfl | rw [(wi_y h_30 (ite11 h_39) : wiB (M 5) L k (M 0 11) lo hi = 0)] <;> rfl) (by first | rw [(wi_n1 h_30 : wiB (M 5) L k (M 0 11) lo hi = 1)] <;> rfl | rw [(wi_n2 (ite10.mp h_39) : wiB (M 5) L k (M 0 11) lo hi = 1)] <;> rfl | rw [(wi_y h_30 (ite11 h_39) : wiB (M 5) L k (M 0 11) lo hi = 0)] <;> rfl) ?_
        refine VS.aload_n dX7_within_50 rfl ?_
        refine VS.dup dX7_within_51 rfl ?_
        refine VS.sgetI 6 dX7_within_52 uw_X7 rfl (by decide) 10 rfl rfl (by decide) fl_X7_159 rfl ?_
        refine VS.val (y := nI k) hk ?_
        refine VS.aload_n dX7_within_55 rfl ?_
        refine VS.sgetI 6 dX7_within_56 uw_X7 rfl (by decide) 11 rfl rfl (by decide) fl_X7_162 rfl ?_
        refine VS.val (y := wiB (M 5) L k (M 0 11) lo hi) rfl ?_
        refine VS.if_eq 66 dX7_within_59 (by decide) (fun _ => ?_) (fun hh => absurd (wi_y h_30 (ite11 h_39)) hh)
        refine VS.iconst (1) dX7_within_66 rfl ?_
        refine VS.iadd dX7_within_67 ?_
        refine VS.sput 6 dX7_within_68 uw_X7 tyX7 tyX7_ok nmX7 rfl (by decide) 10 rfl rfl (by decide) fl_X7_159 rfl rfl (rfl) (rfl) ?_
        refine VS.iload_n dX7_within_71 rfl ?_
        refine VS.iload_n dX7_within_72 rfl ?_
        refine VS.isub dX7_within_73 ?_
        exact VS.iret dX7_within_74 (rfl) (shk (by unfold sw2 up2 wiK; rw [upC_upC, upC_at]; first | rw [if_pos (wi_y h_30 (ite11 h_39)), nI_p1] | rw [if_neg (by first | rw [(wi_n1 h_30 : wiB (M 5) L k (M 0 11) lo hi = 1)] <;> decide | rw [(wi_n2 (ite10.mp h_39) : wiB (M 5) L k (M 0 11) lo hi = 1)] <;> decide), nI_p0]))
      · refine VS.iconst (1) dX7_within_42 rfl ?_
        refine VS.goto 47 dX7_within_43 (by decide) ?_
        refine VS.val (y := wiB (M 5) L k (M 0 11) lo hi) (by first | exact (wi_n1 h_30).symm | exact (wi_y (Decidable.byContradiction h_30) (ite11 h_39)).symm | exact (wi_y h_30 (ite11 h_39)).symm | exact (wi_n2 (ite10.mp h_39)).symm) ?_
        refine VS.sput 6 dX7_within_47 uw_X7 tyX7 tyX7_ok nmX7 rfl (by decide) 11 rfl rfl (by decide) fl_X7_162 rfl rfl (by first | rw [(wi_n1 h_30 : wiB (M 5) L k (M 0 11) lo hi = 1)] <;> rfl | rw [(wi_n2 (ite10.mp h_39) : wiB (M 5) L k (M 0 11) lo hi = 1)] <;> rfl | rw [(wi_y h_30 (ite11 h_39) : wiB (M 5) L k (M 0 11) lo hi = 0)] <;> rfl) (by first | rw [(wi_n1 h_30 : wiB (M 5) L k (M 0 11) lo hi = 1)] <;> rfl | rw [(wi_n2 (ite10.mp h_39) : wiB (M 5) L k (M 0 11) lo hi = 1)] <;> rfl | rw [(wi_y h_30 (ite11 h_39) : wiB (M 5) L k (M 0 11) lo hi = 0)] <;> rfl) ?_
        refine VS.aload_n dX7_within_50 rfl ?_
        refine VS.dup dX7_within_51 rfl ?_
        refine VS.sgetI 6 dX7_within_52 uw_X7 rfl (by decide) 10 rfl rfl (by decide) fl_X7_159 rfl ?_
        refine VS.val (y := nI k) hk ?_
        refine VS.aload_n dX7_within_55 rfl ?_
        refine VS.sgetI 6 dX7_within_56 uw_X7 rfl (by decide) 11 rfl rfl (by decide) fl_X7_162 rfl ?_
        refine VS.val (y := wiB (M 5) L k (M 0 11) lo hi) rfl ?_
        refine VS.if_eq 66 dX7_within_59 (by decide) (fun hh => absurd hh (by first | rw [(wi_n1 h_30 : wiB (M 5) L k (M 0 11) lo hi = 1)] <;> decide | rw [(wi_n2 (ite10.mp h_39) : wiB (M 5) L k (M 0 11) lo hi = 1)] <;> decide)) (fun _ => ?_)
        refine VS.iconst (0) dX7_within_62 rfl ?_
        refine VS.goto 67 dX7_within_63 (by decide) ?_
        refine VS.iadd dX7_within_67 ?_
        refine VS.sput 6 dX7_within_68 uw_X7 tyX7 tyX7_ok nmX7 rfl (by decide) 10 rfl rfl (by decide) fl_X7_159 rfl rfl (rfl) (rfl) ?_
        refine VS.iload_n dX7_within_71 rfl ?_
        refine VS.iload_n dX7_within_72 rfl ?_
        refine VS.isub dX7_within_73 ?_
        exact VS.iret dX7_within_74 (rfl) (shk (by unfold sw2 up2 wiK; rw [upC_upC, upC_at]; first | rw [if_pos (wi_y h_30 (ite11 h_39)), nI_p1] | rw [if_neg (by first | rw [(wi_n1 h_30 : wiB (M 5) L k (M 0 11) lo hi = 1)] <;> decide | rw [(wi_n2 (ite10.mp h_39) : wiB (M 5) L k (M 0 11) lo hi = 1)] <;> decide), nI_p0]))
  · refine VS.aload_n dX7_within_11 rfl ?_
    refine VS.sgetR 6 dX7_within_12 uw_X7 rfl (by decide) 5 rfl rfl (by decide) fl_X7_23 rfl ?_
    refine VS.aload_n dX7_within_15 rfl ?_
    refine VS.sgetI 6 dX7_within_16 uw_X7 rfl (by decide) 10 rfl rfl (by decide) fl_X7_159 rfl ?_
    refine VS.val (y := nI k) hk ?_
    refine VS.siald (k) dX7_within_19 (by decide) rfl (rfl) (Nat.lt_of_lt_of_le (lt_of_nI (by omega) (by omega) h_8) hL2) (by decide) ?_
    refine VS.goto 24 dX7_within_20 (by decide) ?_
    refine VS.val (y := itI (M 5) L k) (by first | exact (if_neg (fun q => nI_ge q (by omega) h_8)).symm | exact (if_pos (lt_of_nI (by omega) (by omega) h_8)).symm) ?_
    refine VS.istore_n dX7_within_24 (by decide) rfl ?_
    refine VS.aload_n dX7_within_25 rfl ?_
    refine VS.aload_n dX7_within_26 rfl ?_
    refine VS.sgetI 6 dX7_within_27 uw_X7 rfl (by decide) 11 rfl rfl (by decide) fl_X7_162 rfl ?_
    refine VS.if_ne 42 dX7_within_30 (by decide) (fun h_30 => ?_) (fun h_30 => ?_)
    · refine VS.iconst (1) dX7_within_42 rfl ?_
      refine VS.goto 47 dX7_within_43 (by decide) ?_
      refine VS.val (y := wiB (M 5) L k (M 0 11) lo hi) (by first | exact (wi_n1 h_30).symm | exact (wi_y (Decidable.byContradiction h_30) (ite11 h_39)).symm | exact (wi_y h_30 (ite11 h_39)).symm | exact (wi_n2 (ite10.mp h_39)).symm) ?_
      refine VS.sput 6 dX7_within_47 uw_X7 tyX7 tyX7_ok nmX7 rfl (by decide) 11 rfl rfl (by decide) fl_X7_162 rfl rfl (by first | rw [(wi_n1 h_30 : wiB (M 5) L k (M 0 11) lo hi = 1)] <;> rfl | rw [(wi_n2 (ite10.mp h_39) : wiB (M 5) L k (M 0 11) lo hi = 1)] <;> rfl | rw [(wi_y h_30 (ite11 h_39) : wiB (M 5) L k (M 0 11) lo hi = 0)] <;> rfl) (by first | rw [(wi_n1 h_30 : wiB (M 5) L k (M 0 11) lo hi = 1)] <;> rfl | rw [(wi_n2 (ite10.mp h_39) : wiB (M 5) L k (M 0 11) lo hi = 1)] <;> rfl | rw [(wi_y h_30 (ite11 h_39) : wiB (M 5) L k (M 0 11) lo hi = 0)] <;> rfl) ?_
      refine VS.aload_n dX7_within_50 rfl ?_
      refine VS.dup dX7_within_51 rfl ?_
      refine VS.sgetI 6 dX7_within_52 uw_X7 rfl (by decide) 10 rfl rfl (by decide) fl_X7_159 rfl ?_
      refine VS.val (y := nI k) hk ?_
      refine VS.aload_n dX7_within_55 rfl ?_
      refine VS.sgetI 6 dX7_within_56 uw_X7 rfl (by decide) 11 rfl rfl (by decide) fl_X7_162 rfl ?_
      refine VS.val (y := wiB (M 5) L k (M 0 11) lo hi) rfl ?_
      refine VS.if_eq 66 dX7_within_59 (by decide) (fun hh => absurd hh (by first | rw [(wi_n1 h_30 : wiB (M 5) L k (M 0 11) lo hi = 1)] <;> decide | rw [(wi_n2 (ite10.mp h_39) : wiB (M 5) L k (M 0 11) lo hi = 1)] <;> decide)) (fun _ => ?_)
      refine VS.iconst (0) dX7_within_62 rfl ?_
      refine VS.goto 67 dX7_within_63 (by decide) ?_
      refine VS.iadd dX7_within_67 ?_
      refine VS.sput 6 dX7_within_68 uw_X7 tyX7 tyX7_ok nmX7 rfl (by decide) 10 rfl rfl (by decide) fl_X7_159 rfl rfl (rfl) (rfl) ?_
      refine VS.iload_n dX7_within_71 rfl ?_
      refine VS.iload_n dX7_within_72 rfl ?_
      refine VS.isub dX7_within_73 ?_
      exact VS.iret dX7_within_74 (rfl) (shk (by unfold sw2 up2 wiK; rw [upC_upC, upC_at]; first | rw [if_pos (wi_y h_30 (ite11 h_39)), nI_p1] | rw [if_neg (by first | rw [(wi_n1 h_30 : wiB (M 5) L k (M 0 11) lo hi = 1)] <;> decide | rw [(wi_n2 (ite10.mp h_39) : wiB (M 5) L k (M 0 11) lo hi = 1)] <;> decide), nI_p0]))
    · refine VS.iload_n dX7_within_33 rfl ?_
      refine VS.iload_n dX7_within_34 rfl ?_
      refine VS.iload_n dX7_within_35 rfl ?_
      refine VS.callN (ct_X7_in l _ _ _) dX7_within_36 mi_X7_in st_X7_in ml_X7_29 (rmOk_D (by decide) (by decide)) (Nat.le_of_ble_eq_true rfl) rfl ?_
      refine VS.if_ne 46 dX7_within_39 (by decide) (fun h_39 => ?_) (fun h_39 => ?_)
      · refine VS.iconst (0) dX7_within_46 rfl ?_
        refine VS.val (y := wiB (M 5) L k (M 0 11) lo hi) (by first | exact (wi_n1 h_30).symm | exact (wi_y (Decidable.byContradiction h_30) (ite11 h_39)).symm | exact (wi_y h_30 (ite11 h_39)).symm | exact (wi_n2 (ite10.mp h_39)).symm) ?_
        refine VS.sput 6 dX7_within_47 uw_X7 tyX7 tyX7_ok nmX7 rfl (by decide) 11 rfl rfl (by decide) fl_X7_162 rfl rfl (by first | rw [(wi_n1 h_30 : wiB (M 5) L k (M 0 11) lo hi = 1)] <;> rfl | rw [(wi_n2 (ite10.mp h_39) : wiB (M 5) L k (M 0 11) lo hi = 1)] <;> rfl | rw [(wi_y h_30 (ite11 h_39) : wiB (M 5) L k (M 0 11) lo hi = 0)] <;> rfl) (by first | rw [(wi_n1 h_30 : wiB (M 5) L k (M 0 11) lo hi = 1)] <;> rfl | rw [(wi_n2 (ite10.mp h_39) : wiB (M 5) L k (M 0 11) lo hi = 1)] <;> rfl | rw [(wi_y h_30 (ite11 h_39) : wiB (M 5) L k (M 0 11) lo hi = 0)] <;> rfl) ?_
        refine VS.aload_n dX7_within_50 rfl ?_
        refine VS.dup dX7_within_51 rfl ?_
        refine VS.sgetI 6 dX7_within_52 uw_X7 rfl (by decide) 10 rfl rfl (by decide) fl_X7_159 rfl ?_
        refine VS.val (y := nI k) hk ?_
        refine VS.aload_n dX7_within_55 rfl ?_
        refine VS.sgetI 6 dX7_within_56 uw_X7 rfl (by decide) 11 rfl rfl (by decide) fl_X7_162 rfl ?_
        refine VS.val (y := wiB (M 5) L k (M 0 11) lo hi) rfl ?_
        refine VS.if_eq 66 dX7_within_59 (by decide) (fun _ => ?_) (fun hh => absurd (wi_y h_30 (ite11 h_39)) hh)
        refine VS.iconst (1) dX7_within_66 rfl ?_
        refine VS.iadd dX7_within_67 ?_
        refine VS.sput 6 dX7_within_68 uw_X7 tyX7 tyX7_ok nmX7 rfl (by decide) 10 rfl rfl (by decide) fl_X7_159 rfl rfl (rfl) (rfl) ?_
        refine VS.iload_n dX7_within_71 rfl ?_
        refine VS.iload_n dX7_within_72 rfl ?_
        refine VS.isub dX7_within_73 ?_
        exact VS.iret dX7_within_74 (rfl) (shk (by unfold sw2 up2 wiK; rw [upC_upC, upC_at]; first | rw [if_pos (wi_y h_30 (ite11 h_39)), nI_p1] | rw [if_neg (by first | rw [(wi_n1 h_30 : wiB (M 5) L k (M 0 11) lo hi = 1)] <;> decide | rw [(wi_n2 (ite10.mp h_39) : wiB (M 5) L k (M 0 11) lo hi = 1)] <;> decide), nI_p0]))
      · refine VS.iconst (1) dX7_within_42 rfl ?_
        refine VS.goto 47 dX7_within_43 (by decide) ?_
        refine VS.val (y := wiB (M 5) L k (M 0 11) lo hi) (by first | exact (wi_n1 h_30).symm | exact (wi_y (Decidable.byContradiction h_30) (ite11 h_39)).symm | exact (wi_y h_30 (ite11 h_39)).symm | exact (wi_n2 (ite10.mp h_39)).symm) ?_
        refine VS.sput 6 dX7_within_47 uw_X7 tyX7 tyX7_ok nmX7 rfl (by decide) 11 rfl rfl (by decide) fl_X7_162 rfl rfl (by first | rw [(wi_n1 h_30 : wiB (M 5) L k (M 0 11) lo hi = 1)] <;> rfl | rw [(wi_n2 (ite10.mp h_39) : wiB (M 5) L k (M 0 11) lo hi = 1)] <;> rfl | rw [(wi_y h_30 (ite11 h_39) : wiB (M 5) L k (M 0 11) lo hi = 0)] <;> rfl) (by first | rw [(wi_n1 h_30 : wiB (M 5) L k (M 0 11) lo hi = 1)] <;> rfl | rw [(wi_n2 (ite10.mp h_39) : wiB (M 5) L k (M 0 11) lo hi = 1)] <;> rfl | rw [(wi_y h_30 (ite11 h_39) : wiB (M 5) L k (M 0 11) lo hi = 0)] <;> rfl) ?_
        refine VS.aload_n dX7_within_50 rfl ?_
        refine VS.dup dX7_within_51 rfl ?_
        refine VS.sgetI 6 dX7_within_52 uw_X7 rfl (by decide) 10 rfl rfl (by decide) fl_X7_159 rfl ?_
        refine VS.val (y := nI k) hk ?_
        refine VS.aload_n dX7_within_55 rfl ?_
        refine VS.sgetI 6 dX7_within_56 uw_X7 rfl (by decide) 11 rfl rfl (by decide) fl_X7_162 rfl ?_
        refine VS.val (y := wiB (M 5) L k (M 0 11) lo hi) rfl ?_
        refine VS.if_eq 66 dX7_within_59 (by decide) (fun hh => absurd hh (by first | rw [(wi_n1 h_30 : wiB (M 5) L k (M 0 11) lo hi = 1)] <;> decide | rw [(wi_n2 (ite10.mp h_39) : wiB (M 5) L k (M 0 11) lo hi = 1)] <;> decide)) (fun _ => ?_)
        refine VS.iconst (0) dX7_within_62 rfl ?_
        refine VS.goto 67 dX7_within_63 (by decide) ?_
        refine VS.iadd dX7_within_67 ?_
        refine VS.sput 6 dX7_within_68 uw_X7 tyX7 tyX7_ok nmX7 rfl (by decide) 10 rfl rfl (by decide) fl_X7_159 rfl rfl (rfl) (rfl) ?_
        refine VS.iload_n dX7_within_71 rfl ?_
        refine VS.iload_n dX7_within_72 rfl ?_
        refine VS.isub dX7_within_73 ?_
        exact VS.iret dX7_within_74 (rfl) (shk (by unfold sw2 up2 wiK; rw [upC_upC, upC_at]; first | rw [if_pos (wi_y h_30 (ite11 h_39)), nI_p1] | rw [if_neg (by first | rw [(wi_n1 h_30 : wiB (M 5) L k (M 0 11) lo hi = 1)] <;> decide | rw [(wi_n2 (ite10.mp h_39) : wiB (M 5) L k (M 0 11) lo hi = 1)] <;> decide), nI_p0]))
theorem wiK_le {P : Nat → Int32} {L k : Nat} {w lo hi : Int32} (h : k ≤ L) (hlo : 0 < lo) : wiK k (wiB P L k w lo hi) ≤ L := by
  unfold wiK; split
  · rename_i q
    unfold wiB at q
    by_cases h2 : k < L
    · exact h2
    · have e : itI P L k = 0 := if_neg h2
      rw [if_neg (fun z => by rw [e] at z; exact absurd (Int32.lt_of_lt_of_le hlo z.2.1) (by decide : ¬ (0 : Int32) < 0))] at q
      exact absurd q (by decide)
  · exact h
def oF0 (f : Nat → Int32) (k : Nat) (w sg : Int32) : Nat → Int32 := fun j => if j = 10 then nI k else if j = 11 then w else if j = 12 then sg else f j
def oF1 (f : Nat → Int32) (k : Nat) (w sg dg : Int32) : Nat → Int32 := fun j => if j = 13 then dg else oF0 f k w sg j
def oF2 (f : Nat → Int32) (k : Nat) (w sg dg fi : Int32) : Nat → Int32 := fun j => if j = 14 then fi else oF1 f k w sg dg j
def oF3 (f : Nat → Int32) (k : Nat) (w sg dg fi se : Int32) : Nat → Int32 := fun j => if j = 15 then se else oF2 f k w sg dg fi j
def od0 (M : SS) (k : Nat) (w sg : Int32) : SS := upC M 0 (oF0 (M 0) k w sg)
def od1 (M : SS) (k : Nat) (w sg dg : Int32) : SS := upC M 0 (oF1 (M 0) k w sg dg)
def od2 (M : SS) (k : Nat) (w sg dg fi : Int32) : SS := upC M 0 (oF2 (M 0) k w sg dg fi)
def od3 (M : SS) (k : Nat) (w sg dg fi se : Int32) : SS := upC M 0 (oF3 (M 0) k w sg dg fi se)
theorem od0_of (M : SS) (k : Nat) (w sg : Int32) : up2 (up2 (up2 M 0 12 sg) 0 11 w) 0 10 (nI k) = od0 M k w sg := by
  unfold od0 up2
  simp only [upC_upC, upC_at]
  congr 1
theorem od1_of (M : SS) (k : Nat) (w sg dg : Int32) : up2 (od0 M k w sg) 0 13 dg = od1 M k w sg dg := by
  unfold od0 od1 up2
  rw [upC_upC, upC_at]
  rfl
theorem od2_of (M : SS) (k : Nat) (w sg dg fi : Int32) : up2 (od1 M k w sg dg) 0 14 fi = od2 M k w sg dg fi := by
  unfold od1 od2 up2
  rw [upC_upC, upC_at]
  rfl
theorem od3_of (M : SS) (k : Nat) (w sg dg fi se : Int32) : up2 (od2 M k w sg dg fi) 0 15 se = od3 M k w sg dg fi se := by
  unfold od2 od3 up2
  rw [upC_upC, upC_at]
  rfl
theorem oF0_w (f : Nat → Int32) (k k2 : Nat) (w w2 sg : Int32) : upd (upd (oF0 f k w sg) 11 w2) 10 (nI k2) = oF0 f k2 w2 sg := by
  funext j; unfold upd oF0
  by_cases h : j = 10
  · rw [if_pos h, if_pos h]
  · rw [if_neg h, if_neg h]
    by_cases h1 : j = 11
    · simp [h1]
    · simp [h, h1]
theorem sw_od0 (M : SS) (k k2 : Nat) (w w2 sg : Int32) : sw2 (od0 M k w sg) k2 w2 = od0 M k2 w2 sg := by
  unfold sw2 od0
  rw [upC_upC, upC_at, oF0_w]
theorem oF1_w (f : Nat → Int32) (k k2 : Nat) (w w2 sg dg : Int32) : upd (upd (oF1 f k w sg dg) 11 w2) 10 (nI k2) = oF1 f k2 w2 sg dg := by
  funext j
  rw [show oF1 f k2 w2 sg dg j = if j = 13 then dg else oF0 f k2 w2 sg j from rfl, ← oF0_w f k k2 w w2 sg]
  unfold upd oF1
  by_cases h : j = 13
  · subst h; simp
  · simp [h]
theorem sw_od1 (M : SS) (k k2 : Nat) (w w2 sg dg : Int32) : sw2 (od1 M k w sg dg) k2 w2 = od1 M k2 w2 sg dg := by
  unfold sw2 od1
  rw [upC_upC, upC_at, oF1_w]
theorem oF2_w (f : Nat → Int32) (k k2 : Nat) (w w2 sg dg fi : Int32) : upd (upd (oF2 f k w sg dg fi) 11 w2) 10 (nI k2) = oF2 f k2 w2 sg dg fi := by
  funext j
  rw [show oF2 f k2 w2 sg dg fi j = if j = 14 then fi else oF1 f k2 w2 sg dg j from rfl, ← oF1_w f k k2 w w2 sg]
  unfold upd oF2
  by_cases h : j = 14
  · subst h; simp
  · simp [h]
theorem sw_od2 (M : SS) (k k2 : Nat) (w w2 sg dg fi : Int32) : sw2 (od2 M k w sg dg fi) k2 w2 = od2 M k2 w2 sg dg fi := by
  unfold sw2 od2
  rw [upC_upC, upC_at, oF2_w]
set_option maxRecDepth 100000 in
set_option maxHeartbeats 4000000 in
theorem ct_X7_order_114 (l : Launch) (M : SS)  {k L : Nat} (hk : M 0 10 = nI k) (hL : M 0 6 = nI L) (hL2 : L ≤ 80) (hkL : k < L) (hw : M 0 11 = 0) (hg : M 5 k = 114) : CtS l yX7_order cX7_order 3 none (rmD 2) [.ref 0] 7 shM M (none) (od3 M (wiK (wiK (k + 1) (wiB (M 5) L (k + 1) 0 97 104)) (wiB (M 5) L (wiK (k + 1) (wiB (M 5) L (k + 1) 0 97 104)) (wiB (M 5) L (k + 1) 0 97 104) 97 104)) (wiB (M 5) L (wiK (k + 1) (wiB (M 5) L (k + 1) 0 97 104)) (wiB (M 5) L (k + 1) 0 97 104) 97 104) 114 0 (itI (M 5) L (k + 1) - 97) (itI (M 5) L (wiK (k + 1) (wiB (M 5) L (k + 1) 0 97 104)) - 97)) := by
  refine CtF.of (own := RX7) [some (.ref 0), none, none] (by decide +kernel) rfl (fun _ => Nat.le_of_ble_eq_true rfl) (fun _ => rfl) ?_
  refine VS.aload_n dX7_order_0 rfl ?_
  refine VS.aload_n dX7_order_1 rfl ?_
  refine VS.sgetI 6 dX7_order_2 uw_X7 rfl (by decide) 11 rfl rfl (by decide) fl_X7_162 rfl ?_
  refine VS.if_ne 19 dX7_order_5 (by decide) (fun hh => absurd (hw) hh) (fun _ => ?_)
  refine VS.aload_n dX7_order_8 rfl ?_
  refine VS.sgetI 6 dX7_order_9 uw_X7 rfl (by decide) 10 rfl rfl (by decide) fl_X7_159 rfl ?_
  refine VS.val (y := nI k) hk ?_
  refine VS.aload_n dX7_order_12 rfl ?_
  refine VS.sgetI 6 dX7_order_13 uw_X7 rfl (by decide) 6 rfl rfl (by decide) fl_X7_151 rfl ?_
  refine VS.val (y := nI L) hL ?_
  refine VS.icmp_ne 23 dX7_order_16 (by decide) (fun _ => ?_) (fun hh => absurd hh (fun q => absurd ((nI_eq (by omega) (by omega)).mp q) (by omega)))
  refine VS.aload_n dX7_order_23 rfl ?_
  refine VS.sgetR 6 dX7_order_24 uw_X7 rfl (by decide) 5 rfl rfl (by decide) fl_X7_23 rfl ?_
  refine VS.aload_n dX7_order_27 rfl ?_
  refine VS.sgetI 6 dX7_order_28 uw_X7 rfl (by decide) 10 rfl rfl (by decide) fl_X7_159 rfl ?_
  refine VS.val (y := nI k) hk ?_
  refine VS.siald (k) dX7_order_31 (by decide) rfl (rfl) (by omega) (by decide) ?_
  refine VS.val (y := 114) hg ?_
  refine VS.sput 6 dX7_order_32 uw_X7 tyX7 tyX7_ok nmX7 rfl (by decide) 12 rfl rfl (by decide) fl_X7_166 rfl rfl (rfl) (rfl) ?_
  refine VS.aload_n dX7_order_35 rfl ?_
  refine VS.sgetI 6 dX7_order_36 uw_X7 rfl (by decide) 12 rfl rfl (by decide) fl_X7_166 rfl ?_
  refine VS.val (y := 114) rfl ?_
  refine VS.bipush (114) dX7_order_39 rfl ?_
  refine VS.icmp_eq 71 dX7_order_41 (by decide) (fun _ => ?_) (fun hh => absurd (rfl) hh)
  refine VS.iconst (1) dX7_order_71 rfl ?_
  refine VS.goto 76 dX7_order_72 (by decide) ?_
  refine VS.istore_n dX7_order_76 (by decide) rfl ?_
  refine VS.iload_n dX7_order_77 rfl ?_
  refine VS.if_ne 99 dX7_order_78 (by decide) (fun _ => ?_) (fun hh => absurd hh (by decide))
  refine VS.iconst (1) dX7_order_99 rfl ?_
  refine VS.goto 104 dX7_order_100 (by decide) ?_
  refine VS.istore_n dX7_order_104 (by decide) rfl ?_
  refine VS.aload_n dX7_order_105 rfl ?_
  refine VS.aload_n dX7_order_106 rfl ?_
  refine VS.sgetI 6 dX7_order_107 uw_X7 rfl (by decide) 11 rfl rfl (by decide) fl_X7_162 rfl ?_
  refine VS.if_ne 135 dX7_order_110 (by decide) (fun hh => absurd (hw) hh) (fun _ => ?_)
  refine VS.iload_n dX7_order_113 rfl ?_
  refine VS.if_ne 139 dX7_order_114 (by decide) (fun _ => ?_) (fun hh => absurd hh (by decide))
  refine VS.iconst (0) dX7_order_139 rfl ?_
  refine VS.sput 6 dX7_order_140 uw_X7 tyX7 tyX7_ok nmX7 rfl (by decide) 11 rfl rfl (by decide) fl_X7_162 rfl rfl (rfl) (rfl) ?_
  refine VS.aload_n dX7_order_143 rfl ?_
  refine VS.dup dX7_order_144 rfl ?_
  refine VS.sgetI 6 dX7_order_145 uw_X7 rfl (by decide) 10 rfl rfl (by decide) fl_X7_159 rfl ?_
  refine VS.val (y := nI k) hk ?_
  refine VS.aload_n dX7_order_148 rfl ?_
  refine VS.sgetI 6 dX7_order_149 uw_X7 rfl (by decide) 11 rfl rfl (by decide) fl_X7_162 rfl ?_
  refine VS.if_eq 159 dX7_order_152 (by decide) (fun _ => ?_) (fun hh => absurd (rfl) hh)
  refine VS.iconst (1) dX7_order_159 rfl ?_
  refine VS.iadd dX7_order_160 ?_
  refine VS.val (y := nI (k + 1)) (nI_p1 k) ?_
  refine VS.sput 6 dX7_order_161 uw_X7 tyX7 tyX7_ok nmX7 rfl (by decide) 10 rfl rfl (by decide) fl_X7_159 rfl rfl (rfl) (rfl) ?_
  refine VS.stt (S2 := od0 M (k + 1) 0 114) (od0_of M (k + 1) 0 114) ?_
  refine VS.aload_n dX7_order_164 rfl ?_
  refine VS.aload_n dX7_order_165 rfl ?_
  refine VS.sgetI 6 dX7_order_166 uw_X7 rfl (by decide) 12 rfl rfl (by decide) fl_X7_166 rfl ?_
  refine VS.val (y := 114) rfl ?_
  refine VS.bipush (99) dX7_order_169 rfl ?_
  refine VS.icmp_ne 185 dX7_order_171 (by decide) (fun _ => ?_) (fun hh => absurd hh (by decide))
  refine VS.iconst (0) dX7_order_185 rfl ?_
  refine VS.sput 6 dX7_order_186 uw_X7 tyX7 tyX7_ok nmX7 rfl (by decide) 13 rfl rfl (by decide) fl_X7_172 rfl rfl (rfl) (rfl) ?_
  refine VS.stt (S2 := od1 M (k + 1) (0) 114 0) (od1_of M _ _ _ _) ?_
  refine VS.aload_n dX7_order_189 rfl ?_
  refine VS.iload_n dX7_order_190 rfl ?_
  refine VS.if_eq 205 dX7_order_191 (by decide) (fun hh => absurd hh (by decide)) (fun _ => ?_)
  refine VS.aload_n dX7_order_194 rfl ?_
  refine VS.bipush (97) dX7_order_195 rfl ?_
  refine VS.bipush (104) dX7_order_197 rfl ?_
  refine VS.callT (ct_X7_within l (od1 M (k + 1) (0) 114 0) _ _ (k := k + 1) (L := L) rfl hL hL2 (by omega)) dX7_order_199 mi_X7_within im_X7_within sel_X7_within ml_X7_169 (by decide) rfl rfl (rmOk_D (by decide) (by decide)) (Nat.le_of_ble_eq_true rfl) rfl ?_
  refine VS.stt (S2 := od1 M (wiK (k + 1) (wiB (M 5) L (k + 1) 0 97 104)) (wiB (M 5) L (k + 1) 0 97 104) 114 0) (sw_od1 _ _ _ _ _ _ _) ?_
  refine VS.val (y := (itI (M 5) L (k + 1) - 97)) rfl ?_
  refine VS.goto 206 dX7_order_202 (by decide) ?_
  refine VS.sput 6 dX7_order_206 uw_X7 tyX7 tyX7_ok nmX7 rfl (by decide) 14 rfl rfl (by decide) fl_X7_175 rfl rfl (rfl) (rfl) ?_
  refine VS.stt (S2 := od2 M (wiK (k + 1) (wiB (M 5) L (k + 1) 0 97 104)) (wiB (M 5) L (k + 1) 0 97 104) 114 0 (itI (M 5) L (k + 1) - 97)) (od2_of M _ _ _ _ _) ?_
  refine VS.aload_n dX7_order_209 rfl ?_
  refine VS.iload_n dX7_order_210 rfl ?_
  refine VS.if_eq 225 dX7_order_211 (by decide) (fun hh => absurd hh (by decide)) (fun _ => ?_)
  refine VS.aload_n dX7_order_214 rfl ?_
  refine VS.bipush (97) dX7_order_215 rfl ?_
  refine VS.bipush (104) dX7_order_217 rfl ?_
  refine VS.callT (ct_X7_within l (od2 M (wiK (k + 1) (wiB (M 5) L (k + 1) 0 97 104)) (wiB (M 5) L (k + 1) 0 97 104) 114 0 (itI (M 5) L (k + 1) - 97)) _ _ (k := wiK (k + 1) (wiB (M 5) L (k + 1) 0 97 104)) (L := L) rfl hL hL2 (Nat.le_trans (wiK_le (by omega) (by decide)) hL2)) dX7_order_219 mi_X7_within im_X7_within sel_X7_within ml_X7_169 (by decide) rfl rfl (rmOk_D (by decide) (by decide)) (Nat.le_of_ble_eq_true rfl) rfl ?_
  refine VS.stt (S2 := od2 M (wiK (wiK (k + 1) (wiB (M 5) L (k + 1) 0 97 104)) (wiB (M 5) L (wiK (k + 1) (wiB (M 5) L (k + 1) 0 97 104)) (wiB (M 5) L (k + 1) 0 97 104) 97 104)) (wiB (M 5) L (wiK (k + 1) (wiB (M 5) L (k + 1) 0 97 104)) (wiB (M 5) L (k + 1) 0 97 104) 97 104) 114 0 (itI (M 5) L (k + 1) - 97)) (sw_od2 _ _ _ _ _ _ _ _) ?_
  refine VS.val (y := (itI (M 5) L (wiK (k + 1) (wiB (M 5) L (k + 1) 0 97 104)) - 97)) rfl ?_
  refine VS.goto 226 dX7_order_222 (by decide) ?_
  refine VS.sput 6 dX7_order_226 uw_X7 tyX7 tyX7_ok nmX7 rfl (by decide) 15 rfl rfl (by decide) fl_X7_178 rfl rfl (rfl) (rfl) ?_
  refine VS.stt (S2 := od3 M (wiK (wiK (k + 1) (wiB (M 5) L (k + 1) 0 97 104)) (wiB (M 5) L (wiK (k + 1) (wiB (M 5) L (k + 1) 0 97 104)) (wiB (M 5) L (k + 1) 0 97 104) 97 104)) (wiB (M 5) L (wiK (k + 1) (wiB (M 5) L (k + 1) 0 97 104)) (wiB (M 5) L (k + 1) 0 97 104) 97 104) 114 0 (itI (M 5) L (k + 1) - 97) (itI (M 5) L (wiK (k + 1) (wiB (M 5) L (k + 1) 0 97 104)) - 97)) (od3_of M _ _ _ _ _ _) ?_
  exact VS.vret dX7_order_229 rfl (shk rfl)
set_option maxRecDepth 100000 in
set_option maxHeartbeats 4000000 in
theorem ct_X7_order_43 (l : Launch) (M : SS)  {k L : Nat} (hk : M 0 10 = nI k) (hL : M 0 6 = nI L) (hL2 : L ≤ 80) (hkL : k < L) (hw : M 0 11 = 0) (hg : M 5 k = 43) : CtS l yX7_order cX7_order 3 none (rmD 2) [.ref 0] 7 shM M (none) (od3 M (wiK (wiK (k + 1) (wiB (M 5) L (k + 1) 0 97 104)) (wiB (M 5) L (wiK (k + 1) (wiB (M 5) L (k + 1) 0 97 104)) (wiB (M 5) L (k + 1) 0 97 104) 97 104)) (wiB (M 5) L (wiK (k + 1) (wiB (M 5) L (k + 1) 0 97 104)) (wiB (M 5) L (k + 1) 0 97 104) 97 104) 43 0 (itI (M 5) L (k + 1) - 97) (itI (M 5) L (wiK (k + 1) (wiB (M 5) L (k + 1) 0 97 104)) - 97)) := by
  refine CtF.of (own := RX7) [some (.ref 0), none, none] (by decide +kernel) rfl (fun _ => Nat.le_of_ble_eq_true rfl) (fun _ => rfl) ?_
  refine VS.aload_n dX7_order_0 rfl ?_
  refine VS.aload_n dX7_order_1 rfl ?_
  refine VS.sgetI 6 dX7_order_2 uw_X7 rfl (by decide) 11 rfl rfl (by decide) fl_X7_162 rfl ?_
  refine VS.if_ne 19 dX7_order_5 (by decide) (fun hh => absurd (hw) hh) (fun _ => ?_)
  refine VS.aload_n dX7_order_8 rfl ?_
  refine VS.sgetI 6 dX7_order_9 uw_X7 rfl (by decide) 10 rfl rfl (by decide) fl_X7_159 rfl ?_
  refine VS.val (y := nI k) hk ?_
  refine VS.aload_n dX7_order_12 rfl ?_
  refine VS.sgetI 6 dX7_order_13 uw_X7 rfl (by decide) 6 rfl rfl (by decide) fl_X7_151 rfl ?_
  refine VS.val (y := nI L) hL ?_
  refine VS.icmp_ne 23 dX7_order_16 (by decide) (fun _ => ?_) (fun hh => absurd hh (fun q => absurd ((nI_eq (by omega) (by omega)).mp q) (by omega)))
  refine VS.aload_n dX7_order_23 rfl ?_
  refine VS.sgetR 6 dX7_order_24 uw_X7 rfl (by decide) 5 rfl rfl (by decide) fl_X7_23 rfl ?_
  refine VS.aload_n dX7_order_27 rfl ?_
  refine VS.sgetI 6 dX7_order_28 uw_X7 rfl (by decide) 10 rfl rfl (by decide) fl_X7_159 rfl ?_
  refine VS.val (y := nI k) hk ?_
  refine VS.siald (k) dX7_order_31 (by decide) rfl (rfl) (by omega) (by decide) ?_
  refine VS.val (y := 43) hg ?_
  refine VS.sput 6 dX7_order_32 uw_X7 tyX7 tyX7_ok nmX7 rfl (by decide) 12 rfl rfl (by decide) fl_X7_166 rfl rfl (rfl) (rfl) ?_
  refine VS.aload_n dX7_order_35 rfl ?_
  refine VS.sgetI 6 dX7_order_36 uw_X7 rfl (by decide) 12 rfl rfl (by decide) fl_X7_166 rfl ?_
  refine VS.val (y := 43) rfl ?_
  refine VS.bipush (114) dX7_order_39 rfl ?_
  refine VS.icmp_eq 71 dX7_order_41 (by decide) (fun hh => absurd hh (by decide)) (fun _ => ?_)
  refine VS.aload_n dX7_order_44 rfl ?_
  refine VS.sgetI 6 dX7_order_45 uw_X7 rfl (by decide) 12 rfl rfl (by decide) fl_X7_166 rfl ?_
  refine VS.val (y := 43) rfl ?_
  refine VS.bipush (43) dX7_order_48 rfl ?_
  refine VS.icmp_eq 71 dX7_order_50 (by decide) (fun _ => ?_) (fun hh => absurd (rfl) hh)
  refine VS.iconst (1) dX7_order_71 rfl ?_
  refine VS.goto 76 dX7_order_72 (by decide) ?_
  refine VS.istore_n dX7_order_76 (by decide) rfl ?_
  refine VS.iload_n dX7_order_77 rfl ?_
  refine VS.if_ne 99 dX7_order_78 (by decide) (fun _ => ?_) (fun hh => absurd hh (by decide))
  refine VS.iconst (1) dX7_order_99 rfl ?_
  refine VS.goto 104 dX7_order_100 (by decide) ?_
  refine VS.istore_n dX7_order_104 (by decide) rfl ?_
  refine VS.aload_n dX7_order_105 rfl ?_
  refine VS.aload_n dX7_order_106 rfl ?_
  refine VS.sgetI 6 dX7_order_107 uw_X7 rfl (by decide) 11 rfl rfl (by decide) fl_X7_162 rfl ?_
  refine VS.if_ne 135 dX7_order_110 (by decide) (fun hh => absurd (hw) hh) (fun _ => ?_)
  refine VS.iload_n dX7_order_113 rfl ?_
  refine VS.if_ne 139 dX7_order_114 (by decide) (fun _ => ?_) (fun hh => absurd hh (by decide))
  refine VS.iconst (0) dX7_order_139 rfl ?_
  refine VS.sput 6 dX7_order_140 uw_X7 tyX7 tyX7_ok nmX7 rfl (by decide) 11 rfl rfl (by decide) fl_X7_162 rfl rfl (rfl) (rfl) ?_
  refine VS.aload_n dX7_order_143 rfl ?_
  refine VS.dup dX7_order_144 rfl ?_
  refine VS.sgetI 6 dX7_order_145 uw_X7 rfl (by decide) 10 rfl rfl (by decide) fl_X7_159 rfl ?_
  refine VS.val (y := nI k) hk ?_
  refine VS.aload_n dX7_order_148 rfl ?_
  refine VS.sgetI 6 dX7_order_149 uw_X7 rfl (by decide) 11 rfl rfl (by decide) fl_X7_162 rfl ?_
  refine VS.if_eq 159 dX7_order_152 (by decide) (fun _ => ?_) (fun hh => absurd (rfl) hh)
  refine VS.iconst (1) dX7_order_159 rfl ?_
  refine VS.iadd dX7_order_160 ?_
  refine VS.val (y := nI (k + 1)) (nI_p1 k) ?_
  refine VS.sput 6 dX7_order_161 uw_X7 tyX7 tyX7_ok nmX7 rfl (by decide) 10 rfl rfl (by decide) fl_X7_159 rfl rfl (rfl) (rfl) ?_
  refine VS.stt (S2 := od0 M (k + 1) 0 43) (od0_of M (k + 1) 0 43) ?_
  refine VS.aload_n dX7_order_164 rfl ?_
  refine VS.aload_n dX7_order_165 rfl ?_
  refine VS.sgetI 6 dX7_order_166 uw_X7 rfl (by decide) 12 rfl rfl (by decide) fl_X7_166 rfl ?_
  refine VS.val (y := 43) rfl ?_
  refine VS.bipush (99) dX7_order_169 rfl ?_
  refine VS.icmp_ne 185 dX7_order_171 (by decide) (fun _ => ?_) (fun hh => absurd hh (by decide))
  refine VS.iconst (0) dX7_order_185 rfl ?_
  refine VS.sput 6 dX7_order_186 uw_X7 tyX7 tyX7_ok nmX7 rfl (by decide) 13 rfl rfl (by decide) fl_X7_172 rfl rfl (rfl) (rfl) ?_
  refine VS.stt (S2 := od1 M (k + 1) (0) 43 0) (od1_of M _ _ _ _) ?_
  refine VS.aload_n dX7_order_189 rfl ?_
  refine VS.iload_n dX7_order_190 rfl ?_
  refine VS.if_eq 205 dX7_order_191 (by decide) (fun hh => absurd hh (by decide)) (fun _ => ?_)
  refine VS.aload_n dX7_order_194 rfl ?_
  refine VS.bipush (97) dX7_order_195 rfl ?_
  refine VS.bipush (104) dX7_order_197 rfl ?_
  refine VS.callT (ct_X7_within l (od1 M (k + 1) (0) 43 0) _ _ (k := k + 1) (L := L) rfl hL hL2 (by omega)) dX7_order_199 mi_X7_within im_X7_within sel_X7_within ml_X7_169 (by decide) rfl rfl (rmOk_D (by decide) (by decide)) (Nat.le_of_ble_eq_true rfl) rfl ?_
  refine VS.stt (S2 := od1 M (wiK (k + 1) (wiB (M 5) L (k + 1) 0 97 104)) (wiB (M 5) L (k + 1) 0 97 104) 43 0) (sw_od1 _ _ _ _ _ _ _) ?_
  refine VS.val (y := (itI (M 5) L (k + 1) - 97)) rfl ?_
  refine VS.goto 206 dX7_order_202 (by decide) ?_
  refine VS.sput 6 dX7_order_206 uw_X7 tyX7 tyX7_ok nmX7 rfl (by decide) 14 rfl rfl (by decide) fl_X7_175 rfl rfl (rfl) (rfl) ?_
  refine VS.stt (S2 := od2 M (wiK (k + 1) (wiB (M 5) L (k + 1) 0 97 104)) (wiB (M 5) L (k + 1) 0 97 104) 43 0 (itI (M 5) L (k + 1) - 97)) (od2_of M _ _ _ _ _) ?_
  refine VS.aload_n dX7_order_209 rfl ?_
  refine VS.iload_n dX7_order_210 rfl ?_
  refine VS.if_eq 225 dX7_order_211 (by decide) (fun hh => absurd hh (by decide)) (fun _ => ?_)
  refine VS.aload_n dX7_order_214 rfl ?_
  refine VS.bipush (97) dX7_order_215 rfl ?_
  refine VS.bipush (104) dX7_order_217 rfl ?_
  refine VS.callT (ct_X7_within l (od2 M (wiK (k + 1) (wiB (M 5) L (k + 1) 0 97 104)) (wiB (M 5) L (k + 1) 0 97 104) 43 0 (itI (M 5) L (k + 1) - 97)) _ _ (k := wiK (k + 1) (wiB (M 5) L (k + 1) 0 97 104)) (L := L) rfl hL hL2 (Nat.le_trans (wiK_le (by omega) (by decide)) hL2)) dX7_order_219 mi_X7_within im_X7_within sel_X7_within ml_X7_169 (by decide) rfl rfl (rmOk_D (by decide) (by decide)) (Nat.le_of_ble_eq_true rfl) rfl ?_
  refine VS.stt (S2 := od2 M (wiK (wiK (k + 1) (wiB (M 5) L (k + 1) 0 97 104)) (wiB (M 5) L (wiK (k + 1) (wiB (M 5) L (k + 1) 0 97 104)) (wiB (M 5) L (k + 1) 0 97 104) 97 104)) (wiB (M 5) L (wiK (k + 1) (wiB (M 5) L (k + 1) 0 97 104)) (wiB (M 5) L (k + 1) 0 97 104) 97 104) 43 0 (itI (M 5) L (k + 1) - 97)) (sw_od2 _ _ _ _ _ _ _ _) ?_
  refine VS.val (y := (itI (M 5) L (wiK (k + 1) (wiB (M 5) L (k + 1) 0 97 104)) - 97)) rfl ?_
  refine VS.goto 226 dX7_order_222 (by decide) ?_
  refine VS.sput 6 dX7_order_226 uw_X7 tyX7 tyX7_ok nmX7 rfl (by decide) 15 rfl rfl (by decide) fl_X7_178 rfl rfl (rfl) (rfl) ?_
  refine VS.stt (S2 := od3 M (wiK (wiK (k + 1) (wiB (M 5) L (k + 1) 0 97 104)) (wiB (M 5) L (wiK (k + 1) (wiB (M 5) L (k + 1) 0 97 104)) (wiB (M 5) L (k + 1) 0 97 104) 97 104)) (wiB (M 5) L (wiK (k + 1) (wiB (M 5) L (k + 1) 0 97 104)) (wiB (M 5) L (k + 1) 0 97 104) 97 104) 43 0 (itI (M 5) L (k + 1) - 97) (itI (M 5) L (wiK (k + 1) (wiB (M 5) L (k + 1) 0 97 104)) - 97)) (od3_of M _ _ _ _ _ _) ?_
  exact VS.vret dX7_order_229 rfl (shk rfl)
set_option maxRecDepth 100000 in
set_option maxHeartbeats 4000000 in
theorem ct_X7_order_45 (l : Launch) (M : SS)  {k L : Nat} (hk : M 0 10 = nI k) (hL : M 0 6 = nI L) (hL2 : L ≤ 80) (hkL : k < L) (hw : M 0 11 = 0) (hg : M 5 k = 45) : CtS l yX7_order cX7_order 3 none (rmD 2) [.ref 0] 7 shM M (none) (od3 M (wiK (wiK (k + 1) (wiB (M 5) L (k + 1) 0 97 104)) (wiB (M 5) L (wiK (k + 1) (wiB (M 5) L (k + 1) 0 97 104)) (wiB (M 5) L (k + 1) 0 97 104) 97 104)) (wiB (M 5) L (wiK (k + 1) (wiB (M 5) L (k + 1) 0 97 104)) (wiB (M 5) L (k + 1) 0 97 104) 97 104) 45 0 (itI (M 5) L (k + 1) - 97) (itI (M 5) L (wiK (k + 1) (wiB (M 5) L (k + 1) 0 97 104)) - 97)) := by
  refine CtF.of (own := RX7) [some (.ref 0), none, none] (by decide +kernel) rfl (fun _ => Nat.le_of_ble_eq_true rfl) (fun _ => rfl) ?_
  refine VS.aload_n dX7_order_0 rfl ?_
  refine VS.aload_n dX7_order_1 rfl ?_
  refine VS.sgetI 6 dX7_order_2 uw_X7 rfl (by decide) 11 rfl rfl (by decide) fl_X7_162 rfl ?_
  refine VS.if_ne 19 dX7_order_5 (by decide) (fun hh => absurd (hw) hh) (fun _ => ?_)
  refine VS.aload_n dX7_order_8 rfl ?_
  refine VS.sgetI 6 dX7_order_9 uw_X7 rfl (by decide) 10 rfl rfl (by decide) fl_X7_159 rfl ?_
  refine VS.val (y := nI k) hk ?_
  refine VS.aload_n dX7_order_12 rfl ?_
  refine VS.sgetI 6 dX7_order_13 uw_X7 rfl (by decide) 6 rfl rfl (by decide) fl_X7_151 rfl ?_
  refine VS.val (y := nI L) hL ?_
  refine VS.icmp_ne 23 dX7_order_16 (by decide) (fun _ => ?_) (fun hh => absurd hh (fun q => absurd ((nI_eq (by omega) (by omega)).mp q) (by omega)))
  refine VS.aload_n dX7_order_23 rfl ?_
  refine VS.sgetR 6 dX7_order_24 uw_X7 rfl (by decide) 5 rfl rfl (by decide) fl_X7_23 rfl ?_
  refine VS.aload_n dX7_order_27 rfl ?_
  refine VS.sgetI 6 dX7_order_28 uw_X7 rfl (by decide) 10 rfl rfl (by decide) fl_X7_159 rfl ?_
  refine VS.val (y := nI k) hk ?_
  refine VS.siald (k) dX7_order_31 (by decide) rfl (rfl) (by omega) (by decide) ?_
  refine VS.val (y := 45) hg ?_
  refine VS.sput 6 dX7_order_32 uw_X7 tyX7 tyX7_ok nmX7 rfl (by decide) 12 rfl rfl (by decide) fl_X7_166 rfl rfl (rfl) (rfl) ?_
  refine VS.aload_n dX7_order_35 rfl ?_
  refine VS.sgetI 6 dX7_order_36 uw_X7 rfl (by decide) 12 rfl rfl (by decide) fl_X7_166 rfl ?_
  refine VS.val (y := 45) rfl ?_
  refine VS.bipush (114) dX7_order_39 rfl ?_
  refine VS.icmp_eq 71 dX7_order_41 (by decide) (fun hh => absurd hh (by decide)) (fun _ => ?_)
  refine VS.aload_n dX7_order_44 rfl ?_
  refine VS.sgetI 6 dX7_order_45 uw_X7 rfl (by decide) 12 rfl rfl (by decide) fl_X7_166 rfl ?_
  refine VS.val (y := 45) rfl ?_
  refine VS.bipush (43) dX7_order_48 rfl ?_
  refine VS.icmp_eq 71 dX7_order_50 (by decide) (fun hh => absurd hh (by decide)) (fun _ => ?_)
  refine VS.aload_n dX7_order_53 rfl ?_
  refine VS.sgetI 6 dX7_order_54 uw_X7 rfl (by decide) 12 rfl rfl (by decide) fl_X7_166 rfl ?_
  refine VS.val (y := 45) rfl ?_
  refine VS.bipush (45) dX7_order_57 rfl ?_
  refine VS.icmp_eq 71 dX7_order_59 (by decide) (fun _ => ?_) (fun hh => absurd (rfl) hh)
  refine VS.iconst (1) dX7_order_71 rfl ?_
  refine VS.goto 76 dX7_order_72 (by decide) ?_
  refine VS.istore_n dX7_order_76 (by decide) rfl ?_
  refine VS.iload_n dX7_order_77 rfl ?_
  refine VS.if_ne 99 dX7_order_78 (by decide) (fun _ => ?_) (fun hh => absurd hh (by decide))
  refine VS.iconst (1) dX7_order_99 rfl ?_
  refine VS.goto 104 dX7_order_100 (by decide) ?_
  refine VS.istore_n dX7_order_104 (by decide) rfl ?_
  refine VS.aload_n dX7_order_105 rfl ?_
  refine VS.aload_n dX7_order_106 rfl ?_
  refine VS.sgetI 6 dX7_order_107 uw_X7 rfl (by decide) 11 rfl rfl (by decide) fl_X7_162 rfl ?_
  refine VS.if_ne 135 dX7_order_110 (by decide) (fun hh => absurd (hw) hh) (fun _ => ?_)
  refine VS.iload_n dX7_order_113 rfl ?_
  refine VS.if_ne 139 dX7_order_114 (by decide) (fun _ => ?_) (fun hh => absurd hh (by decide))
  refine VS.iconst (0) dX7_order_139 rfl ?_
  refine VS.sput 6 dX7_order_140 uw_X7 tyX7 tyX7_ok nmX7 rfl (by decide) 11 rfl rfl (by decide) fl_X7_162 rfl rfl (rfl) (rfl) ?_
  refine VS.aload_n dX7_order_143 rfl ?_
  refine VS.dup dX7_order_144 rfl ?_
  refine VS.sgetI 6 dX7_order_145 uw_X7 rfl (by decide) 10 rfl rfl (by decide) fl_X7_159 rfl ?_
  refine VS.val (y := nI k) hk ?_
  refine VS.aload_n dX7_order_148 rfl ?_
  refine VS.sgetI 6 dX7_order_149 uw_X7 rfl (by decide) 11 rfl rfl (by decide) fl_X7_162 rfl ?_
  refine VS.if_eq 159 dX7_order_152 (by decide) (fun _ => ?_) (fun hh => absurd (rfl) hh)
  refine VS.iconst (1) dX7_order_159 rfl ?_
  refine VS.iadd dX7_order_160 ?_
  refine VS.val (y := nI (k + 1)) (nI_p1 k) ?_
  refine VS.sput 6 dX7_order_161 uw_X7 tyX7 tyX7_ok nmX7 rfl (by decide) 10 rfl rfl (by decide) fl_X7_159 rfl rfl (rfl) (rfl) ?_
  refine VS.stt (S2 := od0 M (k + 1) 0 45) (od0_of M (k + 1) 0 45) ?_
  refine VS.aload_n dX7_order_164 rfl ?_
  refine VS.aload_n dX7_order_165 rfl ?_
  refine VS.sgetI 6 dX7_order_166 uw_X7 rfl (by decide) 12 rfl rfl (by decide) fl_X7_166 rfl ?_
  refine VS.val (y := 45) rfl ?_
  refine VS.bipush (99) dX7_order_169 rfl ?_
  refine VS.icmp_ne 185 dX7_order_171 (by decide) (fun _ => ?_) (fun hh => absurd hh (by decide))
  refine VS.iconst (0) dX7_order_185 rfl ?_
  refine VS.sput 6 dX7_order_186 uw_X7 tyX7 tyX7_ok nmX7 rfl (by decide) 13 rfl rfl (by decide) fl_X7_172 rfl rfl (rfl) (rfl) ?_
  refine VS.stt (S2 := od1 M (k + 1) (0) 45 0) (od1_of M _ _ _ _) ?_
  refine VS.aload_n dX7_order_189 rfl ?_
  refine VS.iload_n dX7_order_190 rfl ?_
  refine VS.if_eq 205 dX7_order_191 (by decide) (fun hh => absurd hh (by decide)) (fun _ => ?_)
  refine VS.aload_n dX7_order_194 rfl ?_
  refine VS.bipush (97) dX7_order_195 rfl ?_
  refine VS.bipush (104) dX7_order_197 rfl ?_
  refine VS.callT (ct_X7_within l (od1 M (k + 1) (0) 45 0) _ _ (k := k + 1) (L := L) rfl hL hL2 (by omega)) dX7_order_199 mi_X7_within im_X7_within sel_X7_within ml_X7_169 (by decide) rfl rfl (rmOk_D (by decide) (by decide)) (Nat.le_of_ble_eq_true rfl) rfl ?_
  refine VS.stt (S2 := od1 M (wiK (k + 1) (wiB (M 5) L (k + 1) 0 97 104)) (wiB (M 5) L (k + 1) 0 97 104) 45 0) (sw_od1 _ _ _ _ _ _ _) ?_
  refine VS.val (y := (itI (M 5) L (k + 1) - 97)) rfl ?_
  refine VS.goto 206 dX7_order_202 (by decide) ?_
  refine VS.sput 6 dX7_order_206 uw_X7 tyX7 tyX7_ok nmX7 rfl (by decide) 14 rfl rfl (by decide) fl_X7_175 rfl rfl (rfl) (rfl) ?_
  refine VS.stt (S2 := od2 M (wiK (k + 1) (wiB (M 5) L (k + 1) 0 97 104)) (wiB (M 5) L (k + 1) 0 97 104) 45 0 (itI (M 5) L (k + 1) - 97)) (od2_of M _ _ _ _ _) ?_
  refine VS.aload_n dX7_order_209 rfl ?_
  refine VS.iload_n dX7_order_210 rfl ?_
  refine VS.if_eq 225 dX7_order_211 (by decide) (fun hh => absurd hh (by decide)) (fun _ => ?_)
  refine VS.aload_n dX7_order_214 rfl ?_
  refine VS.bipush (97) dX7_order_215 rfl ?_
  refine VS.bipush (104) dX7_order_217 rfl ?_
  refine VS.callT (ct_X7_within l (od2 M (wiK (k + 1) (wiB (M 5) L (k + 1) 0 97 104)) (wiB (M 5) L (k + 1) 0 97 104) 45 0 (itI (M 5) L (k + 1) - 97)) _ _ (k := wiK (k + 1) (wiB (M 5) L (k + 1) 0 97 104)) (L := L) rfl hL hL2 (Nat.le_trans (wiK_le (by omega) (by decide)) hL2)) dX7_order_219 mi_X7_within im_X7_within sel_X7_within ml_X7_169 (by decide) rfl rfl (rmOk_D (by decide) (by decide)) (Nat.le_of_ble_eq_true rfl) rfl ?_
  refine VS.stt (S2 := od2 M (wiK (wiK (k + 1) (wiB (M 5) L (k + 1) 0 97 104)) (wiB (M 5) L (wiK (k + 1) (wiB (M 5) L (k + 1) 0 97 104)) (wiB (M 5) L (k + 1) 0 97 104) 97 104)) (wiB (M 5) L (wiK (k + 1) (wiB (M 5) L (k + 1) 0 97 104)) (wiB (M 5) L (k + 1) 0 97 104) 97 104) 45 0 (itI (M 5) L (k + 1) - 97)) (sw_od2 _ _ _ _ _ _ _ _) ?_
  refine VS.val (y := (itI (M 5) L (wiK (k + 1) (wiB (M 5) L (k + 1) 0 97 104)) - 97)) rfl ?_
  refine VS.goto 226 dX7_order_222 (by decide) ?_
  refine VS.sput 6 dX7_order_226 uw_X7 tyX7 tyX7_ok nmX7 rfl (by decide) 15 rfl rfl (by decide) fl_X7_178 rfl rfl (rfl) (rfl) ?_
  refine VS.stt (S2 := od3 M (wiK (wiK (k + 1) (wiB (M 5) L (k + 1) 0 97 104)) (wiB (M 5) L (wiK (k + 1) (wiB (M 5) L (k + 1) 0 97 104)) (wiB (M 5) L (k + 1) 0 97 104) 97 104)) (wiB (M 5) L (wiK (k + 1) (wiB (M 5) L (k + 1) 0 97 104)) (wiB (M 5) L (k + 1) 0 97 104) 97 104) 45 0 (itI (M 5) L (k + 1) - 97) (itI (M 5) L (wiK (k + 1) (wiB (M 5) L (k + 1) 0 97 104)) - 97)) (od3_of M _ _ _ _ _ _) ?_
  exact VS.vret dX7_order_229 rfl (shk rfl)
set_option maxRecDepth 100000 in
set_option maxHeartbeats 4000000 in
theorem ct_X7_order_99 (l : Launch) (M : SS)  {k L : Nat} (hk : M 0 10 = nI k) (hL : M 0 6 = nI L) (hL2 : L ≤ 80) (hkL : k < L) (hw : M 0 11 = 0) (hg : M 5 k = 99) : CtS l yX7_order cX7_order 3 none (rmD 2) [.ref 0] 7 shM M (none) (od3 M (wiK (wiK (wiK (k + 1) (wiB (M 5) L (k + 1) 0 48 57)) (wiB (M 5) L (wiK (k + 1) (wiB (M 5) L (k + 1) 0 48 57)) (wiB (M 5) L (k + 1) 0 48 57) 97 104)) (wiB (M 5) L (wiK (wiK (k + 1) (wiB (M 5) L (k + 1) 0 48 57)) (wiB (M 5) L (wiK (k + 1) (wiB (M 5) L (k + 1) 0 48 57)) (wiB (M 5) L (k + 1) 0 48 57) 97 104)) (wiB (M 5) L (wiK (k + 1) (wiB (M 5) L (k + 1) 0 48 57)) (wiB (M 5) L (k + 1) 0 48 57) 97 104) 97 104)) (wiB (M 5) L (wiK (wiK (k + 1) (wiB (M 5) L (k + 1) 0 48 57)) (wiB (M 5) L (wiK (k + 1) (wiB (M 5) L (k + 1) 0 48 57)) (wiB (M 5) L (k + 1) 0 48 57) 97 104)) (wiB (M 5) L (wiK (k + 1) (wiB (M 5) L (k + 1) 0 48 57)) (wiB (M 5) L (k + 1) 0 48 57) 97 104) 97 104) 99 (itI (M 5) L (k + 1) - 48) (itI (M 5) L (wiK (k + 1) (wiB (M 5) L (k + 1) 0 48 57)) - 97) (itI (M 5) L (wiK (wiK (k + 1) (wiB (M 5) L (k + 1) 0 48 57)) (wiB (M 5) L (wiK (k + 1) (wiB (M 5) L (k + 1) 0 48 57)) (wiB (M 5) L (k + 1) 0 48 57) 97 104)) - 97)) := by
  refine CtF.of (own := RX7) [some (.ref 0), none, none] (by decide +kernel) rfl (fun _ => Nat.le_of_ble_eq_true rfl) (fun _ => rfl) ?_
  refine VS.aload_n dX7_order_0 rfl ?_
  refine VS.aload_n dX7_order_1 rfl ?_
  refine VS.sgetI 6 dX7_order_2 uw_X7 rfl (by decide) 11 rfl rfl (by decide) fl_X7_162 rfl ?_
  refine VS.if_ne 19 dX7_order_5 (by decide) (fun hh => absurd (hw) hh) (fun _ => ?_)
  refine VS.aload_n dX7_order_8 rfl ?_
  refine VS.sgetI 6 dX7_order_9 uw_X7 rfl (by decide) 10 rfl rfl (by decide) fl_X7_159 rfl ?_
  refine VS.val (y := nI k) hk ?_
  refine VS.aload_n dX7_order_12 rfl ?_
  refine VS.sgetI 6 dX7_order_13 uw_X7 rfl (by decide) 6 rfl rfl (by decide) fl_X7_151 rfl ?_
  refine VS.val (y := nI L) hL ?_
  refine VS.icmp_ne 23 dX7_order_16 (by decide) (fun _ => ?_) (fun hh => absurd hh (fun q => absurd ((nI_eq (by omega) (by omega)).mp q) (by omega)))
  refine VS.aload_n dX7_order_23 rfl ?_
  refine VS.sgetR 6 dX7_order_24 uw_X7 rfl (by decide) 5 rfl rfl (by decide) fl_X7_23 rfl ?_
  refine VS.aload_n dX7_order_27 rfl ?_
  refine VS.sgetI 6 dX7_order_28 uw_X7 rfl (by decide) 10 rfl rfl (by decide) fl_X7_159 rfl ?_
  refine VS.val (y := nI k) hk ?_
  refine VS.siald (k) dX7_order_31 (by decide) rfl (rfl) (by omega) (by decide) ?_
  refine VS.val (y := 99) hg ?_
  refine VS.sput 6 dX7_order_32 uw_X7 tyX7 tyX7_ok nmX7 rfl (by decide) 12 rfl rfl (by decide) fl_X7_166 rfl rfl (rfl) (rfl) ?_
  refine VS.aload_n dX7_order_35 rfl ?_
  refine VS.sgetI 6 dX7_order_36 uw_X7 rfl (by decide) 12 rfl rfl (by decide) fl_X7_166 rfl ?_
  refine VS.val (y := 99) rfl ?_
  refine VS.bipush (114) dX7_order_39 rfl ?_
  refine VS.icmp_eq 71 dX7_order_41 (by decide) (fun hh => absurd hh (by decide)) (fun _ => ?_)
  refine VS.aload_n dX7_order_44 rfl ?_
  refine VS.sgetI 6 dX7_order_45 uw_X7 rfl (by decide) 12 rfl rfl (by decide) fl_X7_166 rfl ?_
  refine VS.val (y := 99) rfl ?_
  refine VS.bipush (43) dX7_order_48 rfl ?_
  refine VS.icmp_eq 71 dX7_order_50 (by decide) (fun hh => absurd hh (by decide)) (fun _ => ?_)
  refine VS.aload_n dX7_order_53 rfl ?_
  refine VS.sgetI 6 dX7_order_54 uw_X7 rfl (by decide) 12 rfl rfl (by decide) fl_X7_166 rfl ?_
  refine VS.val (y := 99) rfl ?_
  refine VS.bipush (45) dX7_order_57 rfl ?_
  refine VS.icmp_eq 71 dX7_order_59 (by decide) (fun hh => absurd hh (by decide)) (fun _ => ?_)
  refine VS.aload_n dX7_order_62 rfl ?_
  refine VS.sgetI 6 dX7_order_63 uw_X7 rfl (by decide) 12 rfl rfl (by decide) fl_X7_166 rfl ?_
  refine VS.val (y := 99) rfl ?_
  refine VS.bipush (99) dX7_order_66 rfl ?_
  refine VS.icmp_ne 75 dX7_order_68 (by decide) (fun hh => absurd (rfl) hh) (fun _ => ?_)
  refine VS.iconst (1) dX7_order_71 rfl ?_
  refine VS.goto 76 dX7_order_72 (by decide) ?_
  refine VS.istore_n dX7_order_76 (by decide) rfl ?_
  refine VS.iload_n dX7_order_77 rfl ?_
  refine VS.if_ne 99 dX7_order_78 (by decide) (fun _ => ?_) (fun hh => absurd hh (by decide))
  refine VS.iconst (1) dX7_order_99 rfl ?_
  refine VS.goto 104 dX7_order_100 (by decide) ?_
  refine VS.istore_n dX7_order_104 (by decide) rfl ?_
  refine VS.aload_n dX7_order_105 rfl ?_
  refine VS.aload_n dX7_order_106 rfl ?_
  refine VS.sgetI 6 dX7_order_107 uw_X7 rfl (by decide) 11 rfl rfl (by decide) fl_X7_162 rfl ?_
  refine VS.if_ne 135 dX7_order_110 (by decide) (fun hh => absurd (hw) hh) (fun _ => ?_)
  refine VS.iload_n dX7_order_113 rfl ?_
  refine VS.if_ne 139 dX7_order_114 (by decide) (fun _ => ?_) (fun hh => absurd hh (by decide))
  refine VS.iconst (0) dX7_order_139 rfl ?_
  refine VS.sput 6 dX7_order_140 uw_X7 tyX7 tyX7_ok nmX7 rfl (by decide) 11 rfl rfl (by decide) fl_X7_162 rfl rfl (rfl) (rfl) ?_
  refine VS.aload_n dX7_order_143 rfl ?_
  refine VS.dup dX7_order_144 rfl ?_
  refine VS.sgetI 6 dX7_order_145 uw_X7 rfl (by decide) 10 rfl rfl (by decide) fl_X7_159 rfl ?_
  refine VS.val (y := nI k) hk ?_
  refine VS.aload_n dX7_order_148 rfl ?_
  refine VS.sgetI 6 dX7_order_149 uw_X7 rfl (by decide) 11 rfl rfl (by decide) fl_X7_162 rfl ?_
  refine VS.if_eq 159 dX7_order_152 (by decide) (fun _ => ?_) (fun hh => absurd (rfl) hh)
  refine VS.iconst (1) dX7_order_159 rfl ?_
  refine VS.iadd dX7_order_160 ?_
  refine VS.val (y := nI (k + 1)) (nI_p1 k) ?_
  refine VS.sput 6 dX7_order_161 uw_X7 tyX7 tyX7_ok nmX7 rfl (by decide) 10 rfl rfl (by decide) fl_X7_159 rfl rfl (rfl) (rfl) ?_
  refine VS.stt (S2 := od0 M (k + 1) 0 99) (od0_of M (k + 1) 0 99) ?_
  refine VS.aload_n dX7_order_164 rfl ?_
  refine VS.aload_n dX7_order_165 rfl ?_
  refine VS.sgetI 6 dX7_order_166 uw_X7 rfl (by decide) 12 rfl rfl (by decide) fl_X7_166 rfl ?_
  refine VS.val (y := 99) rfl ?_
  refine VS.bipush (99) dX7_order_169 rfl ?_
  refine VS.icmp_ne 185 dX7_order_171 (by decide) (fun hh => absurd (rfl) hh) (fun _ => ?_)
  refine VS.aload_n dX7_order_174 rfl ?_
  refine VS.bipush (48) dX7_order_175 rfl ?_
  refine VS.bipush (57) dX7_order_177 rfl ?_
  refine VS.callT (ct_X7_within l (od0 M (k + 1) 0 99) _ _ (k := k + 1) (L := L) rfl hL hL2 (by omega)) dX7_order_179 mi_X7_within im_X7_within sel_X7_within ml_X7_169 (by decide) rfl rfl (rmOk_D (by decide) (by decide)) (Nat.le_of_ble_eq_true rfl) rfl ?_
  refine VS.stt (S2 := od0 M (wiK (k + 1) (wiB (M 5) L (k + 1) 0 48 57)) (wiB (M 5) L (k + 1) 0 48 57) 99) (sw_od0 _ _ _ _ _ _) ?_
  refine VS.val (y := itI (M 5) L (k + 1) - 48) rfl ?_
  refine VS.goto 186 dX7_order_182 (by decide) ?_
  refine VS.sput 6 dX7_order_186 uw_X7 tyX7 tyX7_ok nmX7 rfl (by decide) 13 rfl rfl (by decide) fl_X7_172 rfl rfl (rfl) (rfl) ?_
  refine VS.stt (S2 := od1 M (wiK (k + 1) (wiB (M 5) L (k + 1) 0 48 57)) (wiB (M 5) L (k + 1) 0 48 57) 99 (itI (M 5) L (k + 1) - 48)) (od1_of M _ _ _ _) ?_
  refine VS.aload_n dX7_order_189 rfl ?_
  refine VS.iload_n dX7_order_190 rfl ?_
  refine VS.if_eq 205 dX7_order_191 (by decide) (fun hh => absurd hh (by decide)) (fun _ => ?_)
  refine VS.aload_n dX7_order_194 rfl ?_
  refine VS.bipush (97) dX7_order_195 rfl ?_
  refine VS.bipush (104) dX7_order_197 rfl ?_
  refine VS.callT (ct_X7_within l (od1 M (wiK (k + 1) (wiB (M 5) L (k + 1) 0 48 57)) (wiB (M 5) L (k + 1) 0 48 57) 99 (itI (M 5) L (k + 1) - 48)) _ _ (k := wiK (k + 1) (wiB (M 5) L (k + 1) 0 48 57)) (L := L) rfl hL hL2 (Nat.le_trans (wiK_le (by omega) (by decide)) hL2)) dX7_order_199 mi_X7_within im_X7_within sel_X7_within ml_X7_169 (by decide) rfl rfl (rmOk_D (by decide) (by decide)) (Nat.le_of_ble_eq_true rfl) rfl ?_
  refine VS.stt (S2 := od1 M (wiK (wiK (k + 1) (wiB (M 5) L (k + 1) 0 48 57)) (wiB (M 5) L (wiK (k + 1) (wiB (M 5) L (k + 1) 0 48 57)) (wiB (M 5) L (k + 1) 0 48 57) 97 104)) (wiB (M 5) L (wiK (k + 1) (wiB (M 5) L (k + 1) 0 48 57)) (wiB (M 5) L (k + 1) 0 48 57) 97 104) 99 (itI (M 5) L (k + 1) - 48)) (sw_od1 _ _ _ _ _ _ _) ?_
  refine VS.val (y := (itI (M 5) L (wiK (k + 1) (wiB (M 5) L (k + 1) 0 48 57)) - 97)) rfl ?_
  refine VS.goto 206 dX7_order_202 (by decide) ?_
  refine VS.sput 6 dX7_order_206 uw_X7 tyX7 tyX7_ok nmX7 rfl (by decide) 14 rfl rfl (by decide) fl_X7_175 rfl rfl (rfl) (rfl) ?_
  refine VS.stt (S2 := od2 M (wiK (wiK (k + 1) (wiB (M 5) L (k + 1) 0 48 57)) (wiB (M 5) L (wiK (k + 1) (wiB (M 5) L (k + 1) 0 48 57)) (wiB (M 5) L (k + 1) 0 48 57) 97 104)) (wiB (M 5) L (wiK (k + 1) (wiB (M 5) L (k + 1) 0 48 57)) (wiB (M 5) L (k + 1) 0 48 57) 97 104) 99 (itI (M 5) L (k + 1) - 48) (itI (M 5) L (wiK (k + 1) (wiB (M 5) L (k + 1) 0 48 57)) - 97)) (od2_of M _ _ _ _ _) ?_
  refine VS.aload_n dX7_order_209 rfl ?_
  refine VS.iload_n dX7_order_210 rfl ?_
  refine VS.if_eq 225 dX7_order_211 (by decide) (fun hh => absurd hh (by decide)) (fun _ => ?_)
  refine VS.aload_n dX7_order_214 rfl ?_
  refine VS.bipush (97) dX7_order_215 rfl ?_
  refine VS.bipush (104) dX7_order_217 rfl ?_
  refine VS.callT (ct_X7_within l (od2 M (wiK (wiK (k + 1) (wiB (M 5) L (k + 1) 0 48 57)) (wiB (M 5) L (wiK (k + 1) (wiB (M 5) L (k + 1) 0 48 57)) (wiB (M 5) L (k + 1) 0 48 57) 97 104)) (wiB (M 5) L (wiK (k + 1) (wiB (M 5) L (k + 1) 0 48 57)) (wiB (M 5) L (k + 1) 0 48 57) 97 104) 99 (itI (M 5) L (k + 1) - 48) (itI (M 5) L (wiK (k + 1) (wiB (M 5) L (k + 1) 0 48 57)) - 97)) _ _ (k := wiK (wiK (k + 1) (wiB (M 5) L (k + 1) 0 48 57)) (wiB (M 5) L (wiK (k + 1) (wiB (M 5) L (k + 1) 0 48 57)) (wiB (M 5) L (k + 1) 0 48 57) 97 104)) (L := L) rfl hL hL2 (Nat.le_trans (wiK_le (wiK_le (by omega) (by decide)) (by decide)) hL2)) dX7_order_219 mi_X7_within im_X7_within sel_X7_within ml_X7_169 (by decide) rfl rfl (rmOk_D (by decide) (by decide)) (Nat.le_of_ble_eq_true rfl) rfl ?_
  refine VS.stt (S2 := od2 M (wiK (wiK (wiK (k + 1) (wiB (M 5) L (k + 1) 0 48 57)) (wiB (M 5) L (wiK (k + 1) (wiB (M 5) L (k + 1) 0 48 57)) (wiB (M 5) L (k + 1) 0 48 57) 97 104)) (wiB (M 5) L (wiK (wiK (k + 1) (wiB (M 5) L (k + 1) 0 48 57)) (wiB (M 5) L (wiK (k + 1) (wiB (M 5) L (k + 1) 0 48 57)) (wiB (M 5) L (k + 1) 0 48 57) 97 104)) (wiB (M 5) L (wiK (k + 1) (wiB (M 5) L (k + 1) 0 48 57)) (wiB (M 5) L (k + 1) 0 48 57) 97 104) 97 104)) (wiB (M 5) L (wiK (wiK (k + 1) (wiB (M 5) L (k + 1) 0 48 57)) (wiB (M 5) L (wiK (k + 1) (wiB (M 5) L (k + 1) 0 48 57)) (wiB (M 5) L (k + 1) 0 48 57) 97 104)) (wiB (M 5) L (wiK (k + 1) (wiB (M 5) L (k + 1) 0 48 57)) (wiB (M 5) L (k + 1) 0 48 57) 97 104) 97 104) 99 (itI (M 5) L (k + 1) - 48) (itI (M 5) L (wiK (k + 1) (wiB (M 5) L (k + 1) 0 48 57)) - 97)) (sw_od2 _ _ _ _ _ _ _ _) ?_
  refine VS.val (y := (itI (M 5) L (wiK (wiK (k + 1) (wiB (M 5) L (k + 1) 0 48 57)) (wiB (M 5) L (wiK (k + 1) (wiB (M 5) L (k + 1) 0 48 57)) (wiB (M 5) L (k + 1) 0 48 57) 97 104)) - 97)) rfl ?_
  refine VS.goto 226 dX7_order_222 (by decide) ?_
  refine VS.sput 6 dX7_order_226 uw_X7 tyX7 tyX7_ok nmX7 rfl (by decide) 15 rfl rfl (by decide) fl_X7_178 rfl rfl (rfl) (rfl) ?_
  refine VS.stt (S2 := od3 M (wiK (wiK (wiK (k + 1) (wiB (M 5) L (k + 1) 0 48 57)) (wiB (M 5) L (wiK (k + 1) (wiB (M 5) L (k + 1) 0 48 57)) (wiB (M 5) L (k + 1) 0 48 57) 97 104)) (wiB (M 5) L (wiK (wiK (k + 1) (wiB (M 5) L (k + 1) 0 48 57)) (wiB (M 5) L (wiK (k + 1) (wiB (M 5) L (k + 1) 0 48 57)) (wiB (M 5) L (k + 1) 0 48 57) 97 104)) (wiB (M 5) L (wiK (k + 1) (wiB (M 5) L (k + 1) 0 48 57)) (wiB (M 5) L (k + 1) 0 48 57) 97 104) 97 104)) (wiB (M 5) L (wiK (wiK (k + 1) (wiB (M 5) L (k + 1) 0 48 57)) (wiB (M 5) L (wiK (k + 1) (wiB (M 5) L (k + 1) 0 48 57)) (wiB (M 5) L (k + 1) 0 48 57) 97 104)) (wiB (M 5) L (wiK (k + 1) (wiB (M 5) L (k + 1) 0 48 57)) (wiB (M 5) L (k + 1) 0 48 57) 97 104) 97 104) 99 (itI (M 5) L (k + 1) - 48) (itI (M 5) L (wiK (k + 1) (wiB (M 5) L (k + 1) 0 48 57)) - 97) (itI (M 5) L (wiK (wiK (k + 1) (wiB (M 5) L (k + 1) 0 48 57)) (wiB (M 5) L (wiK (k + 1) (wiB (M 5) L (k + 1) 0 48 57)) (wiB (M 5) L (k + 1) 0 48 57) 97 104)) - 97)) (od3_of M _ _ _ _ _ _) ?_
  exact VS.vret dX7_order_229 rfl (shk rfl)
set_option maxRecDepth 100000 in
set_option maxHeartbeats 4000000 in
theorem ct_X7_order_116 (l : Launch) (M : SS)  {k L : Nat} (hk : M 0 10 = nI k) (hL : M 0 6 = nI L) (hL2 : L ≤ 80) (hkL : k < L) (hw : M 0 11 = 0) (hg : M 5 k = 116) : CtS l yX7_order cX7_order 3 none (rmD 2) [.ref 0] 7 shM M (none) (od3 M (wiK (k + 1) (wiB (M 5) L (k + 1) 0 97 104)) (wiB (M 5) L (k + 1) 0 97 104) 116 0 (itI (M 5) L (k + 1) - 97) 0) := by
  refine CtF.of (own := RX7) [some (.ref 0), none, none] (by decide +kernel) rfl (fun _ => Nat.le_of_ble_eq_true rfl) (fun _ => rfl) ?_
  refine VS.aload_n dX7_order_0 rfl ?_
  refine VS.aload_n dX7_order_1 rfl ?_
  refine VS.sgetI 6 dX7_order_2 uw_X7 rfl (by decide) 11 rfl rfl (by decide) fl_X7_162 rfl ?_
  refine VS.if_ne 19 dX7_order_5 (by decide) (fun hh => absurd (hw) hh) (fun _ => ?_)
  refine VS.aload_n dX7_order_8 rfl ?_
  refine VS.sgetI 6 dX7_order_9 uw_X7 rfl (by decide) 10 rfl rfl (by decide) fl_X7_159 rfl ?_
  refine VS.val (y := nI k) hk ?_
  refine VS.aload_n dX7_order_12 rfl ?_
  refine VS.sgetI 6 dX7_order_13 uw_X7 rfl (by decide) 6 rfl rfl (by decide) fl_X7_151 rfl ?_
  refine VS.val (y := nI L) hL ?_
  refine VS.icmp_ne 23 dX7_order_16 (by decide) (fun _ => ?_) (fun hh => absurd hh (fun q => absurd ((nI_eq (by omega) (by omega)).mp q) (by omega)))
  refine VS.aload_n dX7_order_23 rfl ?_
  refine VS.sgetR 6 dX7_order_24 uw_X7 rfl (by decide) 5 rfl rfl (by decide) fl_X7_23 rfl ?_
  refine VS.aload_n dX7_order_27 rfl ?_
  refine VS.sgetI 6 dX7_order_28 uw_X7 rfl (by decide) 10 rfl rfl (by decide) fl_X7_159 rfl ?_
  refine VS.val (y := nI k) hk ?_
  refine VS.siald (k) dX7_order_31 (by decide) rfl (rfl) (by omega) (by decide) ?_
  refine VS.val (y := 116) hg ?_
  refine VS.sput 6 dX7_order_32 uw_X7 tyX7 tyX7_ok nmX7 rfl (by decide) 12 rfl rfl (by decide) fl_X7_166 rfl rfl (rfl) (rfl) ?_
  refine VS.aload_n dX7_order_35 rfl ?_
  refine VS.sgetI 6 dX7_order_36 uw_X7 rfl (by decide) 12 rfl rfl (by decide) fl_X7_166 rfl ?_
  refine VS.val (y := 116) rfl ?_
  refine VS.bipush (114) dX7_order_39 rfl ?_
  refine VS.icmp_eq 71 dX7_order_41 (by decide) (fun hh => absurd hh (by decide)) (fun _ => ?_)
  refine VS.aload_n dX7_order_44 rfl ?_
  refine VS.sgetI 6 dX7_order_45 uw_X7 rfl (by decide) 12 rfl rfl (by decide) fl_X7_166 rfl ?_
  refine VS.val (y := 116) rfl ?_
  refine VS.bipush (43) dX7_order_48 rfl ?_
  refine VS.icmp_eq 71 dX7_order_50 (by decide) (fun hh => absurd hh (by decide)) (fun _ => ?_)
  refine VS.aload_n dX7_order_53 rfl ?_
  refine VS.sgetI 6 dX7_order_54 uw_X7 rfl (by decide) 12 rfl rfl (by decide) fl_X7_166 rfl ?_
  refine VS.val (y := 116) rfl ?_
  refine VS.bipush (45) dX7_order_57 rfl ?_
  refine VS.icmp_eq 71 dX7_order_59 (by decide) (fun hh => absurd hh (by decide)) (fun _ => ?_)
  refine VS.aload_n dX7_order_62 rfl ?_
  refine VS.sgetI 6 dX7_order_63 uw_X7 rfl (by decide) 12 rfl rfl (by decide) fl_X7_166 rfl ?_
  refine VS.val (y := 116) rfl ?_
  refine VS.bipush (99) dX7_order_66 rfl ?_
  refine VS.icmp_ne 75 dX7_order_68 (by decide) (fun _ => ?_) (fun hh => absurd hh (by decide))
  refine VS.iconst (0) dX7_order_75 rfl ?_
  refine VS.istore_n dX7_order_76 (by decide) rfl ?_
  refine VS.iload_n dX7_order_77 rfl ?_
  refine VS.if_ne 99 dX7_order_78 (by decide) (fun hh => absurd (rfl) hh) (fun _ => ?_)
  refine VS.aload_n dX7_order_81 rfl ?_
  refine VS.sgetI 6 dX7_order_82 uw_X7 rfl (by decide) 12 rfl rfl (by decide) fl_X7_166 rfl ?_
  refine VS.val (y := 116) rfl ?_
  refine VS.bipush (116) dX7_order_85 rfl ?_
  refine VS.icmp_eq 99 dX7_order_87 (by decide) (fun _ => ?_) (fun hh => absurd (rfl) hh)
  refine VS.iconst (1) dX7_order_99 rfl ?_
  refine VS.goto 104 dX7_order_100 (by decide) ?_
  refine VS.istore_n dX7_order_104 (by decide) rfl ?_
  refine VS.aload_n dX7_order_105 rfl ?_
  refine VS.aload_n dX7_order_106 rfl ?_
  refine VS.sgetI 6 dX7_order_107 uw_X7 rfl (by decide) 11 rfl rfl (by decide) fl_X7_162 rfl ?_
  refine VS.if_ne 135 dX7_order_110 (by decide) (fun hh => absurd (hw) hh) (fun _ => ?_)
  refine VS.iload_n dX7_order_113 rfl ?_
  refine VS.if_ne 139 dX7_order_114 (by decide) (fun _ => ?_) (fun hh => absurd hh (by decide))
  refine VS.iconst (0) dX7_order_139 rfl ?_
  refine VS.sput 6 dX7_order_140 uw_X7 tyX7 tyX7_ok nmX7 rfl (by decide) 11 rfl rfl (by decide) fl_X7_162 rfl rfl (rfl) (rfl) ?_
  refine VS.aload_n dX7_order_143 rfl ?_
  refine VS.dup dX7_order_144 rfl ?_
  refine VS.sgetI 6 dX7_order_145 uw_X7 rfl (by decide) 10 rfl rfl (by decide) fl_X7_159 rfl ?_
  refine VS.val (y := nI k) hk ?_
  refine VS.aload_n dX7_order_148 rfl ?_
  refine VS.sgetI 6 dX7_order_149 uw_X7 rfl (by decide) 11 rfl rfl (by decide) fl_X7_162 rfl ?_
  refine VS.if_eq 159 dX7_order_152 (by decide) (fun _ => ?_) (fun hh => absurd (rfl) hh)
  refine VS.iconst (1) dX7_order_159 rfl ?_
  refine VS.iadd dX7_order_160 ?_
  refine VS.val (y := nI (k + 1)) (nI_p1 k) ?_
  refine VS.sput 6 dX7_order_161 uw_X7 tyX7 tyX7_ok nmX7 rfl (by decide) 10 rfl rfl (by decide) fl_X7_159 rfl rfl (rfl) (rfl) ?_
  refine VS.stt (S2 := od0 M (k + 1) 0 116) (od0_of M (k + 1) 0 116) ?_
  refine VS.aload_n dX7_order_164 rfl ?_
  refine VS.aload_n dX7_order_165 rfl ?_
  refine VS.sgetI 6 dX7_order_166 uw_X7 rfl (by decide) 12 rfl rfl (by decide) fl_X7_166 rfl ?_
  refine VS.val (y := 116) rfl ?_
  refine VS.bipush (99) dX7_order_169 rfl ?_
  refine VS.icmp_ne 185 dX7_order_171 (by decide) (fun _ => ?_) (fun hh => absurd hh (by decide))
  refine VS.iconst (0) dX7_order_185 rfl ?_
  refine VS.sput 6 dX7_order_186 uw_X7 tyX7 tyX7_ok nmX7 rfl (by decide) 13 rfl rfl (by decide) fl_X7_172 rfl rfl (rfl) (rfl) ?_
  refine VS.stt (S2 := od1 M (k + 1) (0) 116 0) (od1_of M _ _ _ _) ?_
  refine VS.aload_n dX7_order_189 rfl ?_
  refine VS.iload_n dX7_order_190 rfl ?_
  refine VS.if_eq 205 dX7_order_191 (by decide) (fun hh => absurd hh (by decide)) (fun _ => ?_)
  refine VS.aload_n dX7_order_194 rfl ?_
  refine VS.bipush (97) dX7_order_195 rfl ?_
  refine VS.bipush (104) dX7_order_197 rfl ?_
  refine VS.callT (ct_X7_within l (od1 M (k + 1) (0) 116 0) _ _ (k := k + 1) (L := L) rfl hL hL2 (by omega)) dX7_order_199 mi_X7_within im_X7_within sel_X7_within ml_X7_169 (by decide) rfl rfl (rmOk_D (by decide) (by decide)) (Nat.le_of_ble_eq_true rfl) rfl ?_
  refine VS.stt (S2 := od1 M (wiK (k + 1) (wiB (M 5) L (k + 1) 0 97 104)) (wiB (M 5) L (k + 1) 0 97 104) 116 0) (sw_od1 _ _ _ _ _ _ _) ?_
  refine VS.val (y := (itI (M 5) L (k + 1) - 97)) rfl ?_
  refine VS.goto 206 dX7_order_202 (by decide) ?_
  refine VS.sput 6 dX7_order_206 uw_X7 tyX7 tyX7_ok nmX7 rfl (by decide) 14 rfl rfl (by decide) fl_X7_175 rfl rfl (rfl) (rfl) ?_
  refine VS.stt (S2 := od2 M (wiK (k + 1) (wiB (M 5) L (k + 1) 0 97 104)) (wiB (M 5) L (k + 1) 0 97 104) 116 0 (itI (M 5) L (k + 1) - 97)) (od2_of M _ _ _ _ _) ?_
  refine VS.aload_n dX7_order_209 rfl ?_
  refine VS.iload_n dX7_order_210 rfl ?_
  refine VS.if_eq 225 dX7_order_211 (by decide) (fun _ => ?_) (fun hh => absurd (rfl) hh)
  refine VS.iconst (0) dX7_order_225 rfl ?_
  refine VS.sput 6 dX7_order_226 uw_X7 tyX7 tyX7_ok nmX7 rfl (by decide) 15 rfl rfl (by decide) fl_X7_178 rfl rfl (rfl) (rfl) ?_
  refine VS.stt (S2 := od3 M (wiK (k + 1) (wiB (M 5) L (k + 1) 0 97 104)) (wiB (M 5) L (k + 1) 0 97 104) 116 0 (itI (M 5) L (k + 1) - 97) 0) (od3_of M _ _ _ _ _ _) ?_
  exact VS.vret dX7_order_229 rfl (shk rfl)
set_option maxRecDepth 100000 in
set_option maxHeartbeats 4000000 in
theorem ct_X7_order_100 (l : Launch) (M : SS)  {k L : Nat} (hk : M 0 10 = nI k) (hL : M 0 6 = nI L) (hL2 : L ≤ 80) (hkL : k < L) (hw : M 0 11 = 0) (hg : M 5 k = 100) : CtS l yX7_order cX7_order 3 none (rmD 2) [.ref 0] 7 shM M (none) (od3 M (wiK (k + 1) (wiB (M 5) L (k + 1) 0 97 104)) (wiB (M 5) L (k + 1) 0 97 104) 100 0 (itI (M 5) L (k + 1) - 97) 0) := by
  refine CtF.of (own := RX7) [some (.ref 0), none, none] (by decide +kernel) rfl (fun _ => Nat.le_of_ble_eq_true rfl) (fun _ => rfl) ?_
  refine VS.aload_n dX7_order_0 rfl ?_
  refine VS.aload_n dX7_order_1 rfl ?_
  refine VS.sgetI 6 dX7_order_2 uw_X7 rfl (by decide) 11 rfl rfl (by decide) fl_X7_162 rfl ?_
  refine VS.if_ne 19 dX7_order_5 (by decide) (fun hh => absurd (hw) hh) (fun _ => ?_)
  refine VS.aload_n dX7_order_8 rfl ?_
  refine VS.sgetI 6 dX7_order_9 uw_X7 rfl (by decide) 10 rfl rfl (by decide) fl_X7_159 rfl ?_
  refine VS.val (y := nI k) hk ?_
  refine VS.aload_n dX7_order_12 rfl ?_
  refine VS.sgetI 6 dX7_order_13 uw_X7 rfl (by decide) 6 rfl rfl (by decide) fl_X7_151 rfl ?_
  refine VS.val (y := nI L) hL ?_
  refine VS.icmp_ne 23 dX7_order_16 (by decide) (fun _ => ?_) (fun hh => absurd hh (fun q => absurd ((nI_eq (by omega) (by omega)).mp q) (by omega)))
  refine VS.aload_n dX7_order_23 rfl ?_
  refine VS.sgetR 6 dX7_order_24 uw_X7 rfl (by decide) 5 rfl rfl (by decide) fl_X7_23 rfl ?_
  refine VS.aload_n dX7_order_27 rfl ?_
  refine VS.sgetI 6 dX7_order_28 uw_X7 rfl (by decide) 10 rfl rfl (by decide) fl_X7_159 rfl ?_
  refine VS.val (y := nI k) hk ?_
  refine VS.siald (k) dX7_order_31 (by decide) rfl (rfl) (by omega) (by decide) ?_
  refine VS.val (y := 100) hg ?_
  refine VS.sput 6 dX7_order_32 uw_X7 tyX7 tyX7_ok nmX7 rfl (by decide) 12 rfl rfl (by decide) fl_X7_166 rfl rfl (rfl) (rfl) ?_
  refine VS.aload_n dX7_order_35 rfl ?_
  refine VS.sgetI 6 dX7_order_36 uw_X7 rfl (by decide) 12 rfl rfl (by decide) fl_X7_166 rfl ?_
  refine VS.val (y := 100) rfl ?_
  refine VS.bipush (114) dX7_order_39 rfl ?_
  refine VS.icmp_eq 71 dX7_order_41 (by decide) (fun hh => absurd hh (by decide)) (fun _ => ?_)
  refine VS.aload_n dX7_order_44 rfl ?_
  refine VS.sgetI 6 dX7_order_45 uw_X7 rfl (by decide) 12 rfl rfl (by decide) fl_X7_166 rfl ?_
  refine VS.val (y := 100) rfl ?_
  refine VS.bipush (43) dX7_order_48 rfl ?_
  refine VS.icmp_eq 71 dX7_order_50 (by decide) (fun hh => absurd hh (by decide)) (fun _ => ?_)
  refine VS.aload_n dX7_order_53 rfl ?_
  refine VS.sgetI 6 dX7_order_54 uw_X7 rfl (by decide) 12 rfl rfl (by decide) fl_X7_166 rfl ?_
  refine VS.val (y := 100) rfl ?_
  refine VS.bipush (45) dX7_order_57 rfl ?_
  refine VS.icmp_eq 71 dX7_order_59 (by decide) (fun hh => absurd hh (by decide)) (fun _ => ?_)
  refine VS.aload_n dX7_order_62 rfl ?_
  refine VS.sgetI 6 dX7_order_63 uw_X7 rfl (by decide) 12 rfl rfl (by decide) fl_X7_166 rfl ?_
  refine VS.val (y := 100) rfl ?_
  refine VS.bipush (99) dX7_order_66 rfl ?_
  refine VS.icmp_ne 75 dX7_order_68 (by decide) (fun _ => ?_) (fun hh => absurd hh (by decide))
  refine VS.iconst (0) dX7_order_75 rfl ?_
  refine VS.istore_n dX7_order_76 (by decide) rfl ?_
  refine VS.iload_n dX7_order_77 rfl ?_
  refine VS.if_ne 99 dX7_order_78 (by decide) (fun hh => absurd (rfl) hh) (fun _ => ?_)
  refine VS.aload_n dX7_order_81 rfl ?_
  refine VS.sgetI 6 dX7_order_82 uw_X7 rfl (by decide) 12 rfl rfl (by decide) fl_X7_166 rfl ?_
  refine VS.val (y := 100) rfl ?_
  refine VS.bipush (116) dX7_order_85 rfl ?_
  refine VS.icmp_eq 99 dX7_order_87 (by decide) (fun hh => absurd hh (by decide)) (fun _ => ?_)
  refine VS.aload_n dX7_order_90 rfl ?_
  refine VS.sgetI 6 dX7_order_91 uw_X7 rfl (by decide) 12 rfl rfl (by decide) fl_X7_166 rfl ?_
  refine VS.val (y := 100) rfl ?_
  refine VS.bipush (100) dX7_order_94 rfl ?_
  refine VS.icmp_ne 103 dX7_order_96 (by decide) (fun hh => absurd (rfl) hh) (fun _ => ?_)
  refine VS.iconst (1) dX7_order_99 rfl ?_
  refine VS.goto 104 dX7_order_100 (by decide) ?_
  refine VS.istore_n dX7_order_104 (by decide) rfl ?_
  refine VS.aload_n dX7_order_105 rfl ?_
  refine VS.aload_n dX7_order_106 rfl ?_
  refine VS.sgetI 6 dX7_order_107 uw_X7 rfl (by decide) 11 rfl rfl (by decide) fl_X7_162 rfl ?_
  refine VS.if_ne 135 dX7_order_110 (by decide) (fun hh => absurd (hw) hh) (fun _ => ?_)
  refine VS.iload_n dX7_order_113 rfl ?_
  refine VS.if_ne 139 dX7_order_114 (by decide) (fun _ => ?_) (fun hh => absurd hh (by decide))
  refine VS.iconst (0) dX7_order_139 rfl ?_
  refine VS.sput 6 dX7_order_140 uw_X7 tyX7 tyX7_ok nmX7 rfl (by decide) 11 rfl rfl (by decide) fl_X7_162 rfl rfl (rfl) (rfl) ?_
  refine VS.aload_n dX7_order_143 rfl ?_
  refine VS.dup dX7_order_144 rfl ?_
  refine VS.sgetI 6 dX7_order_145 uw_X7 rfl (by decide) 10 rfl rfl (by decide) fl_X7_159 rfl ?_
  refine VS.val (y := nI k) hk ?_
  refine VS.aload_n dX7_order_148 rfl ?_
  refine VS.sgetI 6 dX7_order_149 uw_X7 rfl (by decide) 11 rfl rfl (by decide) fl_X7_162 rfl ?_
  refine VS.if_eq 159 dX7_order_152 (by decide) (fun _ => ?_) (fun hh => absurd (rfl) hh)
  refine VS.iconst (1) dX7_order_159 rfl ?_
  refine VS.iadd dX7_order_160 ?_
  refine VS.val (y := nI (k + 1)) (nI_p1 k) ?_
  refine VS.sput 6 dX7_order_161 uw_X7 tyX7 tyX7_ok nmX7 rfl (by decide) 10 rfl rfl (by decide) fl_X7_159 rfl rfl (rfl) (rfl) ?_
  refine VS.stt (S2 := od0 M (k + 1) 0 100) (od0_of M (k + 1) 0 100) ?_
  refine VS.aload_n dX7_order_164 rfl ?_
  refine VS.aload_n dX7_order_165 rfl ?_
  refine VS.sgetI 6 dX7_order_166 uw_X7 rfl (by decide) 12 rfl rfl (by decide) fl_X7_166 rfl ?_
  refine VS.val (y := 100) rfl ?_
  refine VS.bipush (99) dX7_order_169 rfl ?_
  refine VS.icmp_ne 185 dX7_order_171 (by decide) (fun _ => ?_) (fun hh => absurd hh (by decide))
  refine VS.iconst (0) dX7_order_185 rfl ?_
  refine VS.sput 6 dX7_order_186 uw_X7 tyX7 tyX7_ok nmX7 rfl (by decide) 13 rfl rfl (by decide) fl_X7_172 rfl rfl (rfl) (rfl) ?_
  refine VS.stt (S2 := od1 M (k + 1) (0) 100 0) (od1_of M _ _ _ _) ?_
  refine VS.aload_n dX7_order_189 rfl ?_
  refine VS.iload_n dX7_order_190 rfl ?_
  refine VS.if_eq 205 dX7_order_191 (by decide) (fun hh => absurd hh (by decide)) (fun _ => ?_)
  refine VS.aload_n dX7_order_194 rfl ?_
  refine VS.bipush (97) dX7_order_195 rfl ?_
  refine VS.bipush (104) dX7_order_197 rfl ?_
  refine VS.callT (ct_X7_within l (od1 M (k + 1) (0) 100 0) _ _ (k := k + 1) (L := L) rfl hL hL2 (by omega)) dX7_order_199 mi_X7_within im_X7_within sel_X7_within ml_X7_169 (by decide) rfl rfl (rmOk_D (by decide) (by decide)) (Nat.le_of_ble_eq_true rfl) rfl ?_
  refine VS.stt (S2 := od1 M (wiK (k + 1) (wiB (M 5) L (k + 1) 0 97 104)) (wiB (M 5) L (k + 1) 0 97 104) 100 0) (sw_od1 _ _ _ _ _ _ _) ?_
  refine VS.val (y := (itI (M 5) L (k + 1) - 97)) rfl ?_
  refine VS.goto 206 dX7_order_202 (by decide) ?_
  refine VS.sput 6 dX7_order_206 uw_X7 tyX7 tyX7_ok nmX7 rfl (by decide) 14 rfl rfl (by decide) fl_X7_175 rfl rfl (rfl) (rfl) ?_
  refine VS.stt (S2 := od2 M (wiK (k + 1) (wiB (M 5) L (k + 1) 0 97 104)) (wiB (M 5) L (k + 1) 0 97 104) 100 0 (itI (M 5) L (k + 1) - 97)) (od2_of M _ _ _ _ _) ?_
  refine VS.aload_n dX7_order_209 rfl ?_
  refine VS.iload_n dX7_order_210 rfl ?_
  refine VS.if_eq 225 dX7_order_211 (by decide) (fun _ => ?_) (fun hh => absurd (rfl) hh)
  refine VS.iconst (0) dX7_order_225 rfl ?_
  refine VS.sput 6 dX7_order_226 uw_X7 tyX7 tyX7_ok nmX7 rfl (by decide) 15 rfl rfl (by decide) fl_X7_178 rfl rfl (rfl) (rfl) ?_
  refine VS.stt (S2 := od3 M (wiK (k + 1) (wiB (M 5) L (k + 1) 0 97 104)) (wiB (M 5) L (k + 1) 0 97 104) 100 0 (itI (M 5) L (k + 1) - 97) 0) (od3_of M _ _ _ _ _ _) ?_
  exact VS.vret dX7_order_229 rfl (shk rfl)
set_option maxRecDepth 100000 in
set_option maxHeartbeats 4000000 in
theorem ct_X7_order_98 (l : Launch) (M : SS)  {k L : Nat} (hk : M 0 10 = nI k) (hL : M 0 6 = nI L) (hL2 : L ≤ 80) (hkL : k < L) (hw : M 0 11 = 0) (hg : M 5 k = 98) : CtS l yX7_order cX7_order 3 none (rmD 2) [.ref 0] 7 shM M (none) (od3 M (k + 1) (0) 98 0 0 0) := by
  refine CtF.of (own := RX7) [some (.ref 0), none, none] (by decide +kernel) rfl (fun _ => Nat.le_of_ble_eq_true rfl) (fun _ => rfl) ?_
  refine VS.aload_n dX7_order_0 rfl ?_
  refine VS.aload_n dX7_order_1 rfl ?_
  refine VS.sgetI 6 dX7_order_2 uw_X7 rfl (by decide) 11 rfl rfl (by decide) fl_X7_162 rfl ?_
  refine VS.if_ne 19 dX7_order_5 (by decide) (fun hh => absurd (hw) hh) (fun _ => ?_)
  refine VS.aload_n dX7_order_8 rfl ?_
  refine VS.sgetI 6 dX7_order_9 uw_X7 rfl (by decide) 10 rfl rfl (by decide) fl_X7_159 rfl ?_
  refine VS.val (y := nI k) hk ?_
  refine VS.aload_n dX7_order_12 rfl ?_
  refine VS.sgetI 6 dX7_order_13 uw_X7 rfl (by decide) 6 rfl rfl (by decide) fl_X7_151 rfl ?_
  refine VS.val (y := nI L) hL ?_
  refine VS.icmp_ne 23 dX7_order_16 (by decide) (fun _ => ?_) (fun hh => absurd hh (fun q => absurd ((nI_eq (by omega) (by omega)).mp q) (by omega)))
  refine VS.aload_n dX7_order_23 rfl ?_
  refine VS.sgetR 6 dX7_order_24 uw_X7 rfl (by decide) 5 rfl rfl (by decide) fl_X7_23 rfl ?_
  refine VS.aload_n dX7_order_27 rfl ?_
  refine VS.sgetI 6 dX7_order_28 uw_X7 rfl (by decide) 10 rfl rfl (by decide) fl_X7_159 rfl ?_
  refine VS.val (y := nI k) hk ?_
  refine VS.siald (k) dX7_order_31 (by decide) rfl (rfl) (by omega) (by decide) ?_
  refine VS.val (y := 98) hg ?_
  refine VS.sput 6 dX7_order_32 uw_X7 tyX7 tyX7_ok nmX7 rfl (by decide) 12 rfl rfl (by decide) fl_X7_166 rfl rfl (rfl) (rfl) ?_
  refine VS.aload_n dX7_order_35 rfl ?_
  refine VS.sgetI 6 dX7_order_36 uw_X7 rfl (by decide) 12 rfl rfl (by decide) fl_X7_166 rfl ?_
  refine VS.val (y := 98) rfl ?_
  refine VS.bipush (114) dX7_order_39 rfl ?_
  refine VS.icmp_eq 71 dX7_order_41 (by decide) (fun hh => absurd hh (by decide)) (fun _ => ?_)
  refine VS.aload_n dX7_order_44 rfl ?_
  refine VS.sgetI 6 dX7_order_45 uw_X7 rfl (by decide) 12 rfl rfl (by decide) fl_X7_166 rfl ?_
  refine VS.val (y := 98) rfl ?_
  refine VS.bipush (43) dX7_order_48 rfl ?_
  refine VS.icmp_eq 71 dX7_order_50 (by decide) (fun hh => absurd hh (by decide)) (fun _ => ?_)
  refine VS.aload_n dX7_order_53 rfl ?_
  refine VS.sgetI 6 dX7_order_54 uw_X7 rfl (by decide) 12 rfl rfl (by decide) fl_X7_166 rfl ?_
  refine VS.val (y := 98) rfl ?_
  refine VS.bipush (45) dX7_order_57 rfl ?_
  refine VS.icmp_eq 71 dX7_order_59 (by decide) (fun hh => absurd hh (by decide)) (fun _ => ?_)
  refine VS.aload_n dX7_order_62 rfl ?_
  refine VS.sgetI 6 dX7_order_63 uw_X7 rfl (by decide) 12 rfl rfl (by decide) fl_X7_166 rfl ?_
  refine VS.val (y := 98) rfl ?_
  refine VS.bipush (99) dX7_order_66 rfl ?_
  refine VS.icmp_ne 75 dX7_order_68 (by decide) (fun _ => ?_) (fun hh => absurd hh (by decide))
  refine VS.iconst (0) dX7_order_75 rfl ?_
  refine VS.istore_n dX7_order_76 (by decide) rfl ?_
  refine VS.iload_n dX7_order_77 rfl ?_
  refine VS.if_ne 99 dX7_order_78 (by decide) (fun hh => absurd (rfl) hh) (fun _ => ?_)
  refine VS.aload_n dX7_order_81 rfl ?_
  refine VS.sgetI 6 dX7_order_82 uw_X7 rfl (by decide) 12 rfl rfl (by decide) fl_X7_166 rfl ?_
  refine VS.val (y := 98) rfl ?_
  refine VS.bipush (116) dX7_order_85 rfl ?_
  refine VS.icmp_eq 99 dX7_order_87 (by decide) (fun hh => absurd hh (by decide)) (fun _ => ?_)
  refine VS.aload_n dX7_order_90 rfl ?_
  refine VS.sgetI 6 dX7_order_91 uw_X7 rfl (by decide) 12 rfl rfl (by decide) fl_X7_166 rfl ?_
  refine VS.val (y := 98) rfl ?_
  refine VS.bipush (100) dX7_order_94 rfl ?_
  refine VS.icmp_ne 103 dX7_order_96 (by decide) (fun _ => ?_) (fun hh => absurd hh (by decide))
  refine VS.iconst (0) dX7_order_103 rfl ?_
  refine VS.istore_n dX7_order_104 (by decide) rfl ?_
  refine VS.aload_n dX7_order_105 rfl ?_
  refine VS.aload_n dX7_order_106 rfl ?_
  refine VS.sgetI 6 dX7_order_107 uw_X7 rfl (by decide) 11 rfl rfl (by decide) fl_X7_162 rfl ?_
  refine VS.if_ne 135 dX7_order_110 (by decide) (fun hh => absurd (hw) hh) (fun _ => ?_)
  refine VS.iload_n dX7_order_113 rfl ?_
  refine VS.if_ne 139 dX7_order_114 (by decide) (fun hh => absurd (rfl) hh) (fun _ => ?_)
  refine VS.aload_n dX7_order_117 rfl ?_
  refine VS.sgetI 6 dX7_order_118 uw_X7 rfl (by decide) 12 rfl rfl (by decide) fl_X7_166 rfl ?_
  refine VS.val (y := 98) rfl ?_
  refine VS.bipush (98) dX7_order_121 rfl ?_
  refine VS.icmp_eq 139 dX7_order_123 (by decide) (fun _ => ?_) (fun hh => absurd (rfl) hh)
  refine VS.iconst (0) dX7_order_139 rfl ?_
  refine VS.sput 6 dX7_order_140 uw_X7 tyX7 tyX7_ok nmX7 rfl (by decide) 11 rfl rfl (by decide) fl_X7_162 rfl rfl (rfl) (rfl) ?_
  refine VS.aload_n dX7_order_143 rfl ?_
  refine VS.dup dX7_order_144 rfl ?_
  refine VS.sgetI 6 dX7_order_145 uw_X7 rfl (by decide) 10 rfl rfl (by decide) fl_X7_159 rfl ?_
  refine VS.val (y := nI k) hk ?_
  refine VS.aload_n dX7_order_148 rfl ?_
  refine VS.sgetI 6 dX7_order_149 uw_X7 rfl (by decide) 11 rfl rfl (by decide) fl_X7_162 rfl ?_
  refine VS.if_eq 159 dX7_order_152 (by decide) (fun _ => ?_) (fun hh => absurd (rfl) hh)
  refine VS.iconst (1) dX7_order_159 rfl ?_
  refine VS.iadd dX7_order_160 ?_
  refine VS.val (y := nI (k + 1)) (nI_p1 k) ?_
  refine VS.sput 6 dX7_order_161 uw_X7 tyX7 tyX7_ok nmX7 rfl (by decide) 10 rfl rfl (by decide) fl_X7_159 rfl rfl (rfl) (rfl) ?_
  refine VS.stt (S2 := od0 M (k + 1) 0 98) (od0_of M (k + 1) 0 98) ?_
  refine VS.aload_n dX7_order_164 rfl ?_
  refine VS.aload_n dX7_order_165 rfl ?_
  refine VS.sgetI 6 dX7_order_166 uw_X7 rfl (by decide) 12 rfl rfl (by decide) fl_X7_166 rfl ?_
  refine VS.val (y := 98) rfl ?_
  refine VS.bipush (99) dX7_order_169 rfl ?_
  refine VS.icmp_ne 185 dX7_order_171 (by decide) (fun _ => ?_) (fun hh => absurd hh (by decide))
  refine VS.iconst (0) dX7_order_185 rfl ?_
  refine VS.sput 6 dX7_order_186 uw_X7 tyX7 tyX7_ok nmX7 rfl (by decide) 13 rfl rfl (by decide) fl_X7_172 rfl rfl (rfl) (rfl) ?_
  refine VS.stt (S2 := od1 M (k + 1) (0) 98 0) (od1_of M _ _ _ _) ?_
  refine VS.aload_n dX7_order_189 rfl ?_
  refine VS.iload_n dX7_order_190 rfl ?_
  refine VS.if_eq 205 dX7_order_191 (by decide) (fun _ => ?_) (fun hh => absurd (rfl) hh)
  refine VS.iconst (0) dX7_order_205 rfl ?_
  refine VS.sput 6 dX7_order_206 uw_X7 tyX7 tyX7_ok nmX7 rfl (by decide) 14 rfl rfl (by decide) fl_X7_175 rfl rfl (rfl) (rfl) ?_
  refine VS.stt (S2 := od2 M (k + 1) (0) 98 0 0) (od2_of M _ _ _ _ _) ?_
  refine VS.aload_n dX7_order_209 rfl ?_
  refine VS.iload_n dX7_order_210 rfl ?_
  refine VS.if_eq 225 dX7_order_211 (by decide) (fun _ => ?_) (fun hh => absurd (rfl) hh)
  refine VS.iconst (0) dX7_order_225 rfl ?_
  refine VS.sput 6 dX7_order_226 uw_X7 tyX7 tyX7_ok nmX7 rfl (by decide) 15 rfl rfl (by decide) fl_X7_178 rfl rfl (rfl) (rfl) ?_
  refine VS.stt (S2 := od3 M (k + 1) (0) 98 0 0 0) (od3_of M _ _ _ _ _ _) ?_
  exact VS.vret dX7_order_229 rfl (shk rfl)
set_option maxRecDepth 100000 in
set_option maxHeartbeats 4000000 in
theorem ct_X7_order_112 (l : Launch) (M : SS)  {k L : Nat} (hk : M 0 10 = nI k) (hL : M 0 6 = nI L) (hL2 : L ≤ 80) (hkL : k < L) (hw : M 0 11 = 0) (hg : M 5 k = 112) : CtS l yX7_order cX7_order 3 none (rmD 2) [.ref 0] 7 shM M (none) (od3 M (k + 1) (0) 112 0 0 0) := by
  refine CtF.of (own := RX7) [some (.ref 0), none, none] (by decide +kernel) rfl (fun _ => Nat.le_of_ble_eq_true rfl) (fun _ => rfl) ?_
  refine VS.aload_n dX7_order_0 rfl ?_
  refine VS.aload_n dX7_order_1 rfl ?_
  refine VS.sgetI 6 dX7_order_2 uw_X7 rfl (by decide) 11 rfl rfl (by decide) fl_X7_162 rfl ?_
  refine VS.if_ne 19 dX7_order_5 (by decide) (fun hh => absurd (hw) hh) (fun _ => ?_)
  refine VS.aload_n dX7_order_8 rfl ?_
  refine VS.sgetI 6 dX7_order_9 uw_X7 rfl (by decide) 10 rfl rfl (by decide) fl_X7_159 rfl ?_
  refine VS.val (y := nI k) hk ?_
  refine VS.aload_n dX7_order_12 rfl ?_
  refine VS.sgetI 6 dX7_order_13 uw_X7 rfl (by decide) 6 rfl rfl (by decide) fl_X7_151 rfl ?_
  refine VS.val (y := nI L) hL ?_
  refine VS.icmp_ne 23 dX7_order_16 (by decide) (fun _ => ?_) (fun hh => absurd hh (fun q => absurd ((nI_eq (by omega) (by omega)).mp q) (by omega)))
  refine VS.aload_n dX7_order_23 rfl ?_
  refine VS.sgetR 6 dX7_order_24 uw_X7 rfl (by decide) 5 rfl rfl (by decide) fl_X7_23 rfl ?_
  refine VS.aload_n dX7_order_27 rfl ?_
  refine VS.sgetI 6 dX7_order_28 uw_X7 rfl (by decide) 10 rfl rfl (by decide) fl_X7_159 rfl ?_
  refine VS.val (y := nI k) hk ?_
  refine VS.siald (k) dX7_order_31 (by decide) rfl (rfl) (by omega) (by decide) ?_
  refine VS.val (y := 112) hg ?_
  refine VS.sput 6 dX7_order_32 uw_X7 tyX7 tyX7_ok nmX7 rfl (by decide) 12 rfl rfl (by decide) fl_X7_166 rfl rfl (rfl) (rfl) ?_
  refine VS.aload_n dX7_order_35 rfl ?_
  refine VS.sgetI 6 dX7_order_36 uw_X7 rfl (by decide) 12 rfl rfl (by decide) fl_X7_166 rfl ?_
  refine VS.val (y := 112) rfl ?_
  refine VS.bipush (114) dX7_order_39 rfl ?_
  refine VS.icmp_eq 71 dX7_order_41 (by decide) (fun hh => absurd hh (by decide)) (fun _ => ?_)
  refine VS.aload_n dX7_order_44 rfl ?_
  refine VS.sgetI 6 dX7_order_45 uw_X7 rfl (by decide) 12 rfl rfl (by decide) fl_X7_166 rfl ?_
  refine VS.val (y := 112) rfl ?_
  refine VS.bipush (43) dX7_order_48 rfl ?_
  refine VS.icmp_eq 71 dX7_order_50 (by decide) (fun hh => absurd hh (by decide)) (fun _ => ?_)
  refine VS.aload_n dX7_order_53 rfl ?_
  refine VS.sgetI 6 dX7_order_54 uw_X7 rfl (by decide) 12 rfl rfl (by decide) fl_X7_166 rfl ?_
  refine VS.val (y := 112) rfl ?_
  refine VS.bipush (45) dX7_order_57 rfl ?_
  refine VS.icmp_eq 71 dX7_order_59 (by decide) (fun hh => absurd hh (by decide)) (fun _ => ?_)
  refine VS.aload_n dX7_order_62 rfl ?_
  refine VS.sgetI 6 dX7_order_63 uw_X7 rfl (by decide) 12 rfl rfl (by decide) fl_X7_166 rfl ?_
  refine VS.val (y := 112) rfl ?_
  refine VS.bipush (99) dX7_order_66 rfl ?_
  refine VS.icmp_ne 75 dX7_order_68 (by decide) (fun _ => ?_) (fun hh => absurd hh (by decide))
  refine VS.iconst (0) dX7_order_75 rfl ?_
  refine VS.istore_n dX7_order_76 (by decide) rfl ?_
  refine VS.iload_n dX7_order_77 rfl ?_
  refine VS.if_ne 99 dX7_order_78 (by decide) (fun hh => absurd (rfl) hh) (fun _ => ?_)
  refine VS.aload_n dX7_order_81 rfl ?_
  refine VS.sgetI 6 dX7_order_82 uw_X7 rfl (by decide) 12 rfl rfl (by decide) fl_X7_166 rfl ?_
  refine VS.val (y := 112) rfl ?_
  refine VS.bipush (116) dX7_order_85 rfl ?_
  refine VS.icmp_eq 99 dX7_order_87 (by decide) (fun hh => absurd hh (by decide)) (fun _ => ?_)
  refine VS.aload_n dX7_order_90 rfl ?_
  refine VS.sgetI 6 dX7_order_91 uw_X7 rfl (by decide) 12 rfl rfl (by decide) fl_X7_166 rfl ?_
  refine VS.val (y := 112) rfl ?_
  refine VS.bipush (100) dX7_order_94 rfl ?_
  refine VS.icmp_ne 103 dX7_order_96 (by decide) (fun _ => ?_) (fun hh => absurd hh (by decide))
  refine VS.iconst (0) dX7_order_103 rfl ?_
  refine VS.istore_n dX7_order_104 (by decide) rfl ?_
  refine VS.aload_n dX7_order_105 rfl ?_
  refine VS.aload_n dX7_order_106 rfl ?_
  refine VS.sgetI 6 dX7_order_107 uw_X7 rfl (by decide) 11 rfl rfl (by decide) fl_X7_162 rfl ?_
  refine VS.if_ne 135 dX7_order_110 (by decide) (fun hh => absurd (hw) hh) (fun _ => ?_)
  refine VS.iload_n dX7_order_113 rfl ?_
  refine VS.if_ne 139 dX7_order_114 (by decide) (fun hh => absurd (rfl) hh) (fun _ => ?_)
  refine VS.aload_n dX7_order_117 rfl ?_
  refine VS.sgetI 6 dX7_order_118 uw_X7 rfl (by decide) 12 rfl rfl (by decide) fl_X7_166 rfl ?_
  refine VS.val (y := 112) rfl ?_
  refine VS.bipush (98) dX7_order_121 rfl ?_
  refine VS.icmp_eq 139 dX7_order_123 (by decide) (fun hh => absurd hh (by decide)) (fun _ => ?_)
  refine VS.aload_n dX7_order_126 rfl ?_
  refine VS.sgetI 6 dX7_order_127 uw_X7 rfl (by decide) 12 rfl rfl (by decide) fl_X7_166 rfl ?_
  refine VS.val (y := 112) rfl ?_
  refine VS.bipush (112) dX7_order_130 rfl ?_
  refine VS.icmp_eq 139 dX7_order_132 (by decide) (fun _ => ?_) (fun hh => absurd (rfl) hh)
  refine VS.iconst (0) dX7_order_139 rfl ?_
  refine VS.sput 6 dX7_order_140 uw_X7 tyX7 tyX7_ok nmX7 rfl (by decide) 11 rfl rfl (by decide) fl_X7_162 rfl rfl (rfl) (rfl) ?_
  refine VS.aload_n dX7_order_143 rfl ?_
  refine VS.dup dX7_order_144 rfl ?_
  refine VS.sgetI 6 dX7_order_145 uw_X7 rfl (by decide) 10 rfl rfl (by decide) fl_X7_159 rfl ?_
  refine VS.val (y := nI k) hk ?_
  refine VS.aload_n dX7_order_148 rfl ?_
  refine VS.sgetI 6 dX7_order_149 uw_X7 rfl (by decide) 11 rfl rfl (by decide) fl_X7_162 rfl ?_
  refine VS.if_eq 159 dX7_order_152 (by decide) (fun _ => ?_) (fun hh => absurd (rfl) hh)
  refine VS.iconst (1) dX7_order_159 rfl ?_
  refine VS.iadd dX7_order_160 ?_
  refine VS.val (y := nI (k + 1)) (nI_p1 k) ?_
  refine VS.sput 6 dX7_order_161 uw_X7 tyX7 tyX7_ok nmX7 rfl (by decide) 10 rfl rfl (by decide) fl_X7_159 rfl rfl (rfl) (rfl) ?_
  refine VS.stt (S2 := od0 M (k + 1) 0 112) (od0_of M (k + 1) 0 112) ?_
  refine VS.aload_n dX7_order_164 rfl ?_
  refine VS.aload_n dX7_order_165 rfl ?_
  refine VS.sgetI 6 dX7_order_166 uw_X7 rfl (by decide) 12 rfl rfl (by decide) fl_X7_166 rfl ?_
  refine VS.val (y := 112) rfl ?_
  refine VS.bipush (99) dX7_order_169 rfl ?_
  refine VS.icmp_ne 185 dX7_order_171 (by decide) (fun _ => ?_) (fun hh => absurd hh (by decide))
  refine VS.iconst (0) dX7_order_185 rfl ?_
  refine VS.sput 6 dX7_order_186 uw_X7 tyX7 tyX7_ok nmX7 rfl (by decide) 13 rfl rfl (by decide) fl_X7_172 rfl rfl (rfl) (rfl) ?_
  refine VS.stt (S2 := od1 M (k + 1) (0) 112 0) (od1_of M _ _ _ _) ?_
  refine VS.aload_n dX7_order_189 rfl ?_
  refine VS.iload_n dX7_order_190 rfl ?_
  refine VS.if_eq 205 dX7_order_191 (by decide) (fun _ => ?_) (fun hh => absurd (rfl) hh)
  refine VS.iconst (0) dX7_order_205 rfl ?_
  refine VS.sput 6 dX7_order_206 uw_X7 tyX7 tyX7_ok nmX7 rfl (by decide) 14 rfl rfl (by decide) fl_X7_175 rfl rfl (rfl) (rfl) ?_
  refine VS.stt (S2 := od2 M (k + 1) (0) 112 0 0) (od2_of M _ _ _ _ _) ?_
  refine VS.aload_n dX7_order_209 rfl ?_
  refine VS.iload_n dX7_order_210 rfl ?_
  refine VS.if_eq 225 dX7_order_211 (by decide) (fun _ => ?_) (fun hh => absurd (rfl) hh)
  refine VS.iconst (0) dX7_order_225 rfl ?_
  refine VS.sput 6 dX7_order_226 uw_X7 tyX7 tyX7_ok nmX7 rfl (by decide) 15 rfl rfl (by decide) fl_X7_178 rfl rfl (rfl) (rfl) ?_
  refine VS.stt (S2 := od3 M (k + 1) (0) 112 0 0 0) (od3_of M _ _ _ _ _ _) ?_
  exact VS.vret dX7_order_229 rfl (shk rfl)
set_option maxRecDepth 100000 in
set_option maxHeartbeats 4000000 in
theorem ct_X7_order_end (l : Launch) (M : SS)  {k : Nat} (hk : M 0 10 = nI k) (hL : M 0 6 = nI k) (hL2 : k ≤ 80) (hw : M 0 11 = 0) : CtS l yX7_order cX7_order 3 none (rmD 2) [.ref 0] 7 shM M (none) (od3 M k 1 0 0 0 0) := by
  refine CtF.of (own := RX7) [some (.ref 0), none, none] (by decide +kernel) rfl (fun _ => Nat.le_of_ble_eq_true rfl) (fun _ => rfl) ?_
  refine VS.aload_n dX7_order_0 rfl ?_
  refine VS.aload_n dX7_order_1 rfl ?_
  refine VS.sgetI 6 dX7_order_2 uw_X7 rfl (by decide) 11 rfl rfl (by decide) fl_X7_162 rfl ?_
  refine VS.if_ne 19 dX7_order_5 (by decide) (fun hh => absurd (hw) hh) (fun _ => ?_)
  refine VS.aload_n dX7_order_8 rfl ?_
  refine VS.sgetI 6 dX7_order_9 uw_X7 rfl (by decide) 10 rfl rfl (by decide) fl_X7_159 rfl ?_
  refine VS.val (y := nI k) hk ?_
  refine VS.aload_n dX7_order_12 rfl ?_
  refine VS.sgetI 6 dX7_order_13 uw_X7 rfl (by decide) 6 rfl rfl (by decide) fl_X7_151 rfl ?_
  refine VS.val (y := nI k) hL ?_
  refine VS.icmp_ne 23 dX7_order_16 (by decide) (fun hh => absurd (rfl) hh) (fun _ => ?_)
  refine VS.iconst (0) dX7_order_19 rfl ?_
  refine VS.goto 32 dX7_order_20 (by decide) ?_
  refine VS.sput 6 dX7_order_32 uw_X7 tyX7 tyX7_ok nmX7 rfl (by decide) 12 rfl rfl (by decide) fl_X7_166 rfl rfl (rfl) (rfl) ?_
  refine VS.aload_n dX7_order_35 rfl ?_
  refine VS.sgetI 6 dX7_order_36 uw_X7 rfl (by decide) 12 rfl rfl (by decide) fl_X7_166 rfl ?_
  refine VS.val (y := 0) rfl ?_
  refine VS.bipush (114) dX7_order_39 rfl ?_
  refine VS.icmp_eq 71 dX7_order_41 (by decide) (fun hh => absurd hh (by decide)) (fun _ => ?_)
  refine VS.aload_n dX7_order_44 rfl ?_
  refine VS.sgetI 6 dX7_order_45 uw_X7 rfl (by decide) 12 rfl rfl (by decide) fl_X7_166 rfl ?_
  refine VS.val (y := 0) rfl ?_
  refine VS.bipush (43) dX7_order_48 rfl ?_
  refine VS.icmp_eq 71 dX7_order_50 (by decide) (fun hh => absurd hh (by decide)) (fun _ => ?_)
  refine VS.aload_n dX7_order_53 rfl ?_
  refine VS.sgetI 6 dX7_order_54 uw_X7 rfl (by decide) 12 rfl rfl (by decide) fl_X7_166 rfl ?_
  refine VS.val (y := 0) rfl ?_
  refine VS.bipush (45) dX7_order_57 rfl ?_
  refine VS.icmp_eq 71 dX7_order_59 (by decide) (fun hh => absurd hh (by decide)) (fun _ => ?_)
  refine VS.aload_n dX7_order_62 rfl ?_
  refine VS.sgetI 6 dX7_order_63 uw_X7 rfl (by decide) 12 rfl rfl (by decide) fl_X7_166 rfl ?_
  refine VS.val (y := 0) rfl ?_
  refine VS.bipush (99) dX7_order_66 rfl ?_
  refine VS.icmp_ne 75 dX7_order_68 (by decide) (fun _ => ?_) (fun hh => absurd hh (by decide))
  refine VS.iconst (0) dX7_order_75 rfl ?_
  refine VS.istore_n dX7_order_76 (by decide) rfl ?_
  refine VS.iload_n dX7_order_77 rfl ?_
  refine VS.if_ne 99 dX7_order_78 (by decide) (fun hh => absurd (rfl) hh) (fun _ => ?_)
  refine VS.aload_n dX7_order_81 rfl ?_
  refine VS.sgetI 6 dX7_order_82 uw_X7 rfl (by decide) 12 rfl rfl (by decide) fl_X7_166 rfl ?_
  refine VS.val (y := 0) rfl ?_
  refine VS.bipush (116) dX7_order_85 rfl ?_
  refine VS.icmp_eq 99 dX7_order_87 (by decide) (fun hh => absurd hh (by decide)) (fun _ => ?_)
  refine VS.aload_n dX7_order_90 rfl ?_
  refine VS.sgetI 6 dX7_order_91 uw_X7 rfl (by decide) 12 rfl rfl (by decide) fl_X7_166 rfl ?_
  refine VS.val (y := 0) rfl ?_
  refine VS.bipush (100) dX7_order_94 rfl ?_
  refine VS.icmp_ne 103 dX7_order_96 (by decide) (fun _ => ?_) (fun hh => absurd hh (by decide))
  refine VS.iconst (0) dX7_order_103 rfl ?_
  refine VS.istore_n dX7_order_104 (by decide) rfl ?_
  refine VS.aload_n dX7_order_105 rfl ?_
  refine VS.aload_n dX7_order_106 rfl ?_
  refine VS.sgetI 6 dX7_order_107 uw_X7 rfl (by decide) 11 rfl rfl (by decide) fl_X7_162 rfl ?_
  refine VS.if_ne 135 dX7_order_110 (by decide) (fun hh => absurd (hw) hh) (fun _ => ?_)
  refine VS.iload_n dX7_order_113 rfl ?_
  refine VS.if_ne 139 dX7_order_114 (by decide) (fun hh => absurd (rfl) hh) (fun _ => ?_)
  refine VS.aload_n dX7_order_117 rfl ?_
  refine VS.sgetI 6 dX7_order_118 uw_X7 rfl (by decide) 12 rfl rfl (by decide) fl_X7_166 rfl ?_
  refine VS.val (y := 0) rfl ?_
  refine VS.bipush (98) dX7_order_121 rfl ?_
  refine VS.icmp_eq 139 dX7_order_123 (by decide) (fun hh => absurd hh (by decide)) (fun _ => ?_)
  refine VS.aload_n dX7_order_126 rfl ?_
  refine VS.sgetI 6 dX7_order_127 uw_X7 rfl (by decide) 12 rfl rfl (by decide) fl_X7_166 rfl ?_
  refine VS.val (y := 0) rfl ?_
  refine VS.bipush (112) dX7_order_130 rfl ?_
  refine VS.icmp_eq 139 dX7_order_132 (by decide) (fun hh => absurd hh (by decide)) (fun _ => ?_)
  refine VS.iconst (1) dX7_order_135 rfl ?_
  refine VS.goto 140 dX7_order_136 (by decide) ?_
  refine VS.sput 6 dX7_order_140 uw_X7 tyX7 tyX7_ok nmX7 rfl (by decide) 11 rfl rfl (by decide) fl_X7_162 rfl rfl (rfl) (rfl) ?_
  refine VS.aload_n dX7_order_143 rfl ?_
  refine VS.dup dX7_order_144 rfl ?_
  refine VS.sgetI 6 dX7_order_145 uw_X7 rfl (by decide) 10 rfl rfl (by decide) fl_X7_159 rfl ?_
  refine VS.val (y := nI k) hk ?_
  refine VS.aload_n dX7_order_148 rfl ?_
  refine VS.sgetI 6 dX7_order_149 uw_X7 rfl (by decide) 11 rfl rfl (by decide) fl_X7_162 rfl ?_
  refine VS.val (y := 1) rfl ?_
  refine VS.if_eq 159 dX7_order_152 (by decide) (fun hh => absurd hh (by decide)) (fun _ => ?_)
  refine VS.iconst (0) dX7_order_155 rfl ?_
  refine VS.goto 160 dX7_order_156 (by decide) ?_
  refine VS.iadd dX7_order_160 ?_
  refine VS.val (y := nI k) (nI_p0 k) ?_
  refine VS.sput 6 dX7_order_161 uw_X7 tyX7 tyX7_ok nmX7 rfl (by decide) 10 rfl rfl (by decide) fl_X7_159 rfl rfl (rfl) (rfl) ?_
  refine VS.stt (S2 := od0 M k 1 0) (od0_of M k 1 0) ?_
  refine VS.aload_n dX7_order_164 rfl ?_
  refine VS.aload_n dX7_order_165 rfl ?_
  refine VS.sgetI 6 dX7_order_166 uw_X7 rfl (by decide) 12 rfl rfl (by decide) fl_X7_166 rfl ?_
  refine VS.val (y := 0) rfl ?_
  refine VS.bipush (99) dX7_order_169 rfl ?_
  refine VS.icmp_ne 185 dX7_order_171 (by decide) (fun _ => ?_) (fun hh => absurd hh (by decide))
  refine VS.iconst (0) dX7_order_185 rfl ?_
  refine VS.sput 6 dX7_order_186 uw_X7 tyX7 tyX7_ok nmX7 rfl (by decide) 13 rfl rfl (by decide) fl_X7_172 rfl rfl (rfl) (rfl) ?_
  refine VS.stt (S2 := od1 M k 1 0 0) (od1_of M _ _ _ _) ?_
  refine VS.aload_n dX7_order_189 rfl ?_
  refine VS.iload_n dX7_order_190 rfl ?_
  refine VS.if_eq 205 dX7_order_191 (by decide) (fun _ => ?_) (fun hh => absurd (rfl) hh)
  refine VS.iconst (0) dX7_order_205 rfl ?_
  refine VS.sput 6 dX7_order_206 uw_X7 tyX7 tyX7_ok nmX7 rfl (by decide) 14 rfl rfl (by decide) fl_X7_175 rfl rfl (rfl) (rfl) ?_
  refine VS.stt (S2 := od2 M k 1 0 0 0) (od2_of M _ _ _ _ _) ?_
  refine VS.aload_n dX7_order_209 rfl ?_
  refine VS.iload_n dX7_order_210 rfl ?_
  refine VS.if_eq 225 dX7_order_211 (by decide) (fun _ => ?_) (fun hh => absurd (rfl) hh)
  refine VS.iconst (0) dX7_order_225 rfl ?_
  refine VS.sput 6 dX7_order_226 uw_X7 tyX7 tyX7_ok nmX7 rfl (by decide) 15 rfl rfl (by decide) fl_X7_178 rfl rfl (rfl) (rfl) ?_
  refine VS.stt (S2 := od3 M k 1 0 0 0 0) (od3_of M _ _ _ _ _ _) ?_
  exact VS.vret dX7_order_229 rfl (shk rfl)
set_option maxRecDepth 100000 in
set_option maxHeartbeats 4000000 in
theorem ct_X7_order_bad (l : Launch) (M : SS)  {k L : Nat} {g : Int32} (hk : M 0 10 = nI k) (hL : M 0 6 = nI L) (hL2 : L ≤ 80) (hkL : k < L) (hw : M 0 11 = 0) (hg : M 5 k = g) (hn : ¬ g = 114 ∧ ¬ g = 43 ∧ ¬ g = 45 ∧ ¬ g = 99 ∧ ¬ g = 116 ∧ ¬ g = 100 ∧ ¬ g = 98 ∧ ¬ g = 112) : CtS l yX7_order cX7_order 3 none (rmD 2) [.ref 0] 7 shM M (none) (od3 M k 1 g 0 0 0) := by
  refine CtF.of (own := RX7) [some (.ref 0), none, none] (by decide +kernel) rfl (fun _ => Nat.le_of_ble_eq_true rfl) (fun _ => rfl) ?_
  refine VS.aload_n dX7_order_0 rfl ?_
  refine VS.aload_n dX7_order_1 rfl ?_
  refine VS.sgetI 6 dX7_order_2 uw_X7 rfl (by decide) 11 rfl rfl (by decide) fl_X7_162 rfl ?_
  refine VS.if_ne 19 dX7_order_5 (by decide) (fun hh => absurd (hw) hh) (fun _ => ?_)
  refine VS.aload_n dX7_order_8 rfl ?_
  refine VS.sgetI 6 dX7_order_9 uw_X7 rfl (by decide) 10 rfl rfl (by decide) fl_X7_159 rfl ?_
  refine VS.val (y := nI k) hk ?_
  refine VS.aload_n dX7_order_12 rfl ?_
  refine VS.sgetI 6 dX7_order_13 uw_X7 rfl (by decide) 6 rfl rfl (by decide) fl_X7_151 rfl ?_
  refine VS.val (y := nI L) hL ?_
  refine VS.icmp_ne 23 dX7_order_16 (by decide) (fun _ => ?_) (fun hh => absurd hh (fun q => absurd ((nI_eq (by omega) (by omega)).mp q) (by omega)))
  refine VS.aload_n dX7_order_23 rfl ?_
  refine VS.sgetR 6 dX7_order_24 uw_X7 rfl (by decide) 5 rfl rfl (by decide) fl_X7_23 rfl ?_
  refine VS.aload_n dX7_order_27 rfl ?_
  refine VS.sgetI 6 dX7_order_28 uw_X7 rfl (by decide) 10 rfl rfl (by decide) fl_X7_159 rfl ?_
  refine VS.val (y := nI k) hk ?_
  refine VS.siald (k) dX7_order_31 (by decide) rfl (rfl) (by omega) (by decide) ?_
  refine VS.val (y := g) hg ?_
  refine VS.sput 6 dX7_order_32 uw_X7 tyX7 tyX7_ok nmX7 rfl (by decide) 12 rfl rfl (by decide) fl_X7_166 rfl rfl (rfl) (rfl) ?_
  refine VS.aload_n dX7_order_35 rfl ?_
  refine VS.sgetI 6 dX7_order_36 uw_X7 rfl (by decide) 12 rfl rfl (by decide) fl_X7_166 rfl ?_
  refine VS.val (y := g) rfl ?_
  refine VS.bipush (114) dX7_order_39 rfl ?_
  refine VS.icmp_eq 71 dX7_order_41 (by decide) (fun hh => absurd hh (hn.1)) (fun _ => ?_)
  refine VS.aload_n dX7_order_44 rfl ?_
  refine VS.sgetI 6 dX7_order_45 uw_X7 rfl (by decide) 12 rfl rfl (by decide) fl_X7_166 rfl ?_
  refine VS.val (y := g) rfl ?_
  refine VS.bipush (43) dX7_order_48 rfl ?_
  refine VS.icmp_eq 71 dX7_order_50 (by decide) (fun hh => absurd hh (hn.2.1)) (fun _ => ?_)
  refine VS.aload_n dX7_order_53 rfl ?_
  refine VS.sgetI 6 dX7_order_54 uw_X7 rfl (by decide) 12 rfl rfl (by decide) fl_X7_166 rfl ?_
  refine VS.val (y := g) rfl ?_
  refine VS.bipush (45) dX7_order_57 rfl ?_
  refine VS.icmp_eq 71 dX7_order_59 (by decide) (fun hh => absurd hh (hn.2.2.1)) (fun _ => ?_)
  refine VS.aload_n dX7_order_62 rfl ?_
  refine VS.sgetI 6 dX7_order_63 uw_X7 rfl (by decide) 12 rfl rfl (by decide) fl_X7_166 rfl ?_
  refine VS.val (y := g) rfl ?_
  refine VS.bipush (99) dX7_order_66 rfl ?_
  refine VS.icmp_ne 75 dX7_order_68 (by decide) (fun _ => ?_) (fun hh => absurd hh (hn.2.2.2.1))
  refine VS.iconst (0) dX7_order_75 rfl ?_
  refine VS.istore_n dX7_order_76 (by decide) rfl ?_
  refine VS.iload_n dX7_order_77 rfl ?_
  refine VS.if_ne 99 dX7_order_78 (by decide) (fun hh => absurd (rfl) hh) (fun _ => ?_)
  refine VS.aload_n dX7_order_81 rfl ?_
  refine VS.sgetI 6 dX7_order_82 uw_X7 rfl (by decide) 12 rfl rfl (by decide) fl_X7_166 rfl ?_
  refine VS.val (y := g) rfl ?_
  refine VS.bipush (116) dX7_order_85 rfl ?_
  refine VS.icmp_eq 99 dX7_order_87 (by decide) (fun hh => absurd hh (hn.2.2.2.2.1)) (fun _ => ?_)
  refine VS.aload_n dX7_order_90 rfl ?_
  refine VS.sgetI 6 dX7_order_91 uw_X7 rfl (by decide) 12 rfl rfl (by decide) fl_X7_166 rfl ?_
  refine VS.val (y := g) rfl ?_
  refine VS.bipush (100) dX7_order_94 rfl ?_
  refine VS.icmp_ne 103 dX7_order_96 (by decide) (fun _ => ?_) (fun hh => absurd hh (hn.2.2.2.2.2.1))
  refine VS.iconst (0) dX7_order_103 rfl ?_
  refine VS.istore_n dX7_order_104 (by decide) rfl ?_
  refine VS.aload_n dX7_order_105 rfl ?_
  refine VS.aload_n dX7_order_106 rfl ?_
  refine VS.sgetI 6 dX7_order_107 uw_X7 rfl (by decide) 11 rfl rfl (by decide) fl_X7_162 rfl ?_
  refine VS.if_ne 135 dX7_order_110 (by decide) (fun hh => absurd (hw) hh) (fun _ => ?_)
  refine VS.iload_n dX7_order_113 rfl ?_
  refine VS.if_ne 139 dX7_order_114 (by decide) (fun hh => absurd (rfl) hh) (fun _ => ?_)
  refine VS.aload_n dX7_order_117 rfl ?_
  refine VS.sgetI 6 dX7_order_118 uw_X7 rfl (by decide) 12 rfl rfl (by decide) fl_X7_166 rfl ?_
  refine VS.val (y := g) rfl ?_
  refine VS.bipush (98) dX7_order_121 rfl ?_
  refine VS.icmp_eq 139 dX7_order_123 (by decide) (fun hh => absurd hh (hn.2.2.2.2.2.2.1)) (fun _ => ?_)
  refine VS.aload_n dX7_order_126 rfl ?_
  refine VS.sgetI 6 dX7_order_127 uw_X7 rfl (by decide) 12 rfl rfl (by decide) fl_X7_166 rfl ?_
  refine VS.val (y := g) rfl ?_
  refine VS.bipush (112) dX7_order_130 rfl ?_
  refine VS.icmp_eq 139 dX7_order_132 (by decide) (fun hh => absurd hh (hn.2.2.2.2.2.2.2)) (fun _ => ?_)
  refine VS.iconst (1) dX7_order_135 rfl ?_
  refine VS.goto 140 dX7_order_136 (by decide) ?_
  refine VS.sput 6 dX7_order_140 uw_X7 tyX7 tyX7_ok nmX7 rfl (by decide) 11 rfl rfl (by decide) fl_X7_162 rfl rfl (rfl) (rfl) ?_
  refine VS.aload_n dX7_order_143 rfl ?_
  refine VS.dup dX7_order_144 rfl ?_
  refine VS.sgetI 6 dX7_order_145 uw_X7 rfl (by decide) 10 rfl rfl (by decide) fl_X7_159 rfl ?_
  refine VS.val (y := nI k) hk ?_
  refine VS.aload_n dX7_order_148 rfl ?_
  refine VS.sgetI 6 dX7_order_149 uw_X7 rfl (by decide) 11 rfl rfl (by decide) fl_X7_162 rfl ?_
  refine VS.val (y := 1) rfl ?_
  refine VS.if_eq 159 dX7_order_152 (by decide) (fun hh => absurd hh (by decide)) (fun _ => ?_)
  refine VS.iconst (0) dX7_order_155 rfl ?_
  refine VS.goto 160 dX7_order_156 (by decide) ?_
  refine VS.iadd dX7_order_160 ?_
  refine VS.val (y := nI k) (nI_p0 k) ?_
  refine VS.sput 6 dX7_order_161 uw_X7 tyX7 tyX7_ok nmX7 rfl (by decide) 10 rfl rfl (by decide) fl_X7_159 rfl rfl (rfl) (rfl) ?_
  refine VS.stt (S2 := od0 M k 1 g) (od0_of M k 1 g) ?_
  refine VS.aload_n dX7_order_164 rfl ?_
  refine VS.aload_n dX7_order_165 rfl ?_
  refine VS.sgetI 6 dX7_order_166 uw_X7 rfl (by decide) 12 rfl rfl (by decide) fl_X7_166 rfl ?_
  refine VS.val (y := g) rfl ?_
  refine VS.bipush (99) dX7_order_169 rfl ?_
  refine VS.icmp_ne 185 dX7_order_171 (by decide) (fun _ => ?_) (fun hh => absurd hh (hn.2.2.2.1))
  refine VS.iconst (0) dX7_order_185 rfl ?_
  refine VS.sput 6 dX7_order_186 uw_X7 tyX7 tyX7_ok nmX7 rfl (by decide) 13 rfl rfl (by decide) fl_X7_172 rfl rfl (rfl) (rfl) ?_
  refine VS.stt (S2 := od1 M k 1 g 0) (od1_of M _ _ _ _) ?_
  refine VS.aload_n dX7_order_189 rfl ?_
  refine VS.iload_n dX7_order_190 rfl ?_
  refine VS.if_eq 205 dX7_order_191 (by decide) (fun _ => ?_) (fun hh => absurd (rfl) hh)
  refine VS.iconst (0) dX7_order_205 rfl ?_
  refine VS.sput 6 dX7_order_206 uw_X7 tyX7 tyX7_ok nmX7 rfl (by decide) 14 rfl rfl (by decide) fl_X7_175 rfl rfl (rfl) (rfl) ?_
  refine VS.stt (S2 := od2 M k 1 g 0 0) (od2_of M _ _ _ _ _) ?_
  refine VS.aload_n dX7_order_209 rfl ?_
  refine VS.iload_n dX7_order_210 rfl ?_
  refine VS.if_eq 225 dX7_order_211 (by decide) (fun _ => ?_) (fun hh => absurd (rfl) hh)
  refine VS.iconst (0) dX7_order_225 rfl ?_
  refine VS.sput 6 dX7_order_226 uw_X7 tyX7 tyX7_ok nmX7 rfl (by decide) 15 rfl rfl (by decide) fl_X7_178 rfl rfl (rfl) (rfl) ?_
  refine VS.stt (S2 := od3 M k 1 g 0 0 0) (od3_of M _ _ _ _ _ _) ?_
  exact VS.vret dX7_order_229 rfl (shk rfl)
