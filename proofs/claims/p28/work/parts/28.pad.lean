/-! the class: the pad -/
theorem due_out {x s : Int32} (h : x.toInt < 1 ∨ 5 < x.toInt) : dueI x s = 0 := by
  unfold dueI
  rw [if_neg (fun q => by subst q; revert h; decide), if_neg (fun q => by subst q; revert h; decide), if_neg (fun q => by subst q; revert h; decide), if_neg (fun q => by subst q; revert h; decide), if_neg (fun q => by subst q; revert h; decide)]
theorem sw_ltr (s : Int32) : s = 43 ∨ s = 45 ∨ s = 98 ∨ s = 99 ∨ s = 100 ∨ s = 112 ∨ s = 114 ∨ s = 116 ∨ (s ≠ 43 ∧ s ≠ 45 ∧ s ≠ 98 ∧ s ≠ 99 ∧ s ≠ 100 ∧ s ≠ 112 ∧ s ≠ 114 ∧ s ≠ 116) := by
  by_cases h1 : s = 43
  · exact Or.inl h1
  by_cases h2 : s = 45
  · exact Or.inr (Or.inl h2)
  by_cases h3 : s = 98
  · exact Or.inr (Or.inr (Or.inl h3))
  by_cases h4 : s = 99
  · exact Or.inr (Or.inr (Or.inr (Or.inl h4)))
  by_cases h5 : s = 100
  · exact Or.inr (Or.inr (Or.inr (Or.inr (Or.inl h5))))
  by_cases h6 : s = 112
  · exact Or.inr (Or.inr (Or.inr (Or.inr (Or.inr (Or.inl h6)))))
  by_cases h7 : s = 114
  · exact Or.inr (Or.inr (Or.inr (Or.inr (Or.inr (Or.inr (Or.inl h7))))))
  by_cases h8 : s = 116
  · exact Or.inr (Or.inr (Or.inr (Or.inr (Or.inr (Or.inr (Or.inr (Or.inl h8)))))))
  exact Or.inr (Or.inr (Or.inr (Or.inr (Or.inr (Or.inr (Or.inr (Or.inr ⟨h1, h2, h3, h4, h5, h6, h7, h8⟩)))))))
theorem tI_ne {s : Int32} {k : Int} (h : s ≠ Int32.ofInt k) : ¬ k = s.toInt := fun q => h (toInt_inj q.symm)
theorem ltr_out {s : Int32} (h : s ≠ 43 ∧ s ≠ 45 ∧ s ≠ 98 ∧ s ≠ 99 ∧ s ≠ 100 ∧ s ≠ 112 ∧ s ≠ 114 ∧ s ≠ 116) : ltrI s = 0 := by
  obtain ⟨h1, h2, h3, h4, h5, h6, h7, h8⟩ := h
  unfold ltrI
  rw [if_neg (fun q => q.elim h7 (fun z => z.elim h1 h2)), if_neg (fun q => q.elim h8 h5), if_neg h4, if_neg (fun q => q.elim h3 h6)]
set_option maxRecDepth 100000 in
set_option maxHeartbeats 4000000 in
theorem ct_X2_dueAfterLetter (l : Launch) (s : Int32) : CtN l yX2_dueAfterLetter cX2_dueAfterLetter 1 (some FieldType.int) (rmD 0) [.int s] (ltrI s) := by
  refine CtF.of (own := RX2) [some (.int s)] (by decide +kernel) rfl (fun _ => Nat.le_of_ble_eq_true rfl) (fun _ => rfl) ?_
  rcases sw_ltr s with rfl | rfl | rfl | rfl | rfl | rfl | rfl | rfl | ho
  · refine VS.iload_n dX2_dueAfterLetter_0 rfl ?_
    refine VS.lookup 76 dX2_dueAfterLetter_1 (by decide) (rfl) (by decide) ?_
    refine VS.iconst (3) dX2_dueAfterLetter_76 rfl ?_
    exact VS.iret dX2_dueAfterLetter_77 (rfl) (fun _ _ => rfl)
  · refine VS.iload_n dX2_dueAfterLetter_0 rfl ?_
    refine VS.lookup 76 dX2_dueAfterLetter_1 (by decide) (rfl) (by decide) ?_
    refine VS.iconst (3) dX2_dueAfterLetter_76 rfl ?_
    exact VS.iret dX2_dueAfterLetter_77 (rfl) (fun _ _ => rfl)
  · refine VS.iload_n dX2_dueAfterLetter_0 rfl ?_
    refine VS.lookup 82 dX2_dueAfterLetter_1 (by decide) (rfl) (by decide) ?_
    refine VS.iconst (5) dX2_dueAfterLetter_82 rfl ?_
    exact VS.iret dX2_dueAfterLetter_83 (rfl) (fun _ _ => rfl)
  · refine VS.iload_n dX2_dueAfterLetter_0 rfl ?_
    refine VS.lookup 80 dX2_dueAfterLetter_1 (by decide) (rfl) (by decide) ?_
    refine VS.iconst (2) dX2_dueAfterLetter_80 rfl ?_
    exact VS.iret dX2_dueAfterLetter_81 (rfl) (fun _ _ => rfl)
  · refine VS.iload_n dX2_dueAfterLetter_0 rfl ?_
    refine VS.lookup 78 dX2_dueAfterLetter_1 (by decide) (rfl) (by decide) ?_
    refine VS.iconst (4) dX2_dueAfterLetter_78 rfl ?_
    exact VS.iret dX2_dueAfterLetter_79 (rfl) (fun _ _ => rfl)
  · refine VS.iload_n dX2_dueAfterLetter_0 rfl ?_
    refine VS.lookup 82 dX2_dueAfterLetter_1 (by decide) (rfl) (by decide) ?_
    refine VS.iconst (5) dX2_dueAfterLetter_82 rfl ?_
    exact VS.iret dX2_dueAfterLetter_83 (rfl) (fun _ _ => rfl)
  · refine VS.iload_n dX2_dueAfterLetter_0 rfl ?_
    refine VS.lookup 76 dX2_dueAfterLetter_1 (by decide) (rfl) (by decide) ?_
    refine VS.iconst (3) dX2_dueAfterLetter_76 rfl ?_
    exact VS.iret dX2_dueAfterLetter_77 (rfl) (fun _ _ => rfl)
  · refine VS.iload_n dX2_dueAfterLetter_0 rfl ?_
    refine VS.lookup 78 dX2_dueAfterLetter_1 (by decide) (rfl) (by decide) ?_
    refine VS.iconst (4) dX2_dueAfterLetter_78 rfl ?_
    exact VS.iret dX2_dueAfterLetter_79 (rfl) (fun _ _ => rfl)
  · refine VS.iload_n dX2_dueAfterLetter_0 rfl ?_
    refine VS.lookup 84 dX2_dueAfterLetter_1 (by decide) ((if_neg (tI_ne ho.1)).trans ((if_neg (tI_ne ho.2.1)).trans ((if_neg (tI_ne ho.2.2.1)).trans ((if_neg (tI_ne ho.2.2.2.1)).trans ((if_neg (tI_ne ho.2.2.2.2.1)).trans ((if_neg (tI_ne ho.2.2.2.2.2.1)).trans ((if_neg (tI_ne ho.2.2.2.2.2.2.1)).trans ((if_neg (tI_ne ho.2.2.2.2.2.2.2)).trans (show Op.lookupswitch.offset [] 83 s.toInt = 83 from rfl))))))))) (by decide) ?_
    refine VS.iconst (0) dX2_dueAfterLetter_84 rfl ?_
    exact VS.iret dX2_dueAfterLetter_85 (by rw [ltr_out ho]) (fun _ _ => rfl)
theorem plS_iff (s : Int32) : (0 ≤ s - 97 ∧ s - 97 < 8) ↔ (97 ≤ s ∧ s ≤ 104) := by
  have e : (s - 97).toInt = if (s.toInt - 97) % 4294967296 < 2147483648 then (s.toInt - 97) % 4294967296 else (s.toInt - 97) % 4294967296 - 4294967296 := (Int32.toInt_sub s 97).trans (Int.bmod_def _ _)
  have h1 := Int32.le_toInt s
  have h2 := Int32.toInt_lt s
  constructor
  · rintro ⟨a, b⟩
    have a2 : (0 : Int) ≤ (s - 97).toInt := Int32.le_iff_toInt_le.mp a
    have b2 : (s - 97).toInt < 8 := Int32.lt_iff_toInt_lt.mp b
    refine ⟨Int32.le_iff_toInt_le.mpr ?_, Int32.le_iff_toInt_le.mpr ?_⟩
    · show (97 : Int) ≤ s.toInt; split at e <;> omega
    · show s.toInt ≤ (104 : Int); split at e <;> omega
  · rintro ⟨a, b⟩
    have a2 : (97 : Int) ≤ s.toInt := Int32.le_iff_toInt_le.mp a
    have b2 : s.toInt ≤ (104 : Int) := Int32.le_iff_toInt_le.mp b
    refine ⟨Int32.le_iff_toInt_le.mpr ?_, Int32.lt_iff_toInt_lt.mpr ?_⟩
    · show (0 : Int) ≤ (s - 97).toInt; split at e <;> omega
    · show (s - 97).toInt < (8 : Int); split at e <;> omega
theorem plS_i (s : Int32) : (if 0 ≤ s - 97 ∧ s - 97 < 8 then (1 : Int32) else 0) = if 97 ≤ s ∧ s ≤ 104 then 1 else 0 := by
  by_cases h : 97 ≤ s ∧ s ≤ 104
  · rw [if_pos h, if_pos ((plS_iff s).mpr h)]
  · rw [if_neg h, if_neg (fun q => h ((plS_iff s).mp q))]
set_option maxRecDepth 100000 in
set_option maxHeartbeats 4000000 in
theorem ct_X2_isPlaceSign (l : Launch) (s : Int32) : CtN l yX2_isPlaceSign cX2_isPlaceSign 1 (some FieldType.boolean) (rmD 1) [.int s] (if 97 ≤ s ∧ s ≤ 104 then 1 else 0) := by
  refine CtF.of (own := RX2) [some (.int s)] (by decide +kernel) rfl (fun _ => Nat.le_of_ble_eq_true rfl) (fun _ => rfl) ?_
  refine VS.iload_n dX2_isPlaceSign_0 rfl ?_
  refine VS.bipush (97) dX2_isPlaceSign_1 rfl ?_
  refine VS.isub dX2_isPlaceSign_3 ?_
  refine VS.callN (ct_X1_isPlace l _) dX2_isPlaceSign_4 mi_X1_isPlace st_X1_isPlace ml_X2_42 (rmOk_D (by decide) (by decide)) (Nat.le_of_ble_eq_true rfl) rfl ?_
  exact VS.zret dX2_isPlaceSign_7 (by first | rfl | exact nb_ite) (congrArg (fun z => some (Value.int z)) (plS_i s).symm) (fun _ _ => rfl)
set_option maxRecDepth 100000 in
set_option maxHeartbeats 4000000 in
theorem ct_X2_dueAfter (l : Launch) (x : Int32) (s : Int32) : CtN l yX2_dueAfter cX2_dueAfter 2 (some FieldType.int) (rmD 2) [.int x, .int s] (dueI x s) := by
  refine CtF.of (own := RX2) [some (.int x), some (.int s)] (by decide +kernel) rfl (fun _ => Nat.le_of_ble_eq_true rfl) (fun _ => rfl) ?_
  refine VS.iload_n dX2_dueAfter_0 rfl ?_
  rcases sw_1_5 x with rfl | rfl | rfl | rfl | rfl | ho
  · refine VS.tableIn 36 dX2_dueAfter_1 (by decide) (by decide) rfl (by decide) ?_
    refine VS.iload_n dX2_dueAfter_36 rfl ?_
    refine VS.callN (ct_X2_dueAfterLetter l _) dX2_dueAfter_37 mi_X2_dueAfterLetter st_X2_dueAfterLetter ml_X2_35 (rmOk_D (by decide) (by decide)) (Nat.le_of_ble_eq_true rfl) rfl ?_
    exact VS.iret dX2_dueAfter_40 (rfl) (fun _ _ => rfl)
  · refine VS.tableIn 41 dX2_dueAfter_1 (by decide) (by decide) rfl (by decide) ?_
    refine VS.iload_n dX2_dueAfter_41 rfl ?_
    refine VS.bipush (48) dX2_dueAfter_42 rfl ?_
    refine VS.icmp_lt 57 dX2_dueAfter_44 (by decide) (fun h_44 => ?_) (fun h_44 => ?_)
    · refine VS.iconst (0) dX2_dueAfter_57 rfl ?_
      exact VS.iret dX2_dueAfter_58 (by first | exact congrArg (fun z => some (Value.int z)) ((d2 s).trans (if_neg (fun q => Int32.not_le.mpr h_44 q.1))) | exact congrArg (fun z => some (Value.int z)) ((d2 s).trans (if_neg (fun q => Int32.not_le.mpr h_50 q.2))) | exact congrArg (fun z => some (Value.int z)) ((d2 s).trans (if_pos ⟨Int32.not_lt.mp h_44, Int32.not_lt.mp h_50⟩))) (fun _ _ => rfl)
    · refine VS.iload_n dX2_dueAfter_47 rfl ?_
      refine VS.bipush (57) dX2_dueAfter_48 rfl ?_
      refine VS.icmp_gt 57 dX2_dueAfter_50 (by decide) (fun h_50 => ?_) (fun h_50 => ?_)
      · refine VS.iconst (0) dX2_dueAfter_57 rfl ?_
        exact VS.iret dX2_dueAfter_58 (by first | exact congrArg (fun z => some (Value.int z)) ((d2 s).trans (if_neg (fun q => Int32.not_le.mpr h_44 q.1))) | exact congrArg (fun z => some (Value.int z)) ((d2 s).trans (if_neg (fun q => Int32.not_le.mpr h_50 q.2))) | exact congrArg (fun z => some (Value.int z)) ((d2 s).trans (if_pos ⟨Int32.not_lt.mp h_44, Int32.not_lt.mp h_50⟩))) (fun _ _ => rfl)
      · refine VS.iconst (3) dX2_dueAfter_53 rfl ?_
        refine VS.goto 58 dX2_dueAfter_54 (by decide) ?_
        exact VS.iret dX2_dueAfter_58 (by first | exact congrArg (fun z => some (Value.int z)) ((d2 s).trans (if_neg (fun q => Int32.not_le.mpr h_44 q.1))) | exact congrArg (fun z => some (Value.int z)) ((d2 s).trans (if_neg (fun q => Int32.not_le.mpr h_50 q.2))) | exact congrArg (fun z => some (Value.int z)) ((d2 s).trans (if_pos ⟨Int32.not_lt.mp h_44, Int32.not_lt.mp h_50⟩))) (fun _ _ => rfl)
  · refine VS.tableIn 59 dX2_dueAfter_1 (by decide) (by decide) rfl (by decide) ?_
    refine VS.iload_n dX2_dueAfter_59 rfl ?_
    refine VS.callN (ct_X2_isPlaceSign l _) dX2_dueAfter_60 mi_X2_isPlaceSign st_X2_isPlaceSign ml_X2_38 (rmOk_D (by decide) (by decide)) (Nat.le_of_ble_eq_true rfl) rfl ?_
    refine VS.if_eq 70 dX2_dueAfter_63 (by decide) (fun h_63 => ?_) (fun h_63 => ?_)
    · refine VS.iconst (0) dX2_dueAfter_70 rfl ?_
      exact VS.iret dX2_dueAfter_71 (by first | exact congrArg (fun z => some (Value.int z)) ((d3 s).trans (if_neg (ite10.mp h_63))) | exact congrArg (fun z => some (Value.int z)) ((d3 s).trans (if_pos (ite11 h_63)))) (fun _ _ => rfl)
    · refine VS.iconst (4) dX2_dueAfter_66 rfl ?_
      refine VS.goto 71 dX2_dueAfter_67 (by decide) ?_
      exact VS.iret dX2_dueAfter_71 (by first | exact congrArg (fun z => some (Value.int z)) ((d3 s).trans (if_neg (ite10.mp h_63))) | exact congrArg (fun z => some (Value.int z)) ((d3 s).trans (if_pos (ite11 h_63)))) (fun _ _ => rfl)
  · refine VS.tableIn 72 dX2_dueAfter_1 (by decide) (by decide) rfl (by decide) ?_
    refine VS.iload_n dX2_dueAfter_72 rfl ?_
    refine VS.callN (ct_X2_isPlaceSign l _) dX2_dueAfter_73 mi_X2_isPlaceSign st_X2_isPlaceSign ml_X2_38 (rmOk_D (by decide) (by decide)) (Nat.le_of_ble_eq_true rfl) rfl ?_
    refine VS.if_eq 83 dX2_dueAfter_76 (by decide) (fun h_76 => ?_) (fun h_76 => ?_)
    · refine VS.iconst (0) dX2_dueAfter_83 rfl ?_
      exact VS.iret dX2_dueAfter_84 (by first | exact congrArg (fun z => some (Value.int z)) ((d4 s).trans (if_neg (ite10.mp h_76))) | exact congrArg (fun z => some (Value.int z)) ((d4 s).trans (if_pos (ite11 h_76)))) (fun _ _ => rfl)
    · refine VS.iconst (5) dX2_dueAfter_79 rfl ?_
      refine VS.goto 84 dX2_dueAfter_80 (by decide) ?_
      exact VS.iret dX2_dueAfter_84 (by first | exact congrArg (fun z => some (Value.int z)) ((d4 s).trans (if_neg (ite10.mp h_76))) | exact congrArg (fun z => some (Value.int z)) ((d4 s).trans (if_pos (ite11 h_76)))) (fun _ _ => rfl)
  · refine VS.tableIn 85 dX2_dueAfter_1 (by decide) (by decide) rfl (by decide) ?_
    refine VS.iload_n dX2_dueAfter_85 rfl ?_
    refine VS.bipush (59) dX2_dueAfter_86 rfl ?_
    refine VS.icmp_ne 95 dX2_dueAfter_88 (by decide) (fun h_88 => ?_) (fun h_88 => ?_)
    · refine VS.iconst (0) dX2_dueAfter_95 rfl ?_
      exact VS.iret dX2_dueAfter_96 (by first | exact congrArg (fun z => some (Value.int z)) ((d5 s).trans (if_neg h_88)) | exact congrArg (fun z => some (Value.int z)) ((d5 s).trans (if_pos h_88))) (fun _ _ => rfl)
    · refine VS.iconst (1) dX2_dueAfter_91 rfl ?_
      refine VS.goto 96 dX2_dueAfter_92 (by decide) ?_
      exact VS.iret dX2_dueAfter_96 (by first | exact congrArg (fun z => some (Value.int z)) ((d5 s).trans (if_neg h_88)) | exact congrArg (fun z => some (Value.int z)) ((d5 s).trans (if_pos h_88))) (fun _ _ => rfl)
  · refine VS.tableOut 97 dX2_dueAfter_1 (ho) (by decide) ?_
    refine VS.iconst (0) dX2_dueAfter_97 rfl ?_
    exact VS.iret dX2_dueAfter_98 (by rw [due_out ho]) (fun _ _ => rfl)
set_option maxRecDepth 100000 in
set_option maxHeartbeats 4000000 in
theorem ct_X2_sign (l : Launch) (S : SS)  {k L : Nat} (hL : S 0 1 = nI L) (hL2 : L ≤ 80) (hk : k < 2000) : CtS l yX2_sign cX2_sign 2 (some FieldType.int) (rmD 0) [.ref 0, .int (nI k)] 2 shD S (some (.int (itI (S 1) L k))) (S) := by
  refine CtF.of (own := RX2) [some (.ref 0), some (.int (nI k))] (by decide +kernel) rfl (fun _ => Nat.le_of_ble_eq_true rfl) (fun _ => rfl) ?_
  refine VS.iload_n dX2_sign_0 rfl ?_
  refine VS.if_lt 30 dX2_sign_1 (by decide) (fun hh => absurd hh (nI_pos (by omega))) (fun _ => ?_)
  refine VS.iload_n dX2_sign_4 rfl ?_
  refine VS.aload_n dX2_sign_5 rfl ?_
  refine VS.sgetI 1 dX2_sign_6 uw_X2 rfl (by decide) 1 (rfl) rfl (by decide) fl_X2_19 rfl ?_
  refine VS.val (y := nI L) hL ?_
  refine VS.icmp_ge 30 dX2_sign_9 (by decide) (fun h_9 => ?_) (fun h_9 => ?_)
  · refine VS.iconst (0) dX2_sign_30 rfl ?_
    exact VS.iret dX2_sign_31 (by first | exact congrArg (fun z => some (Value.int z)) (it_ge (fun q => nI_ge q (by omega) h_9)) | exact congrArg (fun z => some (Value.int z)) (it_lt (lt_of_nI (by omega) (by omega) h_9))) (fun _ _ => rfl)
  · refine VS.iload_n dX2_sign_12 rfl ?_
    refine VS.aload_n dX2_sign_13 rfl ?_
    refine VS.sgetR 1 dX2_sign_14 uw_X2 rfl (by decide) 0 (rfl) rfl (by decide) fl_X2_11 rfl ?_
    refine VS.salen (v := 80) .char dX2_sign_17 (by decide) rfl (fun _ => rfl) rfl ?_
    refine VS.icmp_ge 30 dX2_sign_18 (by decide) (fun hh => absurd hh (nI_ge (b := 80) (Nat.lt_of_lt_of_le (lt_of_nI (by omega) (by omega) h_9) hL2) (by decide))) (fun _ => ?_)
    refine VS.aload_n dX2_sign_21 rfl ?_
    refine VS.sgetR 1 dX2_sign_22 uw_X2 rfl (by decide) 0 (rfl) rfl (by decide) fl_X2_11 rfl ?_
    refine VS.iload_n dX2_sign_25 rfl ?_
    refine VS.scald (k) dX2_sign_26 (by decide) rfl (rfl) (Nat.lt_of_lt_of_le (lt_of_nI (by omega) (by omega) h_9) hL2) (by decide) ?_
    refine VS.goto 31 dX2_sign_27 (by decide) ?_
    exact VS.iret dX2_sign_31 (by first | exact congrArg (fun z => some (Value.int z)) (it_ge (fun q => nI_ge q (by omega) h_9)) | exact congrArg (fun z => some (Value.int z)) (it_lt (lt_of_nI (by omega) (by omega) h_9))) (fun _ _ => rfl)
set_option maxRecDepth 100000 in
set_option maxHeartbeats 4000000 in
theorem ct_X2_placeAt (l : Launch) (S : SS)  {k L : Nat} (hL : S 0 1 = nI L) (hL2 : L ≤ 80) (hk : k < 2000) : CtS l yX2_placeAt cX2_placeAt 2 (some FieldType.int) (rmD 1) [.ref 0, .int (nI k)] 2 shD S (some (.int (itI (S 1) L k - 97))) (S) := by
  refine CtF.of (own := RX2) [some (.ref 0), some (.int (nI k))] (by decide +kernel) rfl (fun _ => Nat.le_of_ble_eq_true rfl) (fun _ => rfl) ?_
  refine VS.aload_n dX2_placeAt_0 rfl ?_
  refine VS.iload_n dX2_placeAt_1 rfl ?_
  refine VS.callT (ct_X2_sign l _ hL hL2 hk) dX2_placeAt_2 mi_X2_sign im_X2_sign sel_X2_sign ml_X2_27 (by decide) rfl rfl (rmOk_D (by decide) (by decide)) (Nat.le_of_ble_eq_true rfl) rfl ?_
  refine VS.bipush (97) dX2_placeAt_5 rfl ?_
  refine VS.isub dX2_placeAt_7 ?_
  exact VS.iret dX2_placeAt_8 (rfl) (fun _ _ => rfl)
set_option maxRecDepth 100000 in
set_option maxHeartbeats 4000000 in
theorem ct_X2_digitAt (l : Launch) (S : SS)  {k L : Nat} (hL : S 0 1 = nI L) (hL2 : L ≤ 80) (hk : k < 2000) : CtS l yX2_digitAt cX2_digitAt 2 (some FieldType.int) (rmD 1) [.ref 0, .int (nI k)] 2 shD S (some (.int (itI (S 1) L k - 48))) (S) := by
  refine CtF.of (own := RX2) [some (.ref 0), some (.int (nI k))] (by decide +kernel) rfl (fun _ => Nat.le_of_ble_eq_true rfl) (fun _ => rfl) ?_
  refine VS.aload_n dX2_digitAt_0 rfl ?_
  refine VS.iload_n dX2_digitAt_1 rfl ?_
  refine VS.callT (ct_X2_sign l _ hL hL2 hk) dX2_digitAt_2 mi_X2_sign im_X2_sign sel_X2_sign ml_X2_27 (by decide) rfl rfl (rmOk_D (by decide) (by decide)) (Nat.le_of_ble_eq_true rfl) rfl ?_
  refine VS.bipush (48) dX2_digitAt_5 rfl ?_
  refine VS.isub dX2_digitAt_7 ?_
  exact VS.iret dX2_digitAt_8 (rfl) (fun _ _ => rfl)
theorem nI_dec {k : Nat} (h : k ≠ 0) : nI k - 1 = nI (k - 1) := by
  obtain ⟨m, rfl⟩ : ∃ m, k = m + 1 := ⟨k - 1, by omega⟩
  exact nI_pred m
theorem nI_z {k : Nat} (hk : k < 2 ^ 31) (h : nI k = 0) : k = 0 := (nI_eq (b := 0) hk (by decide)).mp h
set_option maxRecDepth 100000 in
set_option maxHeartbeats 4000000 in
theorem ct_X2_startsOrder (l : Launch) (S : SS)  {k L : Nat} (hL : S 0 1 = nI L) (hL2 : L ≤ 80) (hk : k < 2000) : CtS l yX2_startsOrder cX2_startsOrder 2 (some FieldType.boolean) (rmD 1) [.ref 0, .int (nI k)] 2 shD S (some (.int (if k = 0 ∨ itI (S 1) L (k - 1) = 59 then 1 else 0))) (S) := by
  refine CtF.of (own := RX2) [some (.ref 0), some (.int (nI k))] (by decide +kernel) rfl (fun _ => Nat.le_of_ble_eq_true rfl) (fun _ => rfl) ?_
  refine VS.iload_n dX2_startsOrder_0 rfl ?_
  refine VS.if_eq 16 dX2_startsOrder_1 (by decide) (fun h_1 => ?_) (fun h_1 => ?_)
  · refine VS.iconst (1) dX2_startsOrder_16 rfl ?_
    refine VS.goto 21 dX2_startsOrder_17 (by decide) ?_
    exact VS.zret dX2_startsOrder_21 (by first | rfl | exact nb_ite) (by first | exact congrArg (fun z => some (Value.int z)) (if_pos (Or.inl (nI_z (by omega) h_1))) | exact congrArg (fun z => some (Value.int z)) (if_pos (Or.inr h_13)) | exact congrArg (fun z => some (Value.int z)) (if_neg (fun q : k = 0 ∨ itI (S 1) L (k - 1) = 59 => q.elim (fun z => h_1 (by rw [z]; rfl)) h_13))) (fun _ _ => rfl)
  · refine VS.aload_n dX2_startsOrder_4 rfl ?_
    refine VS.iload_n dX2_startsOrder_5 rfl ?_
    refine VS.iconst (1) dX2_startsOrder_6 rfl ?_
    refine VS.isub dX2_startsOrder_7 ?_
    refine VS.val (y := nI (k - 1)) (nI_dec (fun q => h_1 (by rw [q]; rfl))) ?_
    refine VS.callT (ct_X2_sign l _ hL hL2 (show k - 1 < 2000 by omega)) dX2_startsOrder_8 mi_X2_sign im_X2_sign sel_X2_sign ml_X2_27 (by decide) rfl rfl (rmOk_D (by decide) (by decide)) (Nat.le_of_ble_eq_true rfl) rfl ?_
    refine VS.bipush (59) dX2_startsOrder_11 rfl ?_
    refine VS.icmp_ne 20 dX2_startsOrder_13 (by decide) (fun h_13 => ?_) (fun h_13 => ?_)
    · refine VS.iconst (0) dX2_startsOrder_20 rfl ?_
      exact VS.zret dX2_startsOrder_21 (by first | rfl | exact nb_ite) (by first | exact congrArg (fun z => some (Value.int z)) (if_pos (Or.inl (nI_z (by omega) h_1))) | exact congrArg (fun z => some (Value.int z)) (if_pos (Or.inr h_13)) | exact congrArg (fun z => some (Value.int z)) (if_neg (fun q : k = 0 ∨ itI (S 1) L (k - 1) = 59 => q.elim (fun z => h_1 (by rw [z]; rfl)) h_13))) (fun _ _ => rfl)
    · refine VS.iconst (1) dX2_startsOrder_16 rfl ?_
      refine VS.goto 21 dX2_startsOrder_17 (by decide) ?_
      exact VS.zret dX2_startsOrder_21 (by first | rfl | exact nb_ite) (by first | exact congrArg (fun z => some (Value.int z)) (if_pos (Or.inl (nI_z (by omega) h_1))) | exact congrArg (fun z => some (Value.int z)) (if_pos (Or.inr h_13)) | exact congrArg (fun z => some (Value.int z)) (if_neg (fun q : k = 0 ∨ itI (S 1) L (k - 1) = 59 => q.elim (fun z => h_1 (by rw [z]; rfl)) h_13))) (fun _ _ => rfl)
set_option maxRecDepth 100000 in
set_option maxHeartbeats 4000000 in
theorem ct_X2_empty (l : Launch) (S : SS)  : CtS l yX2_empty cX2_empty 2 (some FieldType.int) (rmD 0) [.ref 0] 2 shD S (some (.int (S 0 1))) (up2 S 0 1 0) := by
  refine CtF.of (own := RX2) [some (.ref 0), none] (by decide +kernel) rfl (fun _ => Nat.le_of_ble_eq_true rfl) (fun _ => rfl) ?_
  refine VS.aload_n dX2_empty_0 rfl ?_
  refine VS.sgetI 1 dX2_empty_1 uw_X2 rfl (by decide) 1 (rfl) rfl (by decide) fl_X2_19 rfl ?_
  refine VS.istore_n dX2_empty_4 (by decide) rfl ?_
  refine VS.aload_n dX2_empty_5 rfl ?_
  refine VS.iconst (0) dX2_empty_6 rfl ?_
  refine VS.sput 1 dX2_empty_7 uw_X2 tyX2 tyX2_ok nmX2 rfl (by decide) 1 (rfl) rfl (by decide) fl_X2_19 rfl rfl (rfl) (rfl) ?_
  refine VS.iload_n dX2_empty_10 rfl ?_
  exact VS.iret dX2_empty_11 (rfl) (fun _ _ => rfl)
def fautI (P : Nat → Int32) (L : Nat) : Nat → Nat → Int32
  | 0, _ => if dS P L = 5 then -6 else nI L
  | n + 1, k => if dS P (k + 1) = 0 then nI k else fautI P L n (k + 1)
theorem fau_b {P : Nat → Int32} {L i : Nat} (hi : i < L) (h : dS P (i + 1) = 0) : fautI P L (L - i) i = nI i := by
  rw [show L - i = (L - (i + 1)) + 1 by omega]; exact if_pos h
theorem fau_5 {P : Nat → Int32} {L : Nat} (h : dS P L = 5) : fautI P L (L - L) L = -6 := by rw [Nat.sub_self]; exact if_pos h
theorem fau_n {P : Nat → Int32} {L : Nat} (h : ¬ dS P L = 5) : fautI P L (L - L) L = nI L := by rw [Nat.sub_self]; exact if_neg h
set_option maxRecDepth 100000 in
set_option maxHeartbeats 4000000 in
theorem ct_X2_firstFault (l : Launch) (S : SS)  {L : Nat} (hL : S 0 1 = nI L) (hL2 : L ≤ 80) : CtS l yX2_firstFault cX2_firstFault 3 (some FieldType.int) (rmD 3) [.ref 0] 2 shD S (some (.int (fautI (S 1) L L 0))) (S) := by
  refine CtF.of (own := RX2) [some (.ref 0), none, none] (by decide +kernel) rfl (fun _ => Nat.le_of_ble_eq_true rfl) (fun _ => rfl) ?_
  refine VS.iconst (1) dX2_firstFault_0 rfl ?_
  refine VS.istore_n dX2_firstFault_1 (by decide) rfl ?_
  refine VS.iconst (0) dX2_firstFault_2 rfl ?_
  refine VS.istore_n dX2_firstFault_3 (by decide) rfl ?_
  refine VS.forSH (fun i => fautI (S 1) L L 0 = fautI (S 1) L (L - i) i) (i0 := 0) (L) (fun _ => S) (fun i => [some (.ref 0), some (.int (dS (S 1) i)), some (.int (nI i))]) (Nat.zero_le _) rfl (fun hy => ?_) (fun i hi hy ih => ?_)
  · refine VS.iload_n dX2_firstFault_4 rfl ?_
    refine VS.aload_n dX2_firstFault_5 rfl ?_
    refine VS.sgetI 1 dX2_firstFault_6 uw_X2 rfl (by decide) 1 (rfl) rfl (by decide) fl_X2_19 rfl ?_
    refine VS.val (y := nI L) hL ?_
    refine VS.icmp_ge 34 dX2_firstFault_9 (by decide) (fun _ => ?_) (fun hh => absurd (nI_le (Nat.le_refl _) (by omega)) hh)
    refine VS.iload_n dX2_firstFault_34 rfl ?_
    refine VS.iconst (5) dX2_firstFault_35 rfl ?_
    refine VS.icmp_ne 44 dX2_firstFault_36 (by decide) (fun h_36 => ?_) (fun h_36 => ?_)
    · refine VS.aload_n dX2_firstFault_44 rfl ?_
      refine VS.sgetI 1 dX2_firstFault_45 uw_X2 rfl (by decide) 1 (rfl) rfl (by decide) fl_X2_19 rfl ?_
      refine VS.val (y := nI L) hL ?_
      exact VS.iret dX2_firstFault_48 (by rw [hy]; first | rw [fau_b hi h_23] | rw [fau_5 h_36] | rw [fau_n h_36]) (fun _ _ => rfl)
    · refine VS.bipush (-6) dX2_firstFault_39 rfl ?_
      refine VS.goto 48 dX2_firstFault_41 (by decide) ?_
      exact VS.iret dX2_firstFault_48 (by rw [hy]; first | rw [fau_b hi h_23] | rw [fau_5 h_36] | rw [fau_n h_36]) (fun _ _ => rfl)
  · refine VS.iload_n dX2_firstFault_4 rfl ?_
    refine VS.aload_n dX2_firstFault_5 rfl ?_
    refine VS.sgetI 1 dX2_firstFault_6 uw_X2 rfl (by decide) 1 (rfl) rfl (by decide) fl_X2_19 rfl ?_
    refine VS.val (y := nI L) hL ?_
    refine VS.icmp_ge 34 dX2_firstFault_9 (by decide) (fun hh => absurd hh (nI_ge hi (by omega))) (fun _ => ?_)
    refine VS.iload_n dX2_firstFault_12 rfl ?_
    refine VS.aload_n dX2_firstFault_13 rfl ?_
    refine VS.iload_n dX2_firstFault_14 rfl ?_
    refine VS.callT (ct_X2_sign l _ hL hL2 (by omega)) dX2_firstFault_15 mi_X2_sign im_X2_sign sel_X2_sign ml_X2_27 (by decide) rfl rfl (rmOk_D (by decide) (by decide)) (Nat.le_of_ble_eq_true rfl) rfl ?_
    refine VS.val (y := S 1 i) (it_lt hi) ?_
    refine VS.callN (ct_X2_dueAfter l _ _) dX2_firstFault_18 mi_X2_dueAfter st_X2_dueAfter ml_X2_31 (rmOk_D (by decide) (by decide)) (Nat.le_of_ble_eq_true rfl) rfl ?_
    refine VS.val (y := dS (S 1) (i + 1)) rfl ?_
    refine VS.istore_n dX2_firstFault_21 (by decide) rfl ?_
    refine VS.iload_n dX2_firstFault_22 rfl ?_
    refine VS.if_ne 28 dX2_firstFault_23 (by decide) (fun h_23 => ?_) (fun h_23 => ?_)
    · refine VS.iinc (nI (i + 1)) dX2_firstFault_28 rfl (by decide) ((nI_succ i).symm) rfl ?_
      refine VS.goto 4 dX2_firstFault_31 (by decide) ?_
      exact ih (hy.trans (by rw [show L - i = (L - (i + 1)) + 1 by omega]; exact if_neg h_23))
    · refine VS.iload_n dX2_firstFault_26 rfl ?_
      exact VS.iret dX2_firstFault_27 (by rw [hy]; first | rw [fau_b hi h_23] | rw [fau_5 h_36] | rw [fau_n h_36]) (fun _ _ => rfl)
theorem chG_0 {c : Int64} {k : Nat} (hk : k < 8) (h : cdL c (nI k) = 0) : chG c (8 - k) k = chF c k := by
  rw [show 8 - k = (8 - (k + 1)) + 1 by omega]; exact if_pos h
theorem chG_bad {c : Int64} {k : Nat} (hk : k < 8) (h : ¬ cdL c (nI k) = 0) (h2 : cdL c (nI k) < 33 ∨ 126 < cdL c (nI k)) : chG c (8 - k) k = -2 := by
  rw [show 8 - k = (8 - (k + 1)) + 1 by omega]; exact (if_neg h).trans (if_pos h2)
theorem chG_s {c : Int64} {k : Nat} (hk : k < 8) (h : ¬ cdL c (nI k) = 0) (h2 : ¬ cdL c (nI k) < 33) (h3 : ¬ 126 < cdL c (nI k)) : chG c (8 - k) k = chG c (8 - (k + 1)) (k + 1) := by
  rw [show 8 - k = (8 - (k + 1)) + 1 by omega]; exact (if_neg h).trans (if_neg (fun q => q.elim h2 h3))
def moI (c : Int64) (k : Nat) : Int32 := if k < 8 ∧ ¬ lg_cmp (c.toUInt64 >>> ((8 * nI k).toInt64.toUInt64 &&& Int64.toUInt64 63)).toInt64 0 = 0 then 1 else 0
theorem chF_0 {c : Int64} {k : Nat} (h : nI k = 0) (hk : k < 2 ^ 31) : chF c k = -2 := if_pos (Or.inl (nI_z hk h))
theorem chF_m {c : Int64} {k : Nat} (h : ¬ moI c k = 0) : chF c k = -2 := if_pos (Or.inr (Decidable.byContradiction fun q => h (if_neg q)))
theorem chF_n {c : Int64} {k : Nat} (h0 : ¬ nI k = 0) (h : moI c k = 0) : chF c k = nI k := if_neg (fun q => q.elim (fun z => h0 (by rw [z]; rfl)) (fun z => absurd ((if_pos z).symm.trans h : (1 : Int32) = 0) (by decide)))
set_option maxRecDepth 100000 in
set_option maxHeartbeats 4000000 in
theorem ct_X2_charactersIn (l : Launch) (c : Int64) : CtN l yX2_charactersIn cX2_charactersIn 4 (some FieldType.int) (rmD 1) [.long c] (chI c) := by
  refine CtF.of (own := RX2) [some (.long c), none, none, none] (by decide +kernel) rfl (fun _ => Nat.le_of_ble_eq_true rfl) (fun _ => rfl) ?_
  refine VS.iconst (0) dX2_charactersIn_0 rfl ?_
  refine VS.istore_n dX2_charactersIn_1 (by decide) rfl ?_
  refine VS.forH (fun k => chI c = chG c (8 - k) k) (i0 := 0) (8) (fun _ => gz) (fun k => [some (.long c), none, some (.int (nI k)), none]) (by decide) rfl (fun hy => ?_) (fun k hk hy ih => ?_)
  · refine VS.iload_n dX2_charactersIn_2 rfl ?_
    refine VS.bipush (8) dX2_charactersIn_3 rfl ?_
    refine VS.icmp_ge 43 dX2_charactersIn_5 (by decide) (fun _ => ?_) (fun hh => absurd (by decide) hh)
    refine VS.iload_n dX2_charactersIn_43 rfl ?_
    refine VS.bipush (8) dX2_charactersIn_44 rfl ?_
    refine VS.icmp_ge 64 dX2_charactersIn_46 (by decide) (fun _ => ?_) (fun hh => absurd (by decide) hh)
    refine VS.iconst (0) dX2_charactersIn_64 rfl ?_
    refine VS.val (y := moI c 8) rfl ?_
    refine VS.istore_n dX2_charactersIn_65 (by decide) rfl ?_
    refine VS.iload_n dX2_charactersIn_66 rfl ?_
    refine VS.if_eq 74 dX2_charactersIn_67 (by decide) (fun hh => absurd hh (by decide)) (fun _ => ?_)
    refine VS.iload_n dX2_charactersIn_70 rfl ?_
    refine VS.if_eq 79 dX2_charactersIn_71 (by decide) (fun h_71 => ?_) (fun h_71 => ?_)
    · refine VS.iload_n dX2_charactersIn_79 rfl ?_
      exact VS.iret dX2_charactersIn_80 (by rw [hy]; first | exact congrArg (fun z => some (Value.int z)) (chF_m h_71) | exact congrArg (fun z => some (Value.int z)) (chF_n (by decide) h_71)) (fun _ _ => rfl)
    · refine VS.bipush (-2) dX2_charactersIn_74 rfl ?_
      refine VS.goto 80 dX2_charactersIn_76 (by decide) ?_
      exact VS.iret dX2_charactersIn_80 (by rw [hy]; first | exact congrArg (fun z => some (Value.int z)) (chF_m h_71) | exact congrArg (fun z => some (Value.int z)) (chF_n (by decide) h_71)) (fun _ _ => rfl)
  · refine VS.iload_n dX2_charactersIn_2 rfl ?_
    refine VS.bipush (8) dX2_charactersIn_3 rfl ?_
    refine VS.icmp_ge 43 dX2_charactersIn_5 (by decide) (fun hh => absurd hh (nge8 hk)) (fun _ => ?_)
    refine VS.lload_n dX2_charactersIn_8 rfl ?_
    refine VS.iload_n dX2_charactersIn_9 rfl ?_
    refine VS.callN (ct_X2_codeIn l _ _) dX2_charactersIn_10 mi_X2_codeIn st_X2_codeIn ml_X2_23 (rmOk_D (by decide) (by decide)) (Nat.le_of_ble_eq_true rfl) rfl ?_
    refine VS.if_eq 43 dX2_charactersIn_13 (by decide) (fun h_13 => ?_) (fun h_13 => ?_)
    · refine VS.iload_n dX2_charactersIn_43 rfl ?_
      refine VS.bipush (8) dX2_charactersIn_44 rfl ?_
      refine VS.icmp_ge 64 dX2_charactersIn_46 (by decide) (fun hh => absurd hh (nge8 hk)) (fun _ => ?_)
      refine VS.lload_n dX2_charactersIn_49 rfl ?_
      refine VS.bipush (8) dX2_charactersIn_50 rfl ?_
      refine VS.iload_n dX2_charactersIn_52 rfl ?_
      refine VS.imul dX2_charactersIn_53 ?_
      refine VS.lushr dX2_charactersIn_54 ?_
      refine VS.lconst 0 dX2_charactersIn_55 rfl ?_
      refine VS.lcmp dX2_charactersIn_56 ?_
      refine VS.if_eq 64 dX2_charactersIn_57 (by decide) (fun h_57 => ?_) (fun h_57 => ?_)
      · refine VS.iconst (0) dX2_charactersIn_64 rfl ?_
        refine VS.val (y := moI c k) (by first | exact (if_neg (fun q => q.2 h_57)).symm | exact (if_pos ⟨hk, h_57⟩).symm) ?_
        refine VS.istore_n dX2_charactersIn_65 (by decide) rfl ?_
        refine VS.iload_n dX2_charactersIn_66 rfl ?_
        refine VS.if_eq 74 dX2_charactersIn_67 (by decide) (fun h_67 => ?_) (fun h_67 => ?_)
        · refine VS.bipush (-2) dX2_charactersIn_74 rfl ?_
          refine VS.goto 80 dX2_charactersIn_76 (by decide) ?_
          exact VS.iret dX2_charactersIn_80 (by rw [hy, chG_0 hk h_13]; first | exact congrArg (fun z => some (Value.int z)) (chF_0 h_67 (by omega)) | exact congrArg (fun z => some (Value.int z)) (chF_m h_71) | exact congrArg (fun z => some (Value.int z)) (chF_n h_67 h_71)) (fun _ _ => rfl)
        · refine VS.iload_n dX2_charactersIn_70 rfl ?_
          refine VS.if_eq 79 dX2_charactersIn_71 (by decide) (fun h_71 => ?_) (fun h_71 => ?_)
          · refine VS.iload_n dX2_charactersIn_79 rfl ?_
            exact VS.iret dX2_charactersIn_80 (by rw [hy, chG_0 hk h_13]; first | exact congrArg (fun z => some (Value.int z)) (chF_0 h_67 (by omega)) | exact congrArg (fun z => some (Value.int z)) (chF_m h_71) | exact congrArg (fun z => some (Value.int z)) (chF_n h_67 h_71)) (fun _ _ => rfl)
          · refine VS.bipush (-2) dX2_charactersIn_74 rfl ?_
            refine VS.goto 80 dX2_charactersIn_76 (by decide) ?_
            exact VS.iret dX2_charactersIn_80 (by rw [hy, chG_0 hk h_13]; first | exact congrArg (fun z => some (Value.int z)) (chF_0 h_67 (by omega)) | exact congrArg (fun z => some (Value.int z)) (chF_m h_71) | exact congrArg (fun z => some (Value.int z)) (chF_n h_67 h_71)) (fun _ _ => rfl)
      · refine VS.iconst (1) dX2_charactersIn_60 rfl ?_
        refine VS.goto 65 dX2_charactersIn_61 (by decide) ?_
        refine VS.val (y := moI c k) (by first | exact (if_neg (fun q => q.2 h_57)).symm | exact (if_pos ⟨hk, h_57⟩).symm) ?_
        refine VS.istore_n dX2_charactersIn_65 (by decide) rfl ?_
        refine VS.iload_n dX2_charactersIn_66 rfl ?_
        refine VS.if_eq 74 dX2_charactersIn_67 (by decide) (fun h_67 => ?_) (fun h_67 => ?_)
        · refine VS.bipush (-2) dX2_charactersIn_74 rfl ?_
          refine VS.goto 80 dX2_charactersIn_76 (by decide) ?_
          exact VS.iret dX2_charactersIn_80 (by rw [hy, chG_0 hk h_13]; first | exact congrArg (fun z => some (Value.int z)) (chF_0 h_67 (by omega)) | exact congrArg (fun z => some (Value.int z)) (chF_m h_71) | exact congrArg (fun z => some (Value.int z)) (chF_n h_67 h_71)) (fun _ _ => rfl)
        · refine VS.iload_n dX2_charactersIn_70 rfl ?_
          refine VS.if_eq 79 dX2_charactersIn_71 (by decide) (fun h_71 => ?_) (fun h_71 => ?_)
          · refine VS.iload_n dX2_charactersIn_79 rfl ?_
            exact VS.iret dX2_charactersIn_80 (by rw [hy, chG_0 hk h_13]; first | exact congrArg (fun z => some (Value.int z)) (chF_0 h_67 (by omega)) | exact congrArg (fun z => some (Value.int z)) (chF_m h_71) | exact congrArg (fun z => some (Value.int z)) (chF_n h_67 h_71)) (fun _ _ => rfl)
          · refine VS.bipush (-2) dX2_charactersIn_74 rfl ?_
            refine VS.goto 80 dX2_charactersIn_76 (by decide) ?_
            exact VS.iret dX2_charactersIn_80 (by rw [hy, chG_0 hk h_13]; first | exact congrArg (fun z => some (Value.int z)) (chF_0 h_67 (by omega)) | exact congrArg (fun z => some (Value.int z)) (chF_m h_71) | exact congrArg (fun z => some (Value.int z)) (chF_n h_67 h_71)) (fun _ _ => rfl)
    · refine VS.lload_n dX2_charactersIn_16 rfl ?_
      refine VS.iload_n dX2_charactersIn_17 rfl ?_
      refine VS.callN (ct_X2_codeIn l _ _) dX2_charactersIn_18 mi_X2_codeIn st_X2_codeIn ml_X2_23 (rmOk_D (by decide) (by decide)) (Nat.le_of_ble_eq_true rfl) rfl ?_
      refine VS.istore_n dX2_charactersIn_21 (by decide) rfl ?_
      refine VS.iload_n dX2_charactersIn_22 rfl ?_
      refine VS.bipush (33) dX2_charactersIn_23 rfl ?_
      refine VS.icmp_lt 34 dX2_charactersIn_25 (by decide) (fun h_25 => ?_) (fun h_25 => ?_)
      · refine VS.bipush (-2) dX2_charactersIn_34 rfl ?_
        exact VS.iret dX2_charactersIn_36 (by rw [hy]; first | exact congrArg (fun z => some (Value.int z)) (chG_bad hk h_13 (Or.inl h_25)) | exact congrArg (fun z => some (Value.int z)) (chG_bad hk h_13 (Or.inr (Int32.not_le.mp h_31)))) (fun _ _ => rfl)
      · refine VS.iload_n dX2_charactersIn_28 rfl ?_
        refine VS.bipush (126) dX2_charactersIn_29 rfl ?_
        refine VS.icmp_le 37 dX2_charactersIn_31 (by decide) (fun h_31 => ?_) (fun h_31 => ?_)
        · refine VS.iinc (nI (k + 1)) dX2_charactersIn_37 rfl (by decide) ((nI_succ k).symm) rfl ?_
          refine VS.goto 2 dX2_charactersIn_40 (by decide) ?_
          exact VS.forget 3 (ih (hy.trans (chG_s hk h_13 h_25 (Int32.not_lt.mpr h_31))))
        · refine VS.bipush (-2) dX2_charactersIn_34 rfl ?_
          exact VS.iret dX2_charactersIn_36 (by rw [hy]; first | exact congrArg (fun z => some (Value.int z)) (chG_bad hk h_13 (Or.inl h_25)) | exact congrArg (fun z => some (Value.int z)) (chG_bad hk h_13 (Or.inr (Int32.not_le.mp h_31)))) (fun _ _ => rfl)
theorem and255_le (x : Int32) : (x &&& 255).toUInt32.toNat ≤ 255 := by
  have e : (x &&& 255).toUInt32.toNat = (x.toBitVec &&& (255#32)).toNat := rfl
  rw [e, BitVec.toNat_and]
  exact Nat.and_le_right
theorem char_and (x : Int32) : ((x &&& 255).toUInt32 % 65536).toInt32 = x &&& 255 := by
  have h := and255_le x
  have e : (x &&& 255).toUInt32 % 65536 = (x &&& 255).toUInt32 := by
    apply UInt32.toNat_inj.mp
    rw [UInt32.toNat_mod]
    exact Nat.mod_eq_of_lt (by show _ < 65536; omega)
  rw [e]
  rfl
theorem char_cdL (c : Int64) (j : Int32) : ((cdL c j).toUInt32 % 65536).toInt32 = cdL c j := char_and _
theorem nar_cdL (c : Int64) (j : Int32) : vp_nar .char (cdL c j) = cdL c j := char_and _
def pPut (S : SS) (c : Int64) (len n i : Nat) : SS := upC (up2 S 0 1 (nI (len + i))) 1 (padR (S 1) c len n i)
theorem pPut_0 {S : SS} {c : Int64} {len n : Nat} (h : S 0 1 = nI len) : pPut S c len n 0 = S := by
  unfold pPut padR
  rw [putR_0]
  show upC (up2 S 0 1 (nI (len + 0))) 1 ((up2 S 0 1 (nI (len + 0))) 1) = S
  rw [upC_id]
  unfold up2
  have e : upd (S 0) 1 (nI (len + 0)) = S 0 := by
    funext k; unfold upd; split
    · rename_i q; rw [q, h]; rfl
    · rfl
  rw [e, upC_id]
theorem pPut_s {S : SS} {c : Int64} {len n i : Nat} : up2 (up2 (pPut S c len n i) 1 (len + i) (cdL c (nI (n - 1 - i)))) 0 1 (nI (len + i) + 1) = pPut S c len n (i + 1) := by
  unfold pPut up2
  rw [upC_upC, upC_at, upC_comm _ _ _ (by decide : (1 : Nat) ≠ 0), upC_upC, ← nI_succ]
  have e : upd (padR (S 1) c len n i) (len + i) (cdL c (nI (n - 1 - i))) = padR (S 1) c len n (i + 1) := putR_s (S 1) (fun j => cdL c (nI (n - 1 - j))) len i
  rw [e]
  have e2 : upd (upC (upC S 0 (upd (S 0) 1 (nI (len + i)))) 1 (padR (S 1) c len n (i + 1)) 0) 1 (nI (len + i + 1)) = upd (S 0) 1 (nI (len + (i + 1))) := by
    show upd (upd (S 0) 1 _) 1 _ = _
    rw [upd_upd]
    rfl
  rw [e2]
set_option maxRecDepth 100000 in
set_option maxHeartbeats 4000000 in
theorem ct_X2_append_bad (l : Launch) (S : SS) (c : Int64) (hn : chI c < 0) : CtS l yX2_append cX2_append 5 (some FieldType.int) (rmD 2) [.ref 0, .long c] 2 shD S (some (.int (chI c))) (S) := by
  refine CtF.of (own := RX2) [some (.ref 0), some (.long c), none, none, none] (by decide +kernel) rfl (fun _ => Nat.le_of_ble_eq_true rfl) (fun _ => rfl) ?_
  refine VS.lload_n dX2_append_0 rfl ?_
  refine VS.callN (ct_X2_charactersIn l _) dX2_append_1 mi_X2_charactersIn st_X2_charactersIn ml_X2_15 (rmOk_D (by decide) (by decide)) (Nat.le_of_ble_eq_true rfl) rfl ?_
  refine VS.istore_n dX2_append_4 (by decide) rfl ?_
  refine VS.iload_n dX2_append_5 rfl ?_
  refine VS.if_ge 11 dX2_append_6 (by decide) (fun hh => absurd hh (Int32.not_le.mpr hn)) (fun _ => ?_)
  refine VS.iload_n dX2_append_9 rfl ?_
  exact VS.iret dX2_append_10 (rfl) (fun _ _ => rfl)
set_option maxRecDepth 100000 in
set_option maxHeartbeats 4000000 in
theorem ct_X2_append_many (l : Launch) (S : SS) (c : Int64) (hn : ¬ chI c < 0) (hm : ¬ S 0 1 + chI c ≤ 80) : CtS l yX2_append cX2_append 5 (some FieldType.int) (rmD 2) [.ref 0, .long c] 2 shD S (some (.int (-4))) (S) := by
  refine CtF.of (own := RX2) [some (.ref 0), some (.long c), none, none, none] (by decide +kernel) rfl (fun _ => Nat.le_of_ble_eq_true rfl) (fun _ => rfl) ?_
  refine VS.lload_n dX2_append_0 rfl ?_
  refine VS.callN (ct_X2_charactersIn l _) dX2_append_1 mi_X2_charactersIn st_X2_charactersIn ml_X2_15 (rmOk_D (by decide) (by decide)) (Nat.le_of_ble_eq_true rfl) rfl ?_
  refine VS.istore_n dX2_append_4 (by decide) rfl ?_
  refine VS.iload_n dX2_append_5 rfl ?_
  refine VS.if_ge 11 dX2_append_6 (by decide) (fun _ => ?_) (fun hh => absurd (Int32.not_lt.mp hn) hh)
  refine VS.aload_n dX2_append_11 rfl ?_
  refine VS.sgetI 1 dX2_append_12 uw_X2 rfl (by decide) 1 (rfl) rfl (by decide) fl_X2_19 rfl ?_
  refine VS.iload_n dX2_append_15 rfl ?_
  refine VS.iadd dX2_append_16 ?_
  refine VS.bipush (80) dX2_append_17 rfl ?_
  refine VS.icmp_le 25 dX2_append_19 (by decide) (fun hh => absurd hh (hm)) (fun _ => ?_)
  refine VS.bipush (-4) dX2_append_22 rfl ?_
  exact VS.iret dX2_append_24 (rfl) (fun _ _ => rfl)
set_option maxRecDepth 100000 in
set_option maxHeartbeats 4000000 in
theorem ct_X2_append (l : Launch) (S : SS) (c : Int64) {len n : Nat} (hL : S 0 1 = nI len) (hn : chI c = nI n) (hn0 : 0 < n) (hn8 : n ≤ 8) (hm : len + n ≤ 80) : CtS l yX2_append cX2_append 5 (some FieldType.int) (rmD 2) [.ref 0, .long c] 2 shD S (some (.int (nI (len + n)))) (pPut S c len n n) := by
  refine CtF.of (own := RX2) [some (.ref 0), some (.long c), none, none, none] (by decide +kernel) rfl (fun _ => Nat.le_of_ble_eq_true rfl) (fun _ => rfl) ?_
  refine VS.lload_n dX2_append_0 rfl ?_
  refine VS.callN (ct_X2_charactersIn l _) dX2_append_1 mi_X2_charactersIn st_X2_charactersIn ml_X2_15 (rmOk_D (by decide) (by decide)) (Nat.le_of_ble_eq_true rfl) rfl ?_
  refine VS.val (y := nI n) hn ?_
  refine VS.istore_n dX2_append_4 (by decide) rfl ?_
  refine VS.iload_n dX2_append_5 rfl ?_
  refine VS.if_ge 11 dX2_append_6 (by decide) (fun _ => ?_) (fun hh => absurd (Int32.not_lt.mp (nI_pos (by omega))) hh)
  refine VS.aload_n dX2_append_11 rfl ?_
  refine VS.sgetI 1 dX2_append_12 uw_X2 rfl (by decide) 1 (rfl) rfl (by decide) fl_X2_19 rfl ?_
  refine VS.val (y := nI len) hL ?_
  refine VS.iload_n dX2_append_15 rfl ?_
  refine VS.iadd dX2_append_16 ?_
  refine VS.bipush (80) dX2_append_17 rfl ?_
  refine VS.icmp_le 25 dX2_append_19 (by decide) (fun _ => ?_) (fun hh => absurd (by rw [nI_add]; exact nI_le (b := 80) hm (by decide)) hh)
  refine VS.iload_n dX2_append_25 rfl ?_
  refine VS.iconst (1) dX2_append_26 rfl ?_
  refine VS.isub dX2_append_27 ?_
  refine VS.val (y := kD n 0) (kD_0 hn0) ?_
  refine VS.stt (pPut_0 (c := c) (n := n) hL).symm ?_
  refine VS.istore dX2_append_28 (by decide) rfl ?_
  refine VS.forS (i0 := 0) (n) (fun i => pPut S c len n i) (fun i => [some (.ref 0), some (.long c), none, some (.int (nI n)), some (.int (kD n i))]) (Nat.zero_le _) ?_ (fun i hi ih => ?_)
  · refine VS.iload dX2_append_30 rfl ?_
    refine VS.if_lt 86 dX2_append_32 (by decide) (fun _ => ?_) (fun hh => absurd (kD_e _) hh)
    refine VS.aload_n dX2_append_86 rfl ?_
    refine VS.sgetI 1 dX2_append_87 uw_X2 rfl (by decide) 1 (rfl) rfl (by decide) fl_X2_19 rfl ?_
    refine VS.val (y := nI (len + n)) rfl ?_
    exact VS.iret dX2_append_90 (rfl) (fun _ _ => rfl)
  · refine VS.iload dX2_append_30 rfl ?_
    refine VS.if_lt 86 dX2_append_32 (by decide) (fun hh => absurd hh (kD_p hi hn8)) (fun _ => ?_)
    refine VS.aload_n dX2_append_35 rfl ?_
    refine VS.sgetI 1 dX2_append_36 uw_X2 rfl (by decide) 1 (rfl) rfl (by decide) fl_X2_19 rfl ?_
    refine VS.val (y := nI (len + i)) rfl ?_
    refine VS.if_lt 80 dX2_append_39 (by decide) (fun hh => absurd hh (nI_pos (by omega))) (fun _ => ?_)
    refine VS.aload_n dX2_append_42 rfl ?_
    refine VS.sgetI 1 dX2_append_43 uw_X2 rfl (by decide) 1 (rfl) rfl (by decide) fl_X2_19 rfl ?_
    refine VS.val (y := nI (len + i)) rfl ?_
    refine VS.aload_n dX2_append_46 rfl ?_
    refine VS.sgetR 1 dX2_append_47 uw_X2 rfl (by decide) 0 (rfl) rfl (by decide) fl_X2_11 rfl ?_
    refine VS.salen (v := 80) .char dX2_append_50 (by decide) rfl (fun _ => rfl) rfl ?_
    refine VS.icmp_ge 80 dX2_append_51 (by decide) (fun hh => absurd hh (nI_ge (b := 80) (by omega) (by decide))) (fun _ => ?_)
    refine VS.aload_n dX2_append_54 rfl ?_
    refine VS.sgetR 1 dX2_append_55 uw_X2 rfl (by decide) 0 (rfl) rfl (by decide) fl_X2_11 rfl ?_
    refine VS.aload_n dX2_append_58 rfl ?_
    refine VS.sgetI 1 dX2_append_59 uw_X2 rfl (by decide) 1 (rfl) rfl (by decide) fl_X2_19 rfl ?_
    refine VS.val (y := nI (len + i)) rfl ?_
    refine VS.lload_n dX2_append_62 rfl ?_
    refine VS.iload dX2_append_63 rfl ?_
    refine VS.callN (ct_X2_codeIn l _ _) dX2_append_65 mi_X2_codeIn st_X2_codeIn ml_X2_23 (rmOk_D (by decide) (by decide)) (Nat.le_of_ble_eq_true rfl) rfl ?_
    refine VS.val (y := cdL c (nI (n - 1 - i))) (by rw [kD_n hi]) ?_
    refine VS.i2c dX2_append_68 ?_
    refine VS.val (y := cdL c (nI (n - 1 - i))) (char_cdL _ _) ?_
    refine VS.scast (len + i) dX2_append_69 (by decide) rfl (rfl) (by omega) (by decide) ?_
    refine VS.stt (S2 := up2 (pPut S c len n i) 1 (len + i) (cdL c (nI (n - 1 - i)))) (congrArg (fun z => up2 (pPut S c len n i) 1 (len + i) z) (nar_cdL _ _)) ?_
    refine VS.aload_n dX2_append_70 rfl ?_
    refine VS.dup dX2_append_71 rfl ?_
    refine VS.sgetI 1 dX2_append_72 uw_X2 rfl (by decide) 1 (rfl) rfl (by decide) fl_X2_19 rfl ?_
    refine VS.val (y := nI (len + i)) rfl ?_
    refine VS.iconst (1) dX2_append_75 rfl ?_
    refine VS.iadd dX2_append_76 ?_
    refine VS.sput 1 dX2_append_77 uw_X2 tyX2 tyX2_ok nmX2 rfl (by decide) 1 (rfl) rfl (by decide) fl_X2_19 rfl rfl (rfl) (rfl) ?_
    refine VS.stt pPut_s ?_
    refine VS.iinc (kD n (i + 1)) dX2_append_80 rfl (by decide) (kD_s _ _) rfl ?_
    refine VS.goto 30 dX2_append_83 (by decide) ?_
    exact ih
