/-! the class: questions -/
def kOfRoad (G : SS) (a b what : Int32) : Int32 := pick [eI a b, rem3 (eI a b), (if bitE a b &&& G 0 4 = 0 then 0 else 1), seenV (bitE a b) (G 0 5) (G 0 1), clV G (bitE a b) 1, clV G (bitE a b) 0] what (-2)
set_option maxRecDepth 100000 in
set_option maxHeartbeats 4000000 in
theorem ct_X6_ofRoad_w (l : Launch) (S : SS) (a : Int32) (b : Int32) (what : Int32) (hw : ¬ wrE a b = 0) : CtS l yX6_ofRoad cX6_ofRoad 7 (some FieldType.int) (rmD 4) [.ref 0, .int a, .int b, .int what] 77 shK S (some (.int (wrE a b))) (S) := by
  refine CtF.of (own := RX6) [some (.ref 0), some (.int a), some (.int b), some (.int what), none, none, none] (by decide +kernel) rfl (fun _ => Nat.le_of_ble_eq_true rfl) (fun _ => rfl) ?_
  refine VS.iload_n dX6_ofRoad_0 rfl ?_
  refine VS.iload_n dX6_ofRoad_1 rfl ?_
  refine VS.callN (ct_X1_wrongEnds l _ _) dX6_ofRoad_2 mi_X1_wrongEnds st_X1_wrongEnds ml_X6_78 (rmOk_D (by decide) (by decide)) (Nat.le_of_ble_eq_true rfl) rfl ?_
  refine VS.istore dX6_ofRoad_5 (by decide) rfl ?_
  refine VS.iload dX6_ofRoad_7 rfl ?_
  refine VS.if_eq 15 dX6_ofRoad_9 (by decide) (fun hh => absurd hh (fun z => hw z)) (fun _ => ?_)
  refine VS.iload dX6_ofRoad_12 rfl ?_
  exact VS.iret dX6_ofRoad_14 (rfl) (fun _ _ => rfl)
set_option maxRecDepth 100000 in
set_option maxHeartbeats 4000000 in
theorem ct_X6_ofRoad (l : Launch) (S : SS) (a : Int32) (b : Int32) (what : Int32) (hw : wrE a b = 0) : CtS l yX6_ofRoad cX6_ofRoad 7 (some FieldType.int) (rmD 4) [.ref 0, .int a, .int b, .int what] 77 shK S (some (.int (kOfRoad (gm S 1) a b what))) (S) := by
  refine CtF.of (own := RX6) [some (.ref 0), some (.int a), some (.int b), some (.int what), none, none, none] (by decide +kernel) rfl (fun _ => Nat.le_of_ble_eq_true rfl) (fun _ => rfl) ?_
  refine VS.iload_n dX6_ofRoad_0 rfl ?_
  refine VS.iload_n dX6_ofRoad_1 rfl ?_
  refine VS.callN (ct_X1_wrongEnds l _ _) dX6_ofRoad_2 mi_X1_wrongEnds st_X1_wrongEnds ml_X6_78 (rmOk_D (by decide) (by decide)) (Nat.le_of_ble_eq_true rfl) rfl ?_
  refine VS.istore dX6_ofRoad_5 (by decide) rfl ?_
  refine VS.iload dX6_ofRoad_7 rfl ?_
  refine VS.if_eq 15 dX6_ofRoad_9 (by decide) (fun _ => ?_) (fun hh => absurd (hw) hh)
  refine VS.iload_n dX6_ofRoad_15 rfl ?_
  refine VS.iload_n dX6_ofRoad_16 rfl ?_
  refine VS.callN (ct_X1_numberOf l _ _) dX6_ofRoad_17 mi_X1_numberOf st_X1_numberOf ml_X6_83 (rmOk_D (by decide) (by decide)) (Nat.le_of_ble_eq_true rfl) rfl ?_
  refine VS.istore dX6_ofRoad_20 (by decide) rfl ?_
  refine VS.iload_n dX6_ofRoad_22 rfl ?_
  refine VS.iload_n dX6_ofRoad_23 rfl ?_
  refine VS.callN (ct_X1_roadBetween l _ _) dX6_ofRoad_24 mi_X1_roadBetween st_X1_roadBetween ml_X6_86 (rmOk_D (by decide) (by decide)) (Nat.le_of_ble_eq_true rfl) rfl ?_
  refine VS.istore dX6_ofRoad_27 (by decide) rfl ?_
  refine VS.iload_n dX6_ofRoad_29 rfl ?_
  rcases sw_0_5 what with rfl | rfl | rfl | rfl | rfl | rfl | ho
  · refine VS.tableIn 68 dX6_ofRoad_30 (by decide) (by decide) rfl (by decide) ?_
    refine VS.iload dX6_ofRoad_68 rfl ?_
    exact VS.iret dX6_ofRoad_70 (rfl) (fun _ _ => rfl)
  · refine VS.tableIn 71 dX6_ofRoad_30 (by decide) (by decide) rfl (by decide) ?_
    refine VS.iload dX6_ofRoad_71 rfl ?_
    refine VS.iconst (3) dX6_ofRoad_73 rfl ?_
    refine VS.irem dX6_ofRoad_74 (by decide) ?_
    exact VS.iret dX6_ofRoad_75 (rfl) (fun _ _ => rfl)
  · refine VS.tableIn 76 dX6_ofRoad_30 (by decide) (by decide) rfl (by decide) ?_
    refine VS.iload dX6_ofRoad_76 rfl ?_
    refine VS.aload_n dX6_ofRoad_78 rfl ?_
    refine VS.sgetR 5 dX6_ofRoad_79 uw_X6 rfl (by decide) 0 (rfl) rfl (by decide) fl_X6_10 rfl ?_
    refine VS.sgetI 0 dX6_ofRoad_82 uw_X0 rfl (by decide) 4 (rfl) rfl (by decide) fl_X6_89 rfl ?_
    refine VS.val (y := S 1 4) rfl ?_
    refine VS.callN (ct_X6_isIn l _ _) dX6_ofRoad_85 mi_X6_isIn st_X6_isIn ml_X6_93 (rmOk_D (by decide) (by decide)) (Nat.le_of_ble_eq_true rfl) rfl ?_
    exact VS.iret dX6_ofRoad_88 (rfl) (fun _ _ => rfl)
  · refine VS.tableIn 89 dX6_ofRoad_30 (by decide) (by decide) rfl (by decide) ?_
    refine VS.aload_n dX6_ofRoad_89 rfl ?_
    refine VS.sgetR 5 dX6_ofRoad_90 uw_X6 rfl (by decide) 0 (rfl) rfl (by decide) fl_X6_10 rfl ?_
    refine VS.iload dX6_ofRoad_93 rfl ?_
    refine VS.aload_n dX6_ofRoad_95 rfl ?_
    refine VS.sgetR 5 dX6_ofRoad_96 uw_X6 rfl (by decide) 0 (rfl) rfl (by decide) fl_X6_10 rfl ?_
    refine VS.sgetI 0 dX6_ofRoad_99 uw_X0 rfl (by decide) 5 (rfl) rfl (by decide) fl_X6_96 rfl ?_
    refine VS.val (y := S 1 5) rfl ?_
    refine VS.callR (fun i => 1 + i) (gmAt_1.shi) (ct_X0_seenOf l _ _ _) dX6_ofRoad_102 mi_X0_seenOf im_X0_seenOf sel_X0_seenOf ml_X6_99 (by decide) rfl rfl (rmOk_D (by decide) (by decide)) (Nat.le_of_ble_eq_true rfl) rfl ?_
    refine VS.stt ((mg_off 1 7 _ _).trans putG_id) ?_
    exact VS.iret dX6_ofRoad_105 (rfl) (fun _ _ => rfl)
  · refine VS.tableIn 106 dX6_ofRoad_30 (by decide) (by decide) rfl (by decide) ?_
    refine VS.aload_n dX6_ofRoad_106 rfl ?_
    refine VS.sgetR 5 dX6_ofRoad_107 uw_X6 rfl (by decide) 0 (rfl) rfl (by decide) fl_X6_10 rfl ?_
    refine VS.iload dX6_ofRoad_110 rfl ?_
    refine VS.iconst (1) dX6_ofRoad_112 rfl ?_
    refine VS.callR (fun i => 1 + i) (gmAt_1.shi) (ct_X0_claimants l _ _ _) dX6_ofRoad_113 mi_X0_claimants im_X0_claimants sel_X0_claimants ml_X6_102 (by decide) rfl rfl (rmOk_D (by decide) (by decide)) (Nat.le_of_ble_eq_true rfl) rfl ?_
    refine VS.stt ((mg_off 1 7 _ _).trans putG_id) ?_
    exact VS.iret dX6_ofRoad_116 (rfl) (fun _ _ => rfl)
  · refine VS.tableIn 117 dX6_ofRoad_30 (by decide) (by decide) rfl (by decide) ?_
    refine VS.aload_n dX6_ofRoad_117 rfl ?_
    refine VS.sgetR 5 dX6_ofRoad_118 uw_X6 rfl (by decide) 0 (rfl) rfl (by decide) fl_X6_10 rfl ?_
    refine VS.iload dX6_ofRoad_121 rfl ?_
    refine VS.iconst (0) dX6_ofRoad_123 rfl ?_
    refine VS.callR (fun i => 1 + i) (gmAt_1.shi) (ct_X0_claimants l _ _ _) dX6_ofRoad_124 mi_X0_claimants im_X0_claimants sel_X0_claimants ml_X6_102 (by decide) rfl rfl (rmOk_D (by decide) (by decide)) (Nat.le_of_ble_eq_true rfl) rfl ?_
    refine VS.stt ((mg_off 1 7 _ _).trans putG_id) ?_
    exact VS.iret dX6_ofRoad_127 (rfl) (fun _ _ => rfl)
  · refine VS.tableOut 128 dX6_ofRoad_30 (ho) (by decide) ?_
    refine VS.bipush (-2) dX6_ofRoad_128 rfl ?_
    exact VS.iret dX6_ofRoad_130 (by unfold kOfRoad; rw [pick_out (k := 5) ho rfl]) (fun _ _ => rfl)
set_option maxRecDepth 100000 in
set_option maxHeartbeats 4000000 in
theorem ct_X6_knows_no (l : Launch) (S : SS) (p : Int32) (a : Int32) (b : Int32) (hp : ¬ (0 ≤ p ∧ p < 3)) : CtS l yX6_knows cX6_knows 5 (some FieldType.int) (rmD 4) [.ref 0, .int p, .int a, .int b] 77 shK S (some (.int (-1))) (S) := by
  refine CtF.of (own := RX6) [some (.ref 0), some (.int p), some (.int a), some (.int b), none] (by decide +kernel) rfl (fun _ => Nat.le_of_ble_eq_true rfl) (fun _ => rfl) ?_
  refine VS.iload_n dX6_knows_0 rfl ?_
  refine VS.callN (ct_X6_isPlayer l _) dX6_knows_1 mi_X6_isPlayer st_X6_isPlayer ml_X6_106 (rmOk_D (by decide) (by decide)) (Nat.le_of_ble_eq_true rfl) rfl ?_
  refine VS.if_ne 9 dX6_knows_4 (by decide) (fun hh => absurd (if_neg hp) hh) (fun _ => ?_)
  refine VS.iconst (-1) dX6_knows_7 rfl ?_
  exact VS.iret dX6_knows_8 (rfl) (fun _ _ => rfl)
set_option maxRecDepth 100000 in
set_option maxHeartbeats 4000000 in
theorem ct_X6_knows_w (l : Launch) (S : SS) (p : Int32) (a : Int32) (b : Int32) (hp : 0 ≤ p ∧ p < 3) (hw : ¬ wrE a b = 0) : CtS l yX6_knows cX6_knows 5 (some FieldType.int) (rmD 4) [.ref 0, .int p, .int a, .int b] 77 shK S (some (.int (wrE a b))) (S) := by
  refine CtF.of (own := RX6) [some (.ref 0), some (.int p), some (.int a), some (.int b), none] (by decide +kernel) rfl (fun _ => Nat.le_of_ble_eq_true rfl) (fun _ => rfl) ?_
  refine VS.iload_n dX6_knows_0 rfl ?_
  refine VS.callN (ct_X6_isPlayer l _) dX6_knows_1 mi_X6_isPlayer st_X6_isPlayer ml_X6_106 (rmOk_D (by decide) (by decide)) (Nat.le_of_ble_eq_true rfl) rfl ?_
  refine VS.if_ne 9 dX6_knows_4 (by decide) (fun _ => ?_) (fun hh => absurd hh (by rw [if_pos hp]; decide))
  refine VS.iload_n dX6_knows_9 rfl ?_
  refine VS.iload_n dX6_knows_10 rfl ?_
  refine VS.callN (ct_X1_wrongEnds l _ _) dX6_knows_11 mi_X1_wrongEnds st_X1_wrongEnds ml_X6_78 (rmOk_D (by decide) (by decide)) (Nat.le_of_ble_eq_true rfl) rfl ?_
  refine VS.istore dX6_knows_14 (by decide) rfl ?_
  refine VS.iload dX6_knows_16 rfl ?_
  refine VS.if_eq 24 dX6_knows_18 (by decide) (fun hh => absurd hh (hw)) (fun _ => ?_)
  refine VS.iload dX6_knows_21 rfl ?_
  exact VS.iret dX6_knows_23 (rfl) (fun _ _ => rfl)
set_option maxRecDepth 100000 in
set_option maxHeartbeats 4000000 in
theorem ct_X6_knows (l : Launch) (S : SS) (p : Int32) (a : Int32) (b : Int32) (hp : 0 ≤ p ∧ p < 3) (hw : wrE a b = 0) : CtS l yX6_knows cX6_knows 5 (some FieldType.int) (rmD 4) [.ref 0, .int p, .int a, .int b] 77 shK S (some (.int (seenV (bitE a b) (S 1 5 ||| thirdV p) (S 1 1)))) (S) := by
  refine CtF.of (own := RX6) [some (.ref 0), some (.int p), some (.int a), some (.int b), none] (by decide +kernel) rfl (fun _ => Nat.le_of_ble_eq_true rfl) (fun _ => rfl) ?_
  refine VS.iload_n dX6_knows_0 rfl ?_
  refine VS.callN (ct_X6_isPlayer l _) dX6_knows_1 mi_X6_isPlayer st_X6_isPlayer ml_X6_106 (rmOk_D (by decide) (by decide)) (Nat.le_of_ble_eq_true rfl) rfl ?_
  refine VS.if_ne 9 dX6_knows_4 (by decide) (fun _ => ?_) (fun hh => absurd hh (by rw [if_pos hp]; decide))
  refine VS.iload_n dX6_knows_9 rfl ?_
  refine VS.iload_n dX6_knows_10 rfl ?_
  refine VS.callN (ct_X1_wrongEnds l _ _) dX6_knows_11 mi_X1_wrongEnds st_X1_wrongEnds ml_X6_78 (rmOk_D (by decide) (by decide)) (Nat.le_of_ble_eq_true rfl) rfl ?_
  refine VS.istore dX6_knows_14 (by decide) rfl ?_
  refine VS.iload dX6_knows_16 rfl ?_
  refine VS.if_eq 24 dX6_knows_18 (by decide) (fun _ => ?_) (fun hh => absurd (hw) hh)
  refine VS.aload_n dX6_knows_24 rfl ?_
  refine VS.sgetR 5 dX6_knows_25 uw_X6 rfl (by decide) 0 (rfl) rfl (by decide) fl_X6_10 rfl ?_
  refine VS.iload_n dX6_knows_28 rfl ?_
  refine VS.iload_n dX6_knows_29 rfl ?_
  refine VS.callN (ct_X1_roadBetween l _ _) dX6_knows_30 mi_X1_roadBetween st_X1_roadBetween ml_X6_86 (rmOk_D (by decide) (by decide)) (Nat.le_of_ble_eq_true rfl) rfl ?_
  refine VS.aload_n dX6_knows_33 rfl ?_
  refine VS.sgetR 5 dX6_knows_34 uw_X6 rfl (by decide) 0 (rfl) rfl (by decide) fl_X6_10 rfl ?_
  refine VS.iload_n dX6_knows_37 rfl ?_
  refine VS.callR (fun i => 1 + i) (gmAt_1.shi) (ct_X0_knownTo l _ _) dX6_knows_38 mi_X0_knownTo im_X0_knownTo sel_X0_knownTo ml_X6_110 (by decide) rfl rfl (rmOk_D (by decide) (by decide)) (Nat.le_of_ble_eq_true rfl) rfl ?_
  refine VS.stt ((mg_off 1 7 _ _).trans putG_id) ?_
  refine VS.callR (fun i => 1 + i) (gmAt_1.shi) (ct_X0_seenOf l _ _ _) dX6_knows_41 mi_X0_seenOf im_X0_seenOf sel_X0_seenOf ml_X6_99 (by decide) rfl rfl (rmOk_D (by decide) (by decide)) (Nat.le_of_ble_eq_true rfl) rfl ?_
  refine VS.stt ((mg_off 1 7 _ _).trans putG_id) ?_
  exact VS.iret dX6_knows_44 (rfl) (fun _ _ => rfl)
def kPlayer (G : SS) (p : Nat) (what : Int32) : Int32 := pick [G (2 + p) 0, pcI (G (2 + p) 1 ||| G (2 + p) 2), pcI (lieF (G (2 + p)) (G 0 1) &&& G 0 5), G (2 + p) 3, G (2 + p) 4, G (2 + p) 5, G (2 + p) 6, pcI (G 0 5 ||| thirdV (nI p))] what (-2)
theorem inK_p {p : Nat} (h : p < 3) : 1 + (2 + p) < 77 := by omega
theorem shK_p {p : Nat} (h : p < 3) : shK (1 + (2 + p)) = .inl (3, [none, none, none, none, none, none, none]) := by
  rcases (show p = 0 ∨ p = 1 ∨ p = 2 by omega) with rfl | rfl | rfl <;> rfl
theorem shiK_p {p : Nat} (h : p < 3) : ShI (fun _ => 1 + (2 + p)) 1 shP 77 shK := ShI.one (by omega) (shK_p h)
theorem mg_id1 (a : Nat) (S : SS) : mg (fun _ => a) 1 (fun i => S ((fun _ => a) i)) S = S := (mg_one _ _ _).trans (upC_id _ _)
set_option maxRecDepth 100000 in
set_option maxHeartbeats 4000000 in
theorem ct_X6_player_no (l : Launch) (S : SS) (p : Int32) (what : Int32) (hp : ¬ (0 ≤ p ∧ p < 3)) : CtS l yX6_player cX6_player 4 (some FieldType.int) (rmD 3) [.ref 0, .int p, .int what] 77 shK S (some (.int (-1))) (S) := by
  refine CtF.of (own := RX6) [some (.ref 0), some (.int p), some (.int what), none] (by decide +kernel) rfl (fun _ => Nat.le_of_ble_eq_true rfl) (fun _ => rfl) ?_
  refine VS.iload_n dX6_player_0 rfl ?_
  refine VS.callN (ct_X6_isPlayer l _) dX6_player_1 mi_X6_isPlayer st_X6_isPlayer ml_X6_106 (rmOk_D (by decide) (by decide)) (Nat.le_of_ble_eq_true rfl) rfl ?_
  refine VS.if_ne 9 dX6_player_4 (by decide) (fun hh => absurd (if_neg hp) hh) (fun _ => ?_)
  refine VS.iconst (-1) dX6_player_7 rfl ?_
  exact VS.iret dX6_player_8 (rfl) (fun _ _ => rfl)
set_option maxRecDepth 100000 in
set_option maxHeartbeats 4000000 in
theorem ct_X6_player (l : Launch) (S : SS) (what : Int32) {p : Nat} (hp : p < 3) : CtS l yX6_player cX6_player 4 (some FieldType.int) (rmD 3) [.ref 0, .int (nI p), .int what] 77 shK S (some (.int (kPlayer (gm S 1) p what))) (S) := by
  refine CtF.of (own := RX6) [some (.ref 0), some (.int (nI p)), some (.int what), none] (by decide +kernel) rfl (fun _ => Nat.le_of_ble_eq_true rfl) (fun _ => rfl) ?_
  refine VS.iload_n dX6_player_0 rfl ?_
  refine VS.callN (ct_X6_isPlayer l _) dX6_player_1 mi_X6_isPlayer st_X6_isPlayer ml_X6_106 (rmOk_D (by decide) (by decide)) (Nat.le_of_ble_eq_true rfl) rfl ?_
  refine VS.if_ne 9 dX6_player_4 (by decide) (fun _ => ?_) (fun hh => absurd hh (pl_y hp))
  refine VS.aload_n dX6_player_9 rfl ?_
  refine VS.sgetR 5 dX6_player_10 uw_X6 rfl (by decide) 0 (rfl) rfl (by decide) fl_X6_10 rfl ?_
  refine VS.iload_n dX6_player_13 rfl ?_
  refine VS.callR (fun i => 1 + i) (gmAt_1.shi) (ct_X0_seat l _ hp) dX6_player_14 mi_X0_seat im_X0_seat sel_X0_seat ml_X6_113 (by decide) rfl rfl (rmOk_D (by decide) (by decide)) (Nat.le_of_ble_eq_true rfl) rfl ?_
  refine VS.stt ((mg_off 1 7 _ _).trans putG_id) ?_
  refine VS.astore_n dX6_player_17 (by decide) rfl ?_
  refine VS.iload_n dX6_player_18 rfl ?_
  rcases sw_0_7 what with rfl | rfl | rfl | rfl | rfl | rfl | rfl | rfl | ho
  · refine VS.tableIn 64 dX6_player_19 (by decide) (by decide) rfl (by decide) ?_
    refine VS.aload_n dX6_player_64 rfl ?_
    refine VS.sgetI 3 dX6_player_65 uw_X4 rfl (inK_p hp) 0 (shK_p hp) rfl (by decide) fl_X6_117 rfl ?_
    exact VS.iret dX6_player_68 (rfl) (fun _ _ => rfl)
  · refine VS.tableIn 69 dX6_player_19 (by decide) (by decide) rfl (by decide) ?_
    refine VS.aload_n dX6_player_69 rfl ?_
    refine VS.callR (fun _ => 1 + (2 + p)) (shiK_p hp) (ct_X4_claims l _) dX6_player_70 mi_X4_claims im_X4_claims sel_X4_claims ml_X6_122 (by decide) rfl rfl (rmOk_D (by decide) (by decide)) (Nat.le_of_ble_eq_true rfl) rfl ?_
    refine VS.stt (mg_id1 _ _) ?_
    exact VS.iret dX6_player_73 (rfl) (fun _ _ => rfl)
  · refine VS.tableIn 74 dX6_player_19 (by decide) (by decide) rfl (by decide) ?_
    refine VS.aload_n dX6_player_74 rfl ?_
    refine VS.aload_n dX6_player_75 rfl ?_
    refine VS.sgetR 5 dX6_player_76 uw_X6 rfl (by decide) 0 (rfl) rfl (by decide) fl_X6_10 rfl ?_
    refine VS.sgetI 0 dX6_player_79 uw_X0 rfl (by decide) 1 (rfl) rfl (by decide) fl_X6_125 rfl ?_
    refine VS.val (y := S 1 1) rfl ?_
    refine VS.aload_n dX6_player_82 rfl ?_
    refine VS.sgetR 5 dX6_player_83 uw_X6 rfl (by decide) 0 (rfl) rfl (by decide) fl_X6_10 rfl ?_
    refine VS.sgetI 0 dX6_player_86 uw_X0 rfl (by decide) 5 (rfl) rfl (by decide) fl_X6_96 rfl ?_
    refine VS.val (y := S 1 5) rfl ?_
    refine VS.callR (fun _ => 1 + (2 + p)) (shiK_p hp) (ct_X4_shownLies l _ _ _) dX6_player_89 mi_X4_shownLies im_X4_shownLies sel_X4_shownLies ml_X6_128 (by decide) rfl rfl (rmOk_D (by decide) (by decide)) (Nat.le_of_ble_eq_true rfl) rfl ?_
    refine VS.stt (mg_id1 _ _) ?_
    exact VS.iret dX6_player_92 (rfl) (fun _ _ => rfl)
  · refine VS.tableIn 93 dX6_player_19 (by decide) (by decide) rfl (by decide) ?_
    refine VS.aload_n dX6_player_93 rfl ?_
    refine VS.sgetI 3 dX6_player_94 uw_X4 rfl (inK_p hp) 3 (shK_p hp) rfl (by decide) fl_X6_131 rfl ?_
    exact VS.iret dX6_player_97 (rfl) (fun _ _ => rfl)
  · refine VS.tableIn 98 dX6_player_19 (by decide) (by decide) rfl (by decide) ?_
    refine VS.aload_n dX6_player_98 rfl ?_
    refine VS.sgetI 3 dX6_player_99 uw_X4 rfl (inK_p hp) 4 (shK_p hp) rfl (by decide) fl_X6_134 rfl ?_
    exact VS.iret dX6_player_102 (rfl) (fun _ _ => rfl)
  · refine VS.tableIn 103 dX6_player_19 (by decide) (by decide) rfl (by decide) ?_
    refine VS.aload_n dX6_player_103 rfl ?_
    refine VS.sgetI 3 dX6_player_104 uw_X4 rfl (inK_p hp) 5 (shK_p hp) rfl (by decide) fl_X6_137 rfl ?_
    exact VS.iret dX6_player_107 (rfl) (fun _ _ => rfl)
  · refine VS.tableIn 108 dX6_player_19 (by decide) (by decide) rfl (by decide) ?_
    refine VS.aload_n dX6_player_108 rfl ?_
    refine VS.sgetI 3 dX6_player_109 uw_X4 rfl (inK_p hp) 6 (shK_p hp) rfl (by decide) fl_X6_140 rfl ?_
    exact VS.iret dX6_player_112 (rfl) (fun _ _ => rfl)
  · refine VS.tableIn 113 dX6_player_19 (by decide) (by decide) rfl (by decide) ?_
    refine VS.aload_n dX6_player_113 rfl ?_
    refine VS.sgetR 5 dX6_player_114 uw_X6 rfl (by decide) 0 (rfl) rfl (by decide) fl_X6_10 rfl ?_
    refine VS.iload_n dX6_player_117 rfl ?_
    refine VS.callR (fun i => 1 + i) (gmAt_1.shi) (ct_X0_knownTo l _ _) dX6_player_118 mi_X0_knownTo im_X0_knownTo sel_X0_knownTo ml_X6_110 (by decide) rfl rfl (rmOk_D (by decide) (by decide)) (Nat.le_of_ble_eq_true rfl) rfl ?_
    refine VS.stt ((mg_off 1 7 _ _).trans putG_id) ?_
    refine VS.callN (ct_J6_bitCount_0f7a4 l _) dX6_player_121 mi_J6_bitCount_0f7a4 st_J6_bitCount_0f7a4 ml_X6_143 (rmOk_D (by decide) (by decide)) (Nat.le_of_ble_eq_true rfl) rfl ?_
    exact VS.iret dX6_player_124 (rfl) (fun _ _ => rfl)
  · refine VS.tableOut 125 dX6_player_19 (ho) (by decide) ?_
    refine VS.bipush (-2) dX6_player_125 rfl ?_
    exact VS.iret dX6_player_127 (by unfold kPlayer; rw [pick_out (k := 7) ho rfl]) (fun _ _ => rfl)
def kPlace (G : SS) (p : Nat) (what : Int32) : Int32 := pick [if G 0 3 = 0 then -6 else pcI (k_at p &&& G 0 1), pcI (k_at p &&& G 0 1 &&& G 0 5), pcI (k_at p &&& (G 0 5 ^^^ -1)), G 5 p, pbI (G 0 1 &&& G 0 5) p] what (-2)
set_option maxRecDepth 100000 in
set_option maxHeartbeats 4000000 in
theorem ct_X6_place_no (l : Launch) (S : SS) (p : Int32) (what : Int32) (hp : ¬ (0 ≤ p ∧ p < 8)) : CtS l yX6_place cX6_place 4 (some FieldType.int) (rmD 2) [.ref 0, .int p, .int what] 77 shK S (some (.int (-1))) (S) := by
  refine CtF.of (own := RX6) [some (.ref 0), some (.int p), some (.int what), none] (by decide +kernel) rfl (fun _ => Nat.le_of_ble_eq_true rfl) (fun _ => rfl) ?_
  refine VS.iload_n dX6_place_0 rfl ?_
  refine VS.callN (ct_X1_isPlace l _) dX6_place_1 mi_X1_isPlace st_X1_isPlace ml_X6_148 (rmOk_D (by decide) (by decide)) (Nat.le_of_ble_eq_true rfl) rfl ?_
  refine VS.if_ne 9 dX6_place_4 (by decide) (fun hh => absurd (if_neg hp) hh) (fun _ => ?_)
  refine VS.iconst (-1) dX6_place_7 rfl ?_
  exact VS.iret dX6_place_8 (rfl) (fun _ _ => rfl)
set_option maxRecDepth 100000 in
set_option maxHeartbeats 4000000 in
theorem ct_X6_place (l : Launch) (S : SS) (what : Int32) {p : Nat} (hp : p < 8) : CtS l yX6_place cX6_place 4 (some FieldType.int) (rmD 2) [.ref 0, .int (nI p), .int what] 77 shK S (some (.int (kPlace (gm S 1) p what))) (S) := by
  refine CtF.of (own := RX6) [some (.ref 0), some (.int (nI p)), some (.int what), none] (by decide +kernel) rfl (fun _ => Nat.le_of_ble_eq_true rfl) (fun _ => rfl) ?_
  refine VS.iload_n dX6_place_0 rfl ?_
  refine VS.callN (ct_X1_isPlace l _) dX6_place_1 mi_X1_isPlace st_X1_isPlace ml_X6_148 (rmOk_D (by decide) (by decide)) (Nat.le_of_ble_eq_true rfl) rfl ?_
  refine VS.if_ne 9 dX6_place_4 (by decide) (fun _ => ?_) (fun hh => absurd hh (pc_y hp))
  refine VS.iload_n dX6_place_9 rfl ?_
  refine VS.callN ((atP hp ▸ ct_X1_roadsAt l (nI p) : CtN l yX1_roadsAt cX1_roadsAt 1 (some FieldType.int) (rmD 0) [.int (nI p)] (k_at p))) dX6_place_10 mi_X1_roadsAt st_X1_roadsAt ml_X6_151 (rmOk_D (by decide) (by decide)) (Nat.le_of_ble_eq_true rfl) rfl ?_
  refine VS.istore_n dX6_place_13 (by decide) rfl ?_
  refine VS.iload_n dX6_place_14 rfl ?_
  rcases sw_0_4 what with rfl | rfl | rfl | rfl | rfl | ho
  · refine VS.tableIn 48 dX6_place_15 (by decide) (by decide) rfl (by decide) ?_
    refine VS.aload_n dX6_place_48 rfl ?_
    refine VS.sgetR 5 dX6_place_49 uw_X6 rfl (by decide) 0 (rfl) rfl (by decide) fl_X6_10 rfl ?_
    refine VS.sgetI 0 dX6_place_52 uw_X0 rfl (by decide) 3 (rfl) rfl (by decide) fl_X6_154 rfl ?_
    refine VS.val (y := S 1 3) rfl ?_
    refine VS.if_eq 73 dX6_place_55 (by decide) (fun h_55 => ?_) (fun h_55 => ?_)
    · refine VS.bipush (-6) dX6_place_73 rfl ?_
      exact VS.iret dX6_place_75 (by first | exact congrArg (fun z => some (Value.int z)) (show (if S 1 3 = 0 then (-6 : Int32) else pcI (k_at p &&& S 1 1)) = _ from if_pos h_55) | exact congrArg (fun z => some (Value.int z)) (show (if S 1 3 = 0 then (-6 : Int32) else pcI (k_at p &&& S 1 1)) = _ from if_neg h_55)) (fun _ _ => rfl)
    · refine VS.iload_n dX6_place_58 rfl ?_
      refine VS.aload_n dX6_place_59 rfl ?_
      refine VS.sgetR 5 dX6_place_60 uw_X6 rfl (by decide) 0 (rfl) rfl (by decide) fl_X6_10 rfl ?_
      refine VS.sgetI 0 dX6_place_63 uw_X0 rfl (by decide) 1 (rfl) rfl (by decide) fl_X6_125 rfl ?_
      refine VS.val (y := S 1 1) rfl ?_
      refine VS.iand dX6_place_66 ?_
      refine VS.callN (ct_J6_bitCount_0f7a4 l _) dX6_place_67 mi_J6_bitCount_0f7a4 st_J6_bitCount_0f7a4 ml_X6_143 (rmOk_D (by decide) (by decide)) (Nat.le_of_ble_eq_true rfl) rfl ?_
      refine VS.goto 75 dX6_place_70 (by decide) ?_
      exact VS.iret dX6_place_75 (by first | exact congrArg (fun z => some (Value.int z)) (show (if S 1 3 = 0 then (-6 : Int32) else pcI (k_at p &&& S 1 1)) = _ from if_pos h_55) | exact congrArg (fun z => some (Value.int z)) (show (if S 1 3 = 0 then (-6 : Int32) else pcI (k_at p &&& S 1 1)) = _ from if_neg h_55)) (fun _ _ => rfl)
  · refine VS.tableIn 76 dX6_place_15 (by decide) (by decide) rfl (by decide) ?_
    refine VS.iload_n dX6_place_76 rfl ?_
    refine VS.aload_n dX6_place_77 rfl ?_
    refine VS.sgetR 5 dX6_place_78 uw_X6 rfl (by decide) 0 (rfl) rfl (by decide) fl_X6_10 rfl ?_
    refine VS.sgetI 0 dX6_place_81 uw_X0 rfl (by decide) 1 (rfl) rfl (by decide) fl_X6_125 rfl ?_
    refine VS.val (y := S 1 1) rfl ?_
    refine VS.iand dX6_place_84 ?_
    refine VS.aload_n dX6_place_85 rfl ?_
    refine VS.sgetR 5 dX6_place_86 uw_X6 rfl (by decide) 0 (rfl) rfl (by decide) fl_X6_10 rfl ?_
    refine VS.sgetI 0 dX6_place_89 uw_X0 rfl (by decide) 5 (rfl) rfl (by decide) fl_X6_96 rfl ?_
    refine VS.val (y := S 1 5) rfl ?_
    refine VS.iand dX6_place_92 ?_
    refine VS.callN (ct_J6_bitCount_0f7a4 l _) dX6_place_93 mi_J6_bitCount_0f7a4 st_J6_bitCount_0f7a4 ml_X6_143 (rmOk_D (by decide) (by decide)) (Nat.le_of_ble_eq_true rfl) rfl ?_
    exact VS.iret dX6_place_96 (rfl) (fun _ _ => rfl)
  · refine VS.tableIn 97 dX6_place_15 (by decide) (by decide) rfl (by decide) ?_
    refine VS.iload_n dX6_place_97 rfl ?_
    refine VS.aload_n dX6_place_98 rfl ?_
    refine VS.sgetR 5 dX6_place_99 uw_X6 rfl (by decide) 0 (rfl) rfl (by decide) fl_X6_10 rfl ?_
    refine VS.sgetI 0 dX6_place_102 uw_X0 rfl (by decide) 5 (rfl) rfl (by decide) fl_X6_96 rfl ?_
    refine VS.val (y := S 1 5) rfl ?_
    refine VS.iconst (-1) dX6_place_105 rfl ?_
    refine VS.ixor dX6_place_106 ?_
    refine VS.iand dX6_place_107 ?_
    refine VS.callN (ct_J6_bitCount_0f7a4 l _) dX6_place_108 mi_J6_bitCount_0f7a4 st_J6_bitCount_0f7a4 ml_X6_143 (rmOk_D (by decide) (by decide)) (Nat.le_of_ble_eq_true rfl) rfl ?_
    exact VS.iret dX6_place_111 (rfl) (fun _ _ => rfl)
  · refine VS.tableIn 112 dX6_place_15 (by decide) (by decide) rfl (by decide) ?_
    refine VS.aload_n dX6_place_112 rfl ?_
    refine VS.sgetR 5 dX6_place_113 uw_X6 rfl (by decide) 0 (rfl) rfl (by decide) fl_X6_10 rfl ?_
    refine VS.iload_n dX6_place_116 rfl ?_
    refine VS.callR (fun i => 1 + i) (gmAt_1.shi) (ct_X0_toldOf l _ hp) dX6_place_117 mi_X0_toldOf im_X0_toldOf sel_X0_toldOf ml_X6_158 (by decide) rfl rfl (rmOk_D (by decide) (by decide)) (Nat.le_of_ble_eq_true rfl) rfl ?_
    refine VS.stt ((mg_off 1 7 _ _).trans putG_id) ?_
    exact VS.iret dX6_place_120 (rfl) (fun _ _ => rfl)
  · refine VS.tableIn 121 dX6_place_15 (by decide) (by decide) rfl (by decide) ?_
    refine VS.aload_n dX6_place_121 rfl ?_
    refine VS.sgetR 5 dX6_place_122 uw_X6 rfl (by decide) 0 (rfl) rfl (by decide) fl_X6_10 rfl ?_
    refine VS.sgetI 0 dX6_place_125 uw_X0 rfl (by decide) 1 (rfl) rfl (by decide) fl_X6_125 rfl ?_
    refine VS.val (y := S 1 1) rfl ?_
    refine VS.aload_n dX6_place_128 rfl ?_
    refine VS.sgetR 5 dX6_place_129 uw_X6 rfl (by decide) 0 (rfl) rfl (by decide) fl_X6_10 rfl ?_
    refine VS.sgetI 0 dX6_place_132 uw_X0 rfl (by decide) 5 (rfl) rfl (by decide) fl_X6_96 rfl ?_
    refine VS.val (y := S 1 5) rfl ?_
    refine VS.iand dX6_place_135 ?_
    refine VS.iload_n dX6_place_136 rfl ?_
    refine VS.callN (ct_X1_placesBeside l _ hp) dX6_place_137 mi_X1_placesBeside st_X1_placesBeside ml_X6_161 (rmOk_D (by decide) (by decide)) (Nat.le_of_ble_eq_true rfl) rfl ?_
    exact VS.iret dX6_place_140 (rfl) (fun _ _ => rfl)
  · refine VS.tableOut 141 dX6_place_15 (ho) (by decide) ?_
    refine VS.bipush (-2) dX6_place_141 rfl ?_
    exact VS.iret dX6_place_143 (by unfold kPlace; rw [pick_out (k := 4) ho rfl]) (fun _ _ => rfl)
set_option maxRecDepth 100000 in
set_option maxHeartbeats 4000000 in
theorem ct_X6_dug_no (l : Launch) (S : SS) (r : Int32) {d : Nat} (hr : ¬ (0 ≤ r ∧ r < nI d)) (hd : S 1 13 = nI d) : CtS l yX6_dug cX6_dug 2 (some FieldType.int) (rmD 1) [.ref 0, .int r] 77 shK S (some (.int (-1))) (S) := by
  refine CtF.of (own := RX6) [some (.ref 0), some (.int r)] (by decide +kernel) rfl (fun _ => Nat.le_of_ble_eq_true rfl) (fun _ => rfl) ?_
  refine VS.aload_n dX6_dug_0 rfl ?_
  refine VS.sgetR 5 dX6_dug_1 uw_X6 rfl (by decide) 0 (rfl) rfl (by decide) fl_X6_10 rfl ?_
  refine VS.iload_n dX6_dug_4 rfl ?_
  refine VS.callR (fun i => 1 + i) (gmAt_1.shi) (ct_X0_dugAs_no l _ _ hr hd) dX6_dug_5 mi_X0_dugAs im_X0_dugAs sel_X0_dugAs ml_X6_164 (by decide) rfl rfl (rmOk_D (by decide) (by decide)) (Nat.le_of_ble_eq_true rfl) rfl ?_
  refine VS.stt ((mg_off 1 7 _ _).trans putG_id) ?_
  exact VS.iret dX6_dug_8 (rfl) (fun _ _ => rfl)
set_option maxRecDepth 100000 in
set_option maxHeartbeats 4000000 in
theorem ct_X6_dug (l : Launch) (S : SS)  {k d : Nat} (hk : k < d) (hd : S 1 13 = nI d) (hd2 : d ≤ 150) : CtS l yX6_dug cX6_dug 2 (some FieldType.int) (rmD 1) [.ref 0, .int (nI k)] 77 shK S (some (.int (S 7 k))) (S) := by
  refine CtF.of (own := RX6) [some (.ref 0), some (.int (nI k))] (by decide +kernel) rfl (fun _ => Nat.le_of_ble_eq_true rfl) (fun _ => rfl) ?_
  refine VS.aload_n dX6_dug_0 rfl ?_
  refine VS.sgetR 5 dX6_dug_1 uw_X6 rfl (by decide) 0 (rfl) rfl (by decide) fl_X6_10 rfl ?_
  refine VS.iload_n dX6_dug_4 rfl ?_
  refine VS.callR (fun i => 1 + i) (gmAt_1.shi) (ct_X0_dugAs l _ hk hd hd2) dX6_dug_5 mi_X0_dugAs im_X0_dugAs sel_X0_dugAs ml_X6_164 (by decide) rfl rfl (rmOk_D (by decide) (by decide)) (Nat.le_of_ble_eq_true rfl) rfl ?_
  refine VS.stt ((mg_off 1 7 _ _).trans putG_id) ?_
  exact VS.iret dX6_dug_8 (rfl) (fun _ _ => rfl)
def kCount (S : SS) (what : Int32) : Int32 := pick [S 1 6, rem3 (S 1 6), stI (gm S 1), S 1 7, pcI (S 1 5), pcI (S 1 5 &&& S 1 1), shlV (gm S 1), pcI (S 1 4), S 2 0, S 2 1, S 2 2, S 2 3, S 59 1, S 8 2] what (-2)
set_option maxRecDepth 100000 in
set_option maxHeartbeats 4000000 in
theorem ct_X6_count (l : Launch) (S : SS) (what : Int32) : CtS l yX6_count cX6_count 2 (some FieldType.int) (rmD 3) [.ref 0, .int what] 77 shK S (some (.int (kCount S what))) (S) := by
  refine CtF.of (own := RX6) [some (.ref 0), some (.int what)] (by decide +kernel) rfl (fun _ => Nat.le_of_ble_eq_true rfl) (fun _ => rfl) ?_
  refine VS.iload_n dX6_count_0 rfl ?_
  rcases sw_0_13 what with rfl | rfl | rfl | rfl | rfl | rfl | rfl | rfl | rfl | rfl | rfl | rfl | rfl | rfl | ho
  · refine VS.tableIn 72 dX6_count_1 (by decide) (by decide) rfl (by decide) ?_
    refine VS.aload_n dX6_count_72 rfl ?_
    refine VS.sgetR 5 dX6_count_73 uw_X6 rfl (by decide) 0 (rfl) rfl (by decide) fl_X6_10 rfl ?_
    refine VS.sgetI 0 dX6_count_76 uw_X0 rfl (by decide) 6 (rfl) rfl (by decide) fl_X6_167 rfl ?_
    exact VS.iret dX6_count_79 (rfl) (fun _ _ => rfl)
  · refine VS.tableIn 80 dX6_count_1 (by decide) (by decide) rfl (by decide) ?_
    refine VS.aload_n dX6_count_80 rfl ?_
    refine VS.sgetR 5 dX6_count_81 uw_X6 rfl (by decide) 0 (rfl) rfl (by decide) fl_X6_10 rfl ?_
    refine VS.callR (fun i => 1 + i) (gmAt_1.shi) (ct_X0_next l _) dX6_count_84 mi_X0_next im_X0_next sel_X0_next ml_X6_170 (by decide) rfl rfl (rmOk_D (by decide) (by decide)) (Nat.le_of_ble_eq_true rfl) rfl ?_
    refine VS.stt ((mg_off 1 7 _ _).trans putG_id) ?_
    exact VS.iret dX6_count_87 (rfl) (fun _ _ => rfl)
  · refine VS.tableIn 88 dX6_count_1 (by decide) (by decide) rfl (by decide) ?_
    refine VS.aload_n dX6_count_88 rfl ?_
    refine VS.sgetR 5 dX6_count_89 uw_X6 rfl (by decide) 0 (rfl) rfl (by decide) fl_X6_10 rfl ?_
    refine VS.callR (fun i => 1 + i) (gmAt_1.shi) (ct_X0_stage l _) dX6_count_92 mi_X0_stage im_X0_stage sel_X0_stage ml_X6_173 (by decide) rfl rfl (rmOk_D (by decide) (by decide)) (Nat.le_of_ble_eq_true rfl) rfl ?_
    refine VS.stt ((mg_off 1 7 _ _).trans putG_id) ?_
    exact VS.iret dX6_count_95 (rfl) (fun _ _ => rfl)
  · refine VS.tableIn 96 dX6_count_1 (by decide) (by decide) rfl (by decide) ?_
    refine VS.aload_n dX6_count_96 rfl ?_
    refine VS.sgetR 5 dX6_count_97 uw_X6 rfl (by decide) 0 (rfl) rfl (by decide) fl_X6_10 rfl ?_
    refine VS.sgetI 0 dX6_count_100 uw_X0 rfl (by decide) 7 (rfl) rfl (by decide) fl_X6_176 rfl ?_
    exact VS.iret dX6_count_103 (rfl) (fun _ _ => rfl)
  · refine VS.tableIn 104 dX6_count_1 (by decide) (by decide) rfl (by decide) ?_
    refine VS.aload_n dX6_count_104 rfl ?_
    refine VS.sgetR 5 dX6_count_105 uw_X6 rfl (by decide) 0 (rfl) rfl (by decide) fl_X6_10 rfl ?_
    refine VS.sgetI 0 dX6_count_108 uw_X0 rfl (by decide) 5 (rfl) rfl (by decide) fl_X6_96 rfl ?_
    refine VS.val (y := S 1 5) rfl ?_
    refine VS.callN (ct_J6_bitCount_0f7a4 l _) dX6_count_111 mi_J6_bitCount_0f7a4 st_J6_bitCount_0f7a4 ml_X6_143 (rmOk_D (by decide) (by decide)) (Nat.le_of_ble_eq_true rfl) rfl ?_
    exact VS.iret dX6_count_114 (rfl) (fun _ _ => rfl)
  · refine VS.tableIn 115 dX6_count_1 (by decide) (by decide) rfl (by decide) ?_
    refine VS.aload_n dX6_count_115 rfl ?_
    refine VS.sgetR 5 dX6_count_116 uw_X6 rfl (by decide) 0 (rfl) rfl (by decide) fl_X6_10 rfl ?_
    refine VS.sgetI 0 dX6_count_119 uw_X0 rfl (by decide) 5 (rfl) rfl (by decide) fl_X6_96 rfl ?_
    refine VS.val (y := S 1 5) rfl ?_
    refine VS.aload_n dX6_count_122 rfl ?_
    refine VS.sgetR 5 dX6_count_123 uw_X6 rfl (by decide) 0 (rfl) rfl (by decide) fl_X6_10 rfl ?_
    refine VS.sgetI 0 dX6_count_126 uw_X0 rfl (by decide) 1 (rfl) rfl (by decide) fl_X6_125 rfl ?_
    refine VS.val (y := S 1 1) rfl ?_
    refine VS.iand dX6_count_129 ?_
    refine VS.callN (ct_J6_bitCount_0f7a4 l _) dX6_count_130 mi_J6_bitCount_0f7a4 st_J6_bitCount_0f7a4 ml_X6_143 (rmOk_D (by decide) (by decide)) (Nat.le_of_ble_eq_true rfl) rfl ?_
    exact VS.iret dX6_count_133 (rfl) (fun _ _ => rfl)
  · refine VS.tableIn 134 dX6_count_1 (by decide) (by decide) rfl (by decide) ?_
    refine VS.aload_n dX6_count_134 rfl ?_
    refine VS.sgetR 5 dX6_count_135 uw_X6 rfl (by decide) 0 (rfl) rfl (by decide) fl_X6_10 rfl ?_
    refine VS.callR (fun i => 1 + i) (gmAt_1.shi) (ct_X0_shownLies l _) dX6_count_138 mi_X0_shownLies im_X0_shownLies sel_X0_shownLies ml_X6_179 (by decide) rfl rfl (rmOk_D (by decide) (by decide)) (Nat.le_of_ble_eq_true rfl) rfl ?_
    refine VS.stt ((mg_off 1 7 _ _).trans putG_id) ?_
    exact VS.iret dX6_count_141 (rfl) (fun _ _ => rfl)
  · refine VS.tableIn 142 dX6_count_1 (by decide) (by decide) rfl (by decide) ?_
    refine VS.aload_n dX6_count_142 rfl ?_
    refine VS.sgetR 5 dX6_count_143 uw_X6 rfl (by decide) 0 (rfl) rfl (by decide) fl_X6_10 rfl ?_
    refine VS.sgetI 0 dX6_count_146 uw_X0 rfl (by decide) 4 (rfl) rfl (by decide) fl_X6_89 rfl ?_
    refine VS.val (y := S 1 4) rfl ?_
    refine VS.callN (ct_J6_bitCount_0f7a4 l _) dX6_count_149 mi_J6_bitCount_0f7a4 st_J6_bitCount_0f7a4 ml_X6_143 (rmOk_D (by decide) (by decide)) (Nat.le_of_ble_eq_true rfl) rfl ?_
    exact VS.iret dX6_count_152 (rfl) (fun _ _ => rfl)
  · refine VS.tableIn 153 dX6_count_1 (by decide) (by decide) rfl (by decide) ?_
    refine VS.aload_n dX6_count_153 rfl ?_
    refine VS.sgetR 5 dX6_count_154 uw_X6 rfl (by decide) 0 (rfl) rfl (by decide) fl_X6_10 rfl ?_
    refine VS.iload_n dX6_count_157 rfl ?_
    refine VS.bipush (8) dX6_count_158 rfl ?_
    refine VS.isub dX6_count_160 ?_
    refine VS.val (y := nI 0) rfl ?_
    refine VS.callR (fun i => 1 + i) (gmAt_1.shi) (ct_X0_setting l _ (show 0 < 4 by decide)) dX6_count_161 mi_X0_setting im_X0_setting sel_X0_setting ml_X6_181 (by decide) rfl rfl (rmOk_D (by decide) (by decide)) (Nat.le_of_ble_eq_true rfl) rfl ?_
    refine VS.stt ((mg_off 1 7 _ _).trans putG_id) ?_
    exact VS.iret dX6_count_164 (rfl) (fun _ _ => rfl)
  · refine VS.tableIn 153 dX6_count_1 (by decide) (by decide) rfl (by decide) ?_
    refine VS.aload_n dX6_count_153 rfl ?_
    refine VS.sgetR 5 dX6_count_154 uw_X6 rfl (by decide) 0 (rfl) rfl (by decide) fl_X6_10 rfl ?_
    refine VS.iload_n dX6_count_157 rfl ?_
    refine VS.bipush (8) dX6_count_158 rfl ?_
    refine VS.isub dX6_count_160 ?_
    refine VS.val (y := nI 1) rfl ?_
    refine VS.callR (fun i => 1 + i) (gmAt_1.shi) (ct_X0_setting l _ (show 1 < 4 by decide)) dX6_count_161 mi_X0_setting im_X0_setting sel_X0_setting ml_X6_181 (by decide) rfl rfl (rmOk_D (by decide) (by decide)) (Nat.le_of_ble_eq_true rfl) rfl ?_
    refine VS.stt ((mg_off 1 7 _ _).trans putG_id) ?_
    exact VS.iret dX6_count_164 (rfl) (fun _ _ => rfl)
  · refine VS.tableIn 153 dX6_count_1 (by decide) (by decide) rfl (by decide) ?_
    refine VS.aload_n dX6_count_153 rfl ?_
    refine VS.sgetR 5 dX6_count_154 uw_X6 rfl (by decide) 0 (rfl) rfl (by decide) fl_X6_10 rfl ?_
    refine VS.iload_n dX6_count_157 rfl ?_
    refine VS.bipush (8) dX6_count_158 rfl ?_
    refine VS.isub dX6_count_160 ?_
    refine VS.val (y := nI 2) rfl ?_
    refine VS.callR (fun i => 1 + i) (gmAt_1.shi) (ct_X0_setting l _ (show 2 < 4 by decide)) dX6_count_161 mi_X0_setting im_X0_setting sel_X0_setting ml_X6_181 (by decide) rfl rfl (rmOk_D (by decide) (by decide)) (Nat.le_of_ble_eq_true rfl) rfl ?_
    refine VS.stt ((mg_off 1 7 _ _).trans putG_id) ?_
    exact VS.iret dX6_count_164 (rfl) (fun _ _ => rfl)
  · refine VS.tableIn 153 dX6_count_1 (by decide) (by decide) rfl (by decide) ?_
    refine VS.aload_n dX6_count_153 rfl ?_
    refine VS.sgetR 5 dX6_count_154 uw_X6 rfl (by decide) 0 (rfl) rfl (by decide) fl_X6_10 rfl ?_
    refine VS.iload_n dX6_count_157 rfl ?_
    refine VS.bipush (8) dX6_count_158 rfl ?_
    refine VS.isub dX6_count_160 ?_
    refine VS.val (y := nI 3) rfl ?_
    refine VS.callR (fun i => 1 + i) (gmAt_1.shi) (ct_X0_setting l _ (show 3 < 4 by decide)) dX6_count_161 mi_X0_setting im_X0_setting sel_X0_setting ml_X6_181 (by decide) rfl rfl (rmOk_D (by decide) (by decide)) (Nat.le_of_ble_eq_true rfl) rfl ?_
    refine VS.stt ((mg_off 1 7 _ _).trans putG_id) ?_
    exact VS.iret dX6_count_164 (rfl) (fun _ _ => rfl)
  · refine VS.tableIn 165 dX6_count_1 (by decide) (by decide) rfl (by decide) ?_
    refine VS.aload_n dX6_count_165 rfl ?_
    refine VS.sgetR 5 dX6_count_166 uw_X6 rfl (by decide) 2 (rfl) rfl (by decide) fl_X6_26 rfl ?_
    refine VS.sgetI 1 dX6_count_169 uw_X2 rfl (by decide) 1 (rfl) rfl (by decide) fl_X6_184 rfl ?_
    exact VS.iret dX6_count_172 (rfl) (fun _ _ => rfl)
  · refine VS.tableIn 173 dX6_count_1 (by decide) (by decide) rfl (by decide) ?_
    refine VS.aload_n dX6_count_173 rfl ?_
    refine VS.sgetR 5 dX6_count_174 uw_X6 rfl (by decide) 1 (rfl) rfl (by decide) fl_X6_19 rfl ?_
    refine VS.sgetI 2 dX6_count_177 uw_X3 rfl (by decide) 2 (rfl) rfl (by decide) fl_X6_187 rfl ?_
    exact VS.iret dX6_count_180 (rfl) (fun _ _ => rfl)
  · refine VS.tableOut 181 dX6_count_1 (ho) (by decide) ?_
    refine VS.bipush (-2) dX6_count_181 rfl ?_
    exact VS.iret dX6_count_183 (by unfold kCount; rw [pick_out (k := 13) ho rfl]) (fun _ _ => rfl)
def cbK (G : SS) : Nat → Int32
  | 0 => 0
  | k + 1 => if fitI G (nI k) = 0 then cbK G k else cbK G k ||| ((1 : Int32) <<< (nI k &&& 31))
set_option maxRecDepth 100000 in
set_option maxHeartbeats 4000000 in
theorem ct_X6_canBe_no (l : Launch) (S : SS)  (hb : S 1 3 = 0) : CtS l yX6_canBe cX6_canBe 3 (some FieldType.int) (rmD 5) [.ref 0] 77 shK S (some (.int 0)) (S) := by
  refine CtF.of (own := RX6) [some (.ref 0), none, none] (by decide +kernel) rfl (fun _ => Nat.le_of_ble_eq_true rfl) (fun _ => rfl) ?_
  refine VS.iconst (0) dX6_canBe_0 rfl ?_
  refine VS.istore_n dX6_canBe_1 (by decide) rfl ?_
  refine VS.aload_n dX6_canBe_2 rfl ?_
  refine VS.sgetR 5 dX6_canBe_3 uw_X6 rfl (by decide) 0 (rfl) rfl (by decide) fl_X6_10 rfl ?_
  refine VS.sgetI 0 dX6_canBe_6 uw_X0 rfl (by decide) 3 (rfl) rfl (by decide) fl_X6_154 rfl ?_
  refine VS.val (y := S 1 3) rfl ?_
  refine VS.if_eq 43 dX6_canBe_9 (by decide) (fun _ => ?_) (fun hh => absurd (hb) hh)
  refine VS.iload_n dX6_canBe_43 rfl ?_
  exact VS.iret dX6_canBe_44 (rfl) (fun _ _ => rfl)
set_option maxRecDepth 100000 in
set_option maxHeartbeats 4000000 in
theorem ct_X6_canBe (l : Launch) (S : SS)  (hb : ¬ S 1 3 = 0) : CtS l yX6_canBe cX6_canBe 3 (some FieldType.int) (rmD 5) [.ref 0] 77 shK S (some (.int (cbK (gm S 1) 8))) (S) := by
  refine CtF.of (own := RX6) [some (.ref 0), none, none] (by decide +kernel) rfl (fun _ => Nat.le_of_ble_eq_true rfl) (fun _ => rfl) ?_
  refine VS.iconst (0) dX6_canBe_0 rfl ?_
  refine VS.istore_n dX6_canBe_1 (by decide) rfl ?_
  refine VS.aload_n dX6_canBe_2 rfl ?_
  refine VS.sgetR 5 dX6_canBe_3 uw_X6 rfl (by decide) 0 (rfl) rfl (by decide) fl_X6_10 rfl ?_
  refine VS.sgetI 0 dX6_canBe_6 uw_X0 rfl (by decide) 3 (rfl) rfl (by decide) fl_X6_154 rfl ?_
  refine VS.val (y := S 1 3) rfl ?_
  refine VS.if_eq 43 dX6_canBe_9 (by decide) (fun hh => absurd hh (hb)) (fun _ => ?_)
  refine VS.iconst (0) dX6_canBe_12 rfl ?_
  refine VS.istore_n dX6_canBe_13 (by decide) rfl ?_
  refine VS.forS (i0 := 0) (8) (fun _ => S) (fun i => [some (.ref 0), some (.int (cbK (gm S 1) i)), some (.int (nI i))]) (by decide) ?_ (fun i hi ih => ?_)
  · refine VS.iload_n dX6_canBe_14 rfl ?_
    refine VS.bipush (8) dX6_canBe_15 rfl ?_
    refine VS.icmp_ge 43 dX6_canBe_17 (by decide) (fun _ => ?_) (fun hh => absurd (by decide) hh)
    refine VS.iload_n dX6_canBe_43 rfl ?_
    exact VS.iret dX6_canBe_44 (rfl) (fun _ _ => rfl)
  · refine VS.iload_n dX6_canBe_14 rfl ?_
    refine VS.bipush (8) dX6_canBe_15 rfl ?_
    refine VS.icmp_ge 43 dX6_canBe_17 (by decide) (fun hh => absurd hh (nge8 hi)) (fun _ => ?_)
    refine VS.aload_n dX6_canBe_20 rfl ?_
    refine VS.sgetR 5 dX6_canBe_21 uw_X6 rfl (by decide) 0 (rfl) rfl (by decide) fl_X6_10 rfl ?_
    refine VS.iload_n dX6_canBe_24 rfl ?_
    refine VS.callR (fun i => 1 + i) (gmAt_1.shi) (ct_X0_fitsWhatWasTold l _ _) dX6_canBe_25 mi_X0_fitsWhatWasTold im_X0_fitsWhatWasTold sel_X0_fitsWhatWasTold ml_X6_190 (by decide) rfl rfl (rmOk_D (by decide) (by decide)) (Nat.le_of_ble_eq_true rfl) rfl ?_
    refine VS.stt ((mg_off 1 7 _ _).trans putG_id) ?_
    refine VS.if_eq 37 dX6_canBe_28 (by decide) (fun h_28 => ?_) (fun h_28 => ?_)
    · rw [show cbK (gm S 1) (i + 1) = cbK (gm S 1) i from if_pos h_28] at ih
      refine VS.iinc (nI (i + 1)) dX6_canBe_37 rfl (by decide) ((nI_succ i).symm) rfl ?_
      refine VS.goto 14 dX6_canBe_40 (by decide) ?_
      exact ih
    · refine VS.iload_n dX6_canBe_31 rfl ?_
      refine VS.iconst (1) dX6_canBe_32 rfl ?_
      refine VS.iload_n dX6_canBe_33 rfl ?_
      refine VS.ishl dX6_canBe_34 ?_
      refine VS.ior dX6_canBe_35 ?_
      refine VS.val (y := cbK (gm S 1) (i + 1)) (if_neg h_28).symm ?_
      refine VS.istore_n dX6_canBe_36 (by decide) rfl ?_
      refine VS.iinc (nI (i + 1)) dX6_canBe_37 rfl (by decide) ((nI_succ i).symm) rfl ?_
      refine VS.goto 14 dX6_canBe_40 (by decide) ?_
      exact ih
set_option maxRecDepth 100000 in
set_option maxHeartbeats 4000000 in
theorem ct_X6_shows (l : Launch) (S : SS) (a : Int32) (b : Int32) : CtS l yX6_shows cX6_shows 4 (some FieldType.int) (rmD 4) [.ref 0, .int a, .int b] 77 shK S (some (.int (if wrE a b = 0 then (if S 1 3 = 0 then -5 else pcI (KK (S 1 1) (S 1 5 ||| bitE a b)) - pcI (S 1 5)) else wrE a b))) (S) := by
  refine CtF.of (own := RX6) [some (.ref 0), some (.int a), some (.int b), none] (by decide +kernel) rfl (fun _ => Nat.le_of_ble_eq_true rfl) (fun _ => rfl) ?_
  refine VS.iload_n dX6_shows_0 rfl ?_
  refine VS.iload_n dX6_shows_1 rfl ?_
  refine VS.callN (ct_X1_wrongEnds l _ _) dX6_shows_2 mi_X1_wrongEnds st_X1_wrongEnds ml_X6_78 (rmOk_D (by decide) (by decide)) (Nat.le_of_ble_eq_true rfl) rfl ?_
  refine VS.istore_n dX6_shows_5 (by decide) rfl ?_
  refine VS.iload_n dX6_shows_6 rfl ?_
  refine VS.if_eq 12 dX6_shows_7 (by decide) (fun h_7 => ?_) (fun h_7 => ?_)
  · refine VS.aload_n dX6_shows_12 rfl ?_
    refine VS.sgetR 5 dX6_shows_13 uw_X6 rfl (by decide) 0 (rfl) rfl (by decide) fl_X6_10 rfl ?_
    refine VS.sgetI 0 dX6_shows_16 uw_X0 rfl (by decide) 3 (rfl) rfl (by decide) fl_X6_154 rfl ?_
    refine VS.val (y := S 1 3) rfl ?_
    refine VS.if_eq 37 dX6_shows_19 (by decide) (fun h_19 => ?_) (fun h_19 => ?_)
    · refine VS.bipush (-5) dX6_shows_37 rfl ?_
      exact VS.iret dX6_shows_39 (by first | rw [if_neg h_7] | (rw [if_pos h_7, if_pos h_19] <;> rfl) | (rw [if_pos h_7, if_neg h_19] <;> rfl)) (fun _ _ => rfl)
    · refine VS.aload_n dX6_shows_22 rfl ?_
      refine VS.sgetR 5 dX6_shows_23 uw_X6 rfl (by decide) 0 (rfl) rfl (by decide) fl_X6_10 rfl ?_
      refine VS.iload_n dX6_shows_26 rfl ?_
      refine VS.iload_n dX6_shows_27 rfl ?_
      refine VS.callN (ct_X1_roadBetween l _ _) dX6_shows_28 mi_X1_roadBetween st_X1_roadBetween ml_X6_86 (rmOk_D (by decide) (by decide)) (Nat.le_of_ble_eq_true rfl) rfl ?_
      refine VS.callR (fun i => 1 + i) (gmAt_1.shi) (ct_X0_moreKnownBy l _ _) dX6_shows_31 mi_X0_moreKnownBy im_X0_moreKnownBy sel_X0_moreKnownBy ml_X6_193 (by decide) rfl rfl (rmOk_D (by decide) (by decide)) (Nat.le_of_ble_eq_true rfl) rfl ?_
      refine VS.stt ((mg_off 1 7 _ _).trans putG_id) ?_
      refine VS.goto 39 dX6_shows_34 (by decide) ?_
      exact VS.iret dX6_shows_39 (by first | rw [if_neg h_7] | (rw [if_pos h_7, if_pos h_19] <;> rfl) | (rw [if_pos h_7, if_neg h_19] <;> rfl)) (fun _ _ => rfl)
  · refine VS.iload_n dX6_shows_10 rfl ?_
    exact VS.iret dX6_shows_11 (by first | rw [if_neg h_7] | (rw [if_pos h_7, if_pos h_19] <;> rfl) | (rw [if_pos h_7, if_neg h_19] <;> rfl)) (fun _ _ => rfl)
def moK (G : SS) (k : Nat) : Int32 := pcI (KK (G 0 1) (G 0 5 ||| ((1 : Int32) <<< (nI k &&& 31)))) - pcI (G 0 5)
def bkM (G : SS) : Nat → Int32
  | 0 => 0
  | k + 1 => if bkM G k < moK G k then moK G k else bkM G k
def bkB (G : SS) : Nat → Int32
  | 0 => -6
  | k + 1 => if bkM G k < moK G k then nI k else bkB G k
def kBest (G : SS) (what : Int32) : Int32 := if bkB G 28 = -6 ∨ what = 0 then bkB G 28 else bkM G 28
set_option maxRecDepth 100000 in
set_option maxHeartbeats 4000000 in
theorem ct_X6_bestShow_bad (l : Launch) (S : SS) (what : Int32) (hw : ¬ (what = 0 ∨ what = 1)) : CtS l yX6_bestShow cX6_bestShow 6 (some FieldType.int) (rmD 4) [.ref 0, .int what] 77 shK S (some (.int (-2))) (S) := by
  refine CtF.of (own := RX6) [some (.ref 0), some (.int what), none, none, none, none] (by decide +kernel) rfl (fun _ => Nat.le_of_ble_eq_true rfl) (fun _ => rfl) ?_
  refine VS.iload_n dX6_bestShow_0 rfl ?_
  refine VS.if_eq 12 dX6_bestShow_1 (by decide) (fun hh => absurd hh (fun z => hw (Or.inl z))) (fun _ => ?_)
  refine VS.iload_n dX6_bestShow_4 rfl ?_
  refine VS.iconst (1) dX6_bestShow_5 rfl ?_
  refine VS.icmp_eq 12 dX6_bestShow_6 (by decide) (fun hh => absurd hh (fun z => hw (Or.inr z))) (fun _ => ?_)
  refine VS.bipush (-2) dX6_bestShow_9 rfl ?_
  exact VS.iret dX6_bestShow_11 (rfl) (fun _ _ => rfl)
set_option maxRecDepth 100000 in
set_option maxHeartbeats 4000000 in
theorem ct_X6_bestShow_no (l : Launch) (S : SS) (what : Int32) (hw : what = 0 ∨ what = 1) (hb : S 1 3 = 0) : CtS l yX6_bestShow cX6_bestShow 6 (some FieldType.int) (rmD 4) [.ref 0, .int what] 77 shK S (some (.int (-5))) (S) := by
  refine CtF.of (own := RX6) [some (.ref 0), some (.int what), none, none, none, none] (by decide +kernel) rfl (fun _ => Nat.le_of_ble_eq_true rfl) (fun _ => rfl) ?_
  refine VS.iload_n dX6_bestShow_0 rfl ?_
  refine VS.if_eq 12 dX6_bestShow_1 (by decide) (fun h_1 => ?_) (fun h_1 => ?_)
  · refine VS.aload_n dX6_bestShow_12 rfl ?_
    refine VS.sgetR 5 dX6_bestShow_13 uw_X6 rfl (by decide) 0 (rfl) rfl (by decide) fl_X6_10 rfl ?_
    refine VS.sgetI 0 dX6_bestShow_16 uw_X0 rfl (by decide) 3 (rfl) rfl (by decide) fl_X6_154 rfl ?_
    refine VS.val (y := S 1 3) rfl ?_
    refine VS.if_ne 25 dX6_bestShow_19 (by decide) (fun hh => absurd (hb) hh) (fun _ => ?_)
    refine VS.bipush (-5) dX6_bestShow_22 rfl ?_
    exact VS.iret dX6_bestShow_24 (rfl) (fun _ _ => rfl)
  · refine VS.iload_n dX6_bestShow_4 rfl ?_
    refine VS.iconst (1) dX6_bestShow_5 rfl ?_
    refine VS.icmp_eq 12 dX6_bestShow_6 (by decide) (fun _ => ?_) (fun hh => absurd (hw.resolve_left h_1) hh)
    refine VS.aload_n dX6_bestShow_12 rfl ?_
    refine VS.sgetR 5 dX6_bestShow_13 uw_X6 rfl (by decide) 0 (rfl) rfl (by decide) fl_X6_10 rfl ?_
    refine VS.sgetI 0 dX6_bestShow_16 uw_X0 rfl (by decide) 3 (rfl) rfl (by decide) fl_X6_154 rfl ?_
    refine VS.val (y := S 1 3) rfl ?_
    refine VS.if_ne 25 dX6_bestShow_19 (by decide) (fun hh => absurd (hb) hh) (fun _ => ?_)
    refine VS.bipush (-5) dX6_bestShow_22 rfl ?_
    exact VS.iret dX6_bestShow_24 (rfl) (fun _ _ => rfl)
set_option maxRecDepth 100000 in
set_option maxHeartbeats 4000000 in
theorem ct_X6_bestShow (l : Launch) (S : SS) (what : Int32) (hw : what = 0 ∨ what = 1) (hb : ¬ S 1 3 = 0) : CtS l yX6_bestShow cX6_bestShow 6 (some FieldType.int) (rmD 4) [.ref 0, .int what] 77 shK S (some (.int (kBest (gm S 1) what))) (S) := by
  refine CtF.of (own := RX6) [some (.ref 0), some (.int what), none, none, none, none] (by decide +kernel) rfl (fun _ => Nat.le_of_ble_eq_true rfl) (fun _ => rfl) ?_
  refine VS.iload_n dX6_bestShow_0 rfl ?_
  refine VS.if_eq 12 dX6_bestShow_1 (by decide) (fun h_1 => ?_) (fun h_1 => ?_)
  · refine VS.aload_n dX6_bestShow_12 rfl ?_
    refine VS.sgetR 5 dX6_bestShow_13 uw_X6 rfl (by decide) 0 (rfl) rfl (by decide) fl_X6_10 rfl ?_
    refine VS.sgetI 0 dX6_bestShow_16 uw_X0 rfl (by decide) 3 (rfl) rfl (by decide) fl_X6_154 rfl ?_
    refine VS.val (y := S 1 3) rfl ?_
    refine VS.if_ne 25 dX6_bestShow_19 (by decide) (fun _ => ?_) (fun hh => absurd hh (hb))
    refine VS.bipush (-6) dX6_bestShow_25 rfl ?_
    refine VS.istore_n dX6_bestShow_27 (by decide) rfl ?_
    refine VS.iconst (0) dX6_bestShow_28 rfl ?_
    refine VS.istore_n dX6_bestShow_29 (by decide) rfl ?_
    refine VS.iconst (0) dX6_bestShow_30 rfl ?_
    refine VS.istore dX6_bestShow_31 (by decide) rfl ?_
    refine VS.forS (i0 := 0) (28) (fun _ => S) (fun i => [some (.ref 0), some (.int what), some (.int (bkB (gm S 1) i)), some (.int (bkM (gm S 1) i)), some (.int (nI i)), none]) (by decide) ?_ (fun i hi ih => ?_)
    · refine VS.iload dX6_bestShow_33 rfl ?_
      refine VS.bipush (28) dX6_bestShow_35 rfl ?_
      refine VS.icmp_ge 71 dX6_bestShow_37 (by decide) (fun _ => ?_) (fun hh => absurd (by decide) hh)
      refine VS.iload_n dX6_bestShow_71 rfl ?_
      refine VS.bipush (-6) dX6_bestShow_72 rfl ?_
      refine VS.icmp_eq 81 dX6_bestShow_74 (by decide) (fun h_74 => ?_) (fun h_74 => ?_)
      · refine VS.iload_n dX6_bestShow_81 rfl ?_
        refine VS.goto 86 dX6_bestShow_82 (by decide) ?_
        exact VS.iret dX6_bestShow_86 (by unfold kBest; first | rw [if_pos (Or.inl h_74)] | rw [if_pos (Or.inr h_78)] | rw [if_neg (fun q => q.elim h_74 h_78)]) (fun _ _ => rfl)
      · refine VS.iload_n dX6_bestShow_77 rfl ?_
        refine VS.if_ne 85 dX6_bestShow_78 (by decide) (fun h_78 => ?_) (fun h_78 => ?_)
        · refine VS.iload_n dX6_bestShow_85 rfl ?_
          exact VS.iret dX6_bestShow_86 (by unfold kBest; first | rw [if_pos (Or.inl h_74)] | rw [if_pos (Or.inr h_78)] | rw [if_neg (fun q => q.elim h_74 h_78)]) (fun _ _ => rfl)
        · refine VS.iload_n dX6_bestShow_81 rfl ?_
          refine VS.goto 86 dX6_bestShow_82 (by decide) ?_
          exact VS.iret dX6_bestShow_86 (by unfold kBest; first | rw [if_pos (Or.inl h_74)] | rw [if_pos (Or.inr h_78)] | rw [if_neg (fun q => q.elim h_74 h_78)]) (fun _ _ => rfl)
    · refine VS.iload dX6_bestShow_33 rfl ?_
      refine VS.bipush (28) dX6_bestShow_35 rfl ?_
      refine VS.icmp_ge 71 dX6_bestShow_37 (by decide) (fun hh => absurd hh (nge28 hi)) (fun _ => ?_)
      refine VS.aload_n dX6_bestShow_40 rfl ?_
      refine VS.sgetR 5 dX6_bestShow_41 uw_X6 rfl (by decide) 0 (rfl) rfl (by decide) fl_X6_10 rfl ?_
      refine VS.iconst (1) dX6_bestShow_44 rfl ?_
      refine VS.iload dX6_bestShow_45 rfl ?_
      refine VS.ishl dX6_bestShow_47 ?_
      refine VS.callR (fun i => 1 + i) (gmAt_1.shi) (ct_X0_moreKnownBy l _ _) dX6_bestShow_48 mi_X0_moreKnownBy im_X0_moreKnownBy sel_X0_moreKnownBy ml_X6_193 (by decide) rfl rfl (rmOk_D (by decide) (by decide)) (Nat.le_of_ble_eq_true rfl) rfl ?_
      refine VS.stt ((mg_off 1 7 _ _).trans putG_id) ?_
      refine VS.val (y := moK (gm S 1) i) rfl ?_
      refine VS.istore dX6_bestShow_51 (by decide) rfl ?_
      refine VS.iload dX6_bestShow_53 rfl ?_
      refine VS.iload_n dX6_bestShow_55 rfl ?_
      refine VS.icmp_le 65 dX6_bestShow_56 (by decide) (fun h_56 => ?_) (fun h_56 => ?_)
      · rw [show bkB (gm S 1) (i + 1) = bkB (gm S 1) i from if_neg (Int32.not_lt.mpr h_56), show bkM (gm S 1) (i + 1) = bkM (gm S 1) i from if_neg (Int32.not_lt.mpr h_56)] at ih
        refine VS.iinc (nI (i + 1)) dX6_bestShow_65 rfl (by decide) ((nI_succ i).symm) rfl ?_
        refine VS.goto 33 dX6_bestShow_68 (by decide) ?_
        exact VS.forget 5 ih
      · rw [show bkB (gm S 1) (i + 1) = nI i from if_pos (Int32.not_le.mp h_56), show bkM (gm S 1) (i + 1) = moK (gm S 1) i from if_pos (Int32.not_le.mp h_56)] at ih
        refine VS.iload dX6_bestShow_59 rfl ?_
        refine VS.istore_n dX6_bestShow_61 (by decide) rfl ?_
        refine VS.iload dX6_bestShow_62 rfl ?_
        refine VS.istore_n dX6_bestShow_64 (by decide) rfl ?_
        refine VS.iinc (nI (i + 1)) dX6_bestShow_65 rfl (by decide) ((nI_succ i).symm) rfl ?_
        refine VS.goto 33 dX6_bestShow_68 (by decide) ?_
        exact VS.forget 5 ih
  · refine VS.iload_n dX6_bestShow_4 rfl ?_
    refine VS.iconst (1) dX6_bestShow_5 rfl ?_
    refine VS.icmp_eq 12 dX6_bestShow_6 (by decide) (fun _ => ?_) (fun hh => absurd (hw.resolve_left h_1) hh)
    refine VS.aload_n dX6_bestShow_12 rfl ?_
    refine VS.sgetR 5 dX6_bestShow_13 uw_X6 rfl (by decide) 0 (rfl) rfl (by decide) fl_X6_10 rfl ?_
    refine VS.sgetI 0 dX6_bestShow_16 uw_X0 rfl (by decide) 3 (rfl) rfl (by decide) fl_X6_154 rfl ?_
    refine VS.val (y := S 1 3) rfl ?_
    refine VS.if_ne 25 dX6_bestShow_19 (by decide) (fun _ => ?_) (fun hh => absurd hh (hb))
    refine VS.bipush (-6) dX6_bestShow_25 rfl ?_
    refine VS.istore_n dX6_bestShow_27 (by decide) rfl ?_
    refine VS.iconst (0) dX6_bestShow_28 rfl ?_
    refine VS.istore_n dX6_bestShow_29 (by decide) rfl ?_
    refine VS.iconst (0) dX6_bestShow_30 rfl ?_
    refine VS.istore dX6_bestShow_31 (by decide) rfl ?_
    refine VS.forS (i0 := 0) (28) (fun _ => S) (fun i => [some (.ref 0), some (.int what), some (.int (bkB (gm S 1) i)), some (.int (bkM (gm S 1) i)), some (.int (nI i)), none]) (by decide) ?_ (fun i hi ih => ?_)
    · refine VS.iload dX6_bestShow_33 rfl ?_
      refine VS.bipush (28) dX6_bestShow_35 rfl ?_
      refine VS.icmp_ge 71 dX6_bestShow_37 (by decide) (fun _ => ?_) (fun hh => absurd (by decide) hh)
      refine VS.iload_n dX6_bestShow_71 rfl ?_
      refine VS.bipush (-6) dX6_bestShow_72 rfl ?_
      refine VS.icmp_eq 81 dX6_bestShow_74 (by decide) (fun h_74 => ?_) (fun h_74 => ?_)
      · refine VS.iload_n dX6_bestShow_81 rfl ?_
        refine VS.goto 86 dX6_bestShow_82 (by decide) ?_
        exact VS.iret dX6_bestShow_86 (by unfold kBest; first | rw [if_pos (Or.inl h_74)] | rw [if_pos (Or.inr h_78)] | rw [if_neg (fun q => q.elim h_74 h_78)]) (fun _ _ => rfl)
      · refine VS.iload_n dX6_bestShow_77 rfl ?_
        refine VS.if_ne 85 dX6_bestShow_78 (by decide) (fun h_78 => ?_) (fun h_78 => ?_)
        · refine VS.iload_n dX6_bestShow_85 rfl ?_
          exact VS.iret dX6_bestShow_86 (by unfold kBest; first | rw [if_pos (Or.inl h_74)] | rw [if_pos (Or.inr h_78)] | rw [if_neg (fun q => q.elim h_74 h_78)]) (fun _ _ => rfl)
        · refine VS.iload_n dX6_bestShow_81 rfl ?_
          refine VS.goto 86 dX6_bestShow_82 (by decide) ?_
          exact VS.iret dX6_bestShow_86 (by unfold kBest; first | rw [if_pos (Or.inl h_74)] | rw [if_pos (Or.inr h_78)] | rw [if_neg (fun q => q.elim h_74 h_78)]) (fun _ _ => rfl)
    · refine VS.iload dX6_bestShow_33 rfl ?_
      refine VS.bipush (28) dX6_bestShow_35 rfl ?_
      refine VS.icmp_ge 71 dX6_bestShow_37 (by decide) (fun hh => absurd hh (nge28 hi)) (fun _ => ?_)
      refine VS.aload_n dX6_bestShow_40 rfl ?_
      refine VS.sgetR 5 dX6_bestShow_41 uw_X6 rfl (by decide) 0 (rfl) rfl (by decide) fl_X6_10 rfl ?_
      refine VS.iconst (1) dX6_bestShow_44 rfl ?_
      refine VS.iload dX6_bestShow_45 rfl ?_
      refine VS.ishl dX6_bestShow_47 ?_
      refine VS.callR (fun i => 1 + i) (gmAt_1.shi) (ct_X0_moreKnownBy l _ _) dX6_bestShow_48 mi_X0_moreKnownBy im_X0_moreKnownBy sel_X0_moreKnownBy ml_X6_193 (by decide) rfl rfl (rmOk_D (by decide) (by decide)) (Nat.le_of_ble_eq_true rfl) rfl ?_
      refine VS.stt ((mg_off 1 7 _ _).trans putG_id) ?_
      refine VS.val (y := moK (gm S 1) i) rfl ?_
      refine VS.istore dX6_bestShow_51 (by decide) rfl ?_
      refine VS.iload dX6_bestShow_53 rfl ?_
      refine VS.iload_n dX6_bestShow_55 rfl ?_
      refine VS.icmp_le 65 dX6_bestShow_56 (by decide) (fun h_56 => ?_) (fun h_56 => ?_)
      · rw [show bkB (gm S 1) (i + 1) = bkB (gm S 1) i from if_neg (Int32.not_lt.mpr h_56), show bkM (gm S 1) (i + 1) = bkM (gm S 1) i from if_neg (Int32.not_lt.mpr h_56)] at ih
        refine VS.iinc (nI (i + 1)) dX6_bestShow_65 rfl (by decide) ((nI_succ i).symm) rfl ?_
        refine VS.goto 33 dX6_bestShow_68 (by decide) ?_
        exact VS.forget 5 ih
      · rw [show bkB (gm S 1) (i + 1) = nI i from if_pos (Int32.not_le.mp h_56), show bkM (gm S 1) (i + 1) = moK (gm S 1) i from if_pos (Int32.not_le.mp h_56)] at ih
        refine VS.iload dX6_bestShow_59 rfl ?_
        refine VS.istore_n dX6_bestShow_61 (by decide) rfl ?_
        refine VS.iload dX6_bestShow_62 rfl ?_
        refine VS.istore_n dX6_bestShow_64 (by decide) rfl ?_
        refine VS.iinc (nI (i + 1)) dX6_bestShow_65 rfl (by decide) ((nI_succ i).symm) rfl ?_
        refine VS.goto 33 dX6_bestShow_68 (by decide) ?_
        exact VS.forget 5 ih
def kWay (S : SS) (a b : Int32) : Int32 := if (0 ≤ a ∧ a < 8) ∧ (0 ≤ b ∧ b < 8) then (if distI (S 1 1 &&& S 1 5) a b = 99 then -6 else distI (S 1 1 &&& S 1 5) a b) else -1
set_option maxRecDepth 100000 in
set_option maxHeartbeats 4000000 in
theorem ct_X6_knownWay (l : Launch) (S : SS) (a : Int32) (b : Int32) : CtS l yX6_knownWay cX6_knownWay 4 (some FieldType.int) (rmD 4) [.ref 0, .int a, .int b] 77 shK S (some (.int (kWay S a b))) (S) := by
  refine CtF.of (own := RX6) [some (.ref 0), some (.int a), some (.int b), none] (by decide +kernel) rfl (fun _ => Nat.le_of_ble_eq_true rfl) (fun _ => rfl) ?_
  refine VS.iload_n dX6_knownWay_0 rfl ?_
  refine VS.callN (ct_X1_isPlace l _) dX6_knownWay_1 mi_X1_isPlace st_X1_isPlace ml_X6_148 (rmOk_D (by decide) (by decide)) (Nat.le_of_ble_eq_true rfl) rfl ?_
  refine VS.if_eq 14 dX6_knownWay_4 (by decide) (fun h_4 => ?_) (fun h_4 => ?_)
  · refine VS.iconst (-1) dX6_knownWay_14 rfl ?_
    exact VS.iret dX6_knownWay_15 (by unfold kWay; first | rw [if_neg (fun q => ite10.mp h_4 q.1)] | rw [if_neg (fun q => ite10.mp h_11 q.2)]) (fun _ _ => rfl)
  · refine VS.iload_n dX6_knownWay_7 rfl ?_
    refine VS.callN (ct_X1_isPlace l _) dX6_knownWay_8 mi_X1_isPlace st_X1_isPlace ml_X6_148 (rmOk_D (by decide) (by decide)) (Nat.le_of_ble_eq_true rfl) rfl ?_
    refine VS.if_ne 16 dX6_knownWay_11 (by decide) (fun h_11 => ?_) (fun h_11 => ?_)
    · refine VS.aload_n dX6_knownWay_16 rfl ?_
      refine VS.sgetR 5 dX6_knownWay_17 uw_X6 rfl (by decide) 0 (rfl) rfl (by decide) fl_X6_10 rfl ?_
      refine VS.sgetI 0 dX6_knownWay_20 uw_X0 rfl (by decide) 1 (rfl) rfl (by decide) fl_X6_125 rfl ?_
      refine VS.val (y := S 1 1) rfl ?_
      refine VS.aload_n dX6_knownWay_23 rfl ?_
      refine VS.sgetR 5 dX6_knownWay_24 uw_X6 rfl (by decide) 0 (rfl) rfl (by decide) fl_X6_10 rfl ?_
      refine VS.sgetI 0 dX6_knownWay_27 uw_X0 rfl (by decide) 5 (rfl) rfl (by decide) fl_X6_96 rfl ?_
      refine VS.val (y := S 1 5) rfl ?_
      refine VS.iand dX6_knownWay_30 ?_
      refine VS.iload_n dX6_knownWay_31 rfl ?_
      refine VS.iload_n dX6_knownWay_32 rfl ?_
      refine VS.callN (ct_X1_distance l _ _ _) dX6_knownWay_33 mi_X1_distance st_X1_distance ml_X6_196 (rmOk_D (by decide) (by decide)) (Nat.le_of_ble_eq_true rfl) rfl ?_
      refine VS.istore_n dX6_knownWay_36 (by decide) rfl ?_
      refine VS.iload_n dX6_knownWay_37 rfl ?_
      refine VS.bipush (99) dX6_knownWay_38 rfl ?_
      refine VS.icmp_ne 48 dX6_knownWay_40 (by decide) (fun h_40 => ?_) (fun h_40 => ?_)
      · refine VS.iload_n dX6_knownWay_48 rfl ?_
        exact VS.iret dX6_knownWay_49 (by unfold kWay; rw [if_pos ⟨ite11 h_4, ite11 h_11⟩]; first | rw [if_neg h_40] | rw [if_pos h_40]) (fun _ _ => rfl)
      · refine VS.bipush (-6) dX6_knownWay_43 rfl ?_
        refine VS.goto 49 dX6_knownWay_45 (by decide) ?_
        exact VS.iret dX6_knownWay_49 (by unfold kWay; rw [if_pos ⟨ite11 h_4, ite11 h_11⟩]; first | rw [if_neg h_40] | rw [if_pos h_40]) (fun _ _ => rfl)
    · refine VS.iconst (-1) dX6_knownWay_14 rfl ?_
      exact VS.iret dX6_knownWay_15 (by unfold kWay; first | rw [if_neg (fun q => ite10.mp h_4 q.1)] | rw [if_neg (fun q => ite10.mp h_11 q.2)]) (fun _ _ => rfl)
