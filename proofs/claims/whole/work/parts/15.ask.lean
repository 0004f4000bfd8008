/-! the reference: its questions -/
def rK (s : Nat → Int32) : Int32 := rKn s (s 17)
def rTh (s : Nat → Int32) : Int32 := rK s &&& s 0
def rShown (s : Nat → Int32) (p : Nat) : Int32 := pcI (rK s &&& (s (11 + p) &&& (rTh s ^^^ -1) ||| s (14 + p) &&& rTh s))
def rSeen (s : Nat → Int32) (e : Int32) : Int32 := if sb (rK s) e = 0 then -6 else sb (rTh s) e
theorem kn0_kn0 (M : SS) (k1 k2 : Int32) : kn0 (kn0 M k1) k2 = kn0 M k2 := by
  have e : (kn0 M k1) 1 = M 1 := rfl
  have e0 : (kn0 M k1) 0 = upd (upd (M 0) 7 k1) 8 (k1 &&& M 1 0) := rfl
  have e2 : kn0 (kn0 M k1) k2 = upC (kn0 M k1) 0 (upd (upd ((kn0 M k1) 0) 7 k2) 8 (k2 &&& (kn0 M k1) 1 0)) := rfl
  have e3 : kn0 M k1 = upC M 0 ((kn0 M k1) 0) := by rw [e0]; rfl
  rw [e2, e, e0, e3, upC_upC]
  unfold kn0
  congr 1
  funext k
  unfold upd
  by_cases h8 : k = 8
  · rw [if_pos h8, if_pos h8]
  · rw [if_neg h8, if_neg h8]
    by_cases h7 : k = 7
    · simp [h7]
    · simp [h7, h8]
theorem rFol_rFol (M : SS) (a b : Int32) : rFol (rFol M a) b = rFol M b := kn0_kn0 M _ _
theorem rFol_1 (M : SS) (a : Int32) : rFol M a 1 = M 1 := rfl
theorem wr_ge {a b : Int32} (h : wrE a b = 0) : 0 ≤ wrE a b := by rw [h]; decide
theorem wr_lt {a b : Int32} (h : ¬ wrE a b = 0) : ¬ 0 ≤ wrE a b := by
  unfold wrE at *
  split
  · split
    · decide
    · rename_i h1 h2; rw [if_pos h1, if_neg h2] at h; exact absurd rfl h
  · decide
def rOfRoad (s : Nat → Int32) (a b what : Int32) : Int32 := pick [eI a b, rem3 (eI a b), sb (s 17) (eI a b), rSeen s (eI a b), clJ s 11 (eI a b) 3, clJ s 14 (eI a b) 3] what (-2)
def rKnows (s : Nat → Int32) (q a b : Int32) : Int32 := if rem3 (eI a b) = q then sb (s 0) (eI a b) else rSeen s (eI a b)
def rPlayer (s : Nat → Int32) (p : Nat) (what : Int32) : Int32 := pick [s (8 + p), rClaims s p, rShown s p, s (18 + p), s (21 + p), s (24 + p), s (27 + p), pcI (thI p ||| rK s)] what (-2)
def rCount (s : Nat → Int32) (len pasts what : Int32) : Int32 := pick [s 7, rem3 (s 7), s 6, s 30, pcI (rK s), pcI (rTh s), rShown s 0 + rShown s 1 + rShown s 2, pcI (s 17), s 2, s 3, s 4, s 5, len, pasts] what (-2)

set_option maxRecDepth 100000 in
set_option maxHeartbeats 4000000 in
theorem ct_X7_ofRoad (l : Launch) (M : SS) (a : Int32) (b : Int32) (what : Int32) (hw : wrE a b = 0) : CtS l yX7_ofRoad cX7_ofRoad 6 (some FieldType.int) (rmD 3) [.ref 0, .int a, .int b, .int what] 7 shM M (some (.int (rOfRoad (M 1) a b what))) (rFol M (M 1 17)) := by
  refine CtF.of (own := RX7) [some (.ref 0), some (.int a), some (.int b), some (.int what), none, none] (by decide +kernel) rfl (fun _ => Nat.le_of_ble_eq_true rfl) (fun _ => rfl) ?_
  refine VS.iload_n dX7_ofRoad_0 rfl ?_
  refine VS.iload_n dX7_ofRoad_1 rfl ?_
  refine VS.callN (ct_X7_barPair l _ _) dX7_ofRoad_2 mi_X7_barPair st_X7_barPair ml_X7_130 (rmOk_D (by decide) (by decide)) (Nat.le_of_ble_eq_true rfl) rfl ?_
  refine VS.istore dX7_ofRoad_5 (by decide) rfl ?_
  refine VS.iload dX7_ofRoad_7 rfl ?_
  refine VS.if_ge 15 dX7_ofRoad_9 (by decide) (fun _ => ?_) (fun hh => absurd (wr_ge hw) hh)
  refine VS.iload_n dX7_ofRoad_15 rfl ?_
  refine VS.iload_n dX7_ofRoad_16 rfl ?_
  refine VS.callN (ct_X7_edge l _ _) dX7_ofRoad_17 mi_X7_edge st_X7_edge ml_X7_37 (rmOk_D (by decide) (by decide)) (Nat.le_of_ble_eq_true rfl) rfl ?_
  refine VS.istore dX7_ofRoad_20 (by decide) rfl ?_
  refine VS.aload_n dX7_ofRoad_22 rfl ?_
  refine VS.aload_n dX7_ofRoad_23 rfl ?_
  refine VS.sgetR 6 dX7_ofRoad_24 uw_X7 rfl (by decide) 0 rfl rfl (by decide) fl_X7_7 rfl ?_
  refine VS.bipush (17) dX7_ofRoad_27 rfl ?_
  refine VS.siald (17) dX7_ofRoad_29 (by decide) rfl (rfl) (by decide) (by decide) ?_
  refine VS.val (y := M 1 17) rfl ?_
  refine VS.callT (ct_X7_follows l _ _) dX7_ofRoad_30 mi_X7_follows im_X7_follows sel_X7_follows ml_X7_80 (by decide) rfl rfl (rmOk_D (by decide) (by decide)) (Nat.le_of_ble_eq_true rfl) rfl ?_
  refine VS.iload_n dX7_ofRoad_33 rfl ?_
  rcases sw_0_5 what with rfl | rfl | rfl | rfl | rfl | rfl | ho
  · refine VS.tableIn 72 dX7_ofRoad_34 (by decide) (by decide) rfl (by decide) ?_
    refine VS.iload dX7_ofRoad_72 rfl ?_
    exact VS.iret dX7_ofRoad_74 (rfl) (fun _ _ => rfl)
  · refine VS.tableIn 75 dX7_ofRoad_34 (by decide) (by decide) rfl (by decide) ?_
    refine VS.iload dX7_ofRoad_75 rfl ?_
    refine VS.iconst (3) dX7_ofRoad_77 rfl ?_
    refine VS.irem dX7_ofRoad_78 (by decide) ?_
    exact VS.iret dX7_ofRoad_79 (rfl) (fun _ _ => rfl)
  · refine VS.tableIn 80 dX7_ofRoad_34 (by decide) (by decide) rfl (by decide) ?_
    refine VS.aload_n dX7_ofRoad_80 rfl ?_
    refine VS.sgetR 6 dX7_ofRoad_81 uw_X7 rfl (by decide) 0 rfl rfl (by decide) fl_X7_7 rfl ?_
    refine VS.bipush (17) dX7_ofRoad_84 rfl ?_
    refine VS.siald (17) dX7_ofRoad_86 (by decide) rfl (rfl) (by decide) (by decide) ?_
    refine VS.iload dX7_ofRoad_87 rfl ?_
    refine VS.ishr dX7_ofRoad_89 ?_
    refine VS.iconst (1) dX7_ofRoad_90 rfl ?_
    refine VS.iand dX7_ofRoad_91 ?_
    exact VS.iret dX7_ofRoad_92 (rfl) (fun _ _ => rfl)
  · refine VS.tableIn 93 dX7_ofRoad_34 (by decide) (by decide) rfl (by decide) ?_
    refine VS.aload_n dX7_ofRoad_93 rfl ?_
    refine VS.iload dX7_ofRoad_94 rfl ?_
    refine VS.callT (ct_X7_seen l _ _) dX7_ofRoad_96 mi_X7_seen im_X7_seen sel_X7_seen ml_X7_133 (by decide) rfl rfl (rmOk_D (by decide) (by decide)) (Nat.le_of_ble_eq_true rfl) rfl ?_
    refine VS.val (y := rSeen (M 1) (eI a b)) rfl ?_
    exact VS.iret dX7_ofRoad_99 (rfl) (fun _ _ => rfl)
  · refine VS.tableIn 100 dX7_ofRoad_34 (by decide) (by decide) rfl (by decide) ?_
    refine VS.aload_n dX7_ofRoad_100 rfl ?_
    refine VS.bipush (11) dX7_ofRoad_101 rfl ?_
    refine VS.iload dX7_ofRoad_103 rfl ?_
    refine VS.callT (ct_X7_claimers l _ _ (c := 11) (by decide)) dX7_ofRoad_105 mi_X7_claimers im_X7_claimers sel_X7_claimers ml_X7_136 (by decide) rfl rfl (rmOk_D (by decide) (by decide)) (Nat.le_of_ble_eq_true rfl) rfl ?_
    exact VS.iret dX7_ofRoad_108 (rfl) (fun _ _ => rfl)
  · refine VS.tableIn 109 dX7_ofRoad_34 (by decide) (by decide) rfl (by decide) ?_
    refine VS.aload_n dX7_ofRoad_109 rfl ?_
    refine VS.bipush (14) dX7_ofRoad_110 rfl ?_
    refine VS.iload dX7_ofRoad_112 rfl ?_
    refine VS.callT (ct_X7_claimers l _ _ (c := 14) (by decide)) dX7_ofRoad_114 mi_X7_claimers im_X7_claimers sel_X7_claimers ml_X7_136 (by decide) rfl rfl (rmOk_D (by decide) (by decide)) (Nat.le_of_ble_eq_true rfl) rfl ?_
    exact VS.iret dX7_ofRoad_117 (rfl) (fun _ _ => rfl)
  · refine VS.tableOut 118 dX7_ofRoad_34 (ho) (by decide) ?_
    refine VS.bipush (-2) dX7_ofRoad_118 rfl ?_
    exact VS.iret dX7_ofRoad_120 (by unfold rOfRoad; rw [pick_out (k := 5) ho rfl]) (fun _ _ => rfl)
set_option maxRecDepth 100000 in
set_option maxHeartbeats 4000000 in
theorem ct_X7_ofRoad_no (l : Launch) (M : SS) (a : Int32) (b : Int32) (what : Int32) (hw : ¬ wrE a b = 0) : CtS l yX7_ofRoad cX7_ofRoad 6 (some FieldType.int) (rmD 3) [.ref 0, .int a, .int b, .int what] 7 shM M (some (.int (wrE a b))) (M) := by
  refine CtF.of (own := RX7) [some (.ref 0), some (.int a), some (.int b), some (.int what), none, none] (by decide +kernel) rfl (fun _ => Nat.le_of_ble_eq_true rfl) (fun _ => rfl) ?_
  refine VS.iload_n dX7_ofRoad_0 rfl ?_
  refine VS.iload_n dX7_ofRoad_1 rfl ?_
  refine VS.callN (ct_X7_barPair l _ _) dX7_ofRoad_2 mi_X7_barPair st_X7_barPair ml_X7_130 (rmOk_D (by decide) (by decide)) (Nat.le_of_ble_eq_true rfl) rfl ?_
  refine VS.istore dX7_ofRoad_5 (by decide) rfl ?_
  refine VS.iload dX7_ofRoad_7 rfl ?_
  refine VS.if_ge 15 dX7_ofRoad_9 (by decide) (fun hh => absurd hh (wr_lt hw)) (fun _ => ?_)
  refine VS.iload dX7_ofRoad_12 rfl ?_
  exact VS.iret dX7_ofRoad_14 (rfl) (fun _ _ => rfl)
set_option maxRecDepth 100000 in
set_option maxHeartbeats 4000000 in
theorem ct_X7_knows (l : Launch) (M : SS) (q : Int32) (a : Int32) (b : Int32) (hq : 0 ≤ q ∧ q < 3) (hw : wrE a b = 0) : CtS l yX7_knows cX7_knows 6 (some FieldType.int) (rmD 3) [.ref 0, .int q, .int a, .int b] 7 shM M (some (.int (rKnows (M 1) q a b))) (rFol M (M 1 17)) := by
  refine CtF.of (own := RX7) [some (.ref 0), some (.int q), some (.int a), some (.int b), none, none] (by decide +kernel) rfl (fun _ => Nat.le_of_ble_eq_true rfl) (fun _ => rfl) ?_
  refine VS.iload_n dX7_knows_0 rfl ?_
  refine VS.callN (ct_X7_isPlayer l _) dX7_knows_1 mi_X7_isPlayer st_X7_isPlayer ml_X7_104 (rmOk_D (by decide) (by decide)) (Nat.le_of_ble_eq_true rfl) rfl ?_
  refine VS.if_ne 9 dX7_knows_4 (by decide) (fun _ => ?_) (fun hh => absurd hh (by rw [if_pos hq]; decide))
  refine VS.iload_n dX7_knows_9 rfl ?_
  refine VS.iload_n dX7_knows_10 rfl ?_
  refine VS.callN (ct_X7_barPair l _ _) dX7_knows_11 mi_X7_barPair st_X7_barPair ml_X7_130 (rmOk_D (by decide) (by decide)) (Nat.le_of_ble_eq_true rfl) rfl ?_
  refine VS.istore dX7_knows_14 (by decide) rfl ?_
  refine VS.iload dX7_knows_16 rfl ?_
  refine VS.if_ge 24 dX7_knows_18 (by decide) (fun _ => ?_) (fun hh => absurd (wr_ge hw) hh)
  refine VS.iload_n dX7_knows_24 rfl ?_
  refine VS.iload_n dX7_knows_25 rfl ?_
  refine VS.callN (ct_X7_edge l _ _) dX7_knows_26 mi_X7_edge st_X7_edge ml_X7_37 (rmOk_D (by decide) (by decide)) (Nat.le_of_ble_eq_true rfl) rfl ?_
  refine VS.istore dX7_knows_29 (by decide) rfl ?_
  refine VS.aload_n dX7_knows_31 rfl ?_
  refine VS.aload_n dX7_knows_32 rfl ?_
  refine VS.sgetR 6 dX7_knows_33 uw_X7 rfl (by decide) 0 rfl rfl (by decide) fl_X7_7 rfl ?_
  refine VS.bipush (17) dX7_knows_36 rfl ?_
  refine VS.siald (17) dX7_knows_38 (by decide) rfl (rfl) (by decide) (by decide) ?_
  refine VS.val (y := M 1 17) rfl ?_
  refine VS.callT (ct_X7_follows l _ _) dX7_knows_39 mi_X7_follows im_X7_follows sel_X7_follows ml_X7_80 (by decide) rfl rfl (rmOk_D (by decide) (by decide)) (Nat.le_of_ble_eq_true rfl) rfl ?_
  refine VS.iload dX7_knows_42 rfl ?_
  refine VS.iconst (3) dX7_knows_44 rfl ?_
  refine VS.irem dX7_knows_45 (by decide) ?_
  refine VS.val (y := rem3 (eI a b)) rfl ?_
  refine VS.iload_n dX7_knows_46 rfl ?_
  refine VS.icmp_ne 64 dX7_knows_47 (by decide) (fun h_47 => ?_) (fun h_47 => ?_)
  · refine VS.aload_n dX7_knows_64 rfl ?_
    refine VS.iload dX7_knows_65 rfl ?_
    refine VS.callT (ct_X7_seen l _ _) dX7_knows_67 mi_X7_seen im_X7_seen sel_X7_seen ml_X7_133 (by decide) rfl rfl (rmOk_D (by decide) (by decide)) (Nat.le_of_ble_eq_true rfl) rfl ?_
    refine VS.val (y := rSeen (M 1) (eI a b)) rfl ?_
    exact VS.iret dX7_knows_70 (by unfold rKnows; first | exact congrArg (fun z => some (Value.int z)) (if_pos h_47) | exact congrArg (fun z => some (Value.int z)) (if_neg h_47)) (fun _ _ => rfl)
  · refine VS.aload_n dX7_knows_50 rfl ?_
    refine VS.sgetR 6 dX7_knows_51 uw_X7 rfl (by decide) 0 rfl rfl (by decide) fl_X7_7 rfl ?_
    refine VS.iconst (0) dX7_knows_54 rfl ?_
    refine VS.siald (0) dX7_knows_55 (by decide) rfl (rfl) (by decide) (by decide) ?_
    refine VS.iload dX7_knows_56 rfl ?_
    refine VS.ishr dX7_knows_58 ?_
    refine VS.iconst (1) dX7_knows_59 rfl ?_
    refine VS.iand dX7_knows_60 ?_
    refine VS.val (y := sb (M 1 0) (eI a b)) rfl ?_
    refine VS.goto 70 dX7_knows_61 (by decide) ?_
    exact VS.iret dX7_knows_70 (by unfold rKnows; first | exact congrArg (fun z => some (Value.int z)) (if_pos h_47) | exact congrArg (fun z => some (Value.int z)) (if_neg h_47)) (fun _ _ => rfl)
set_option maxRecDepth 100000 in
set_option maxHeartbeats 4000000 in
theorem ct_X7_knows_no (l : Launch) (M : SS) (q : Int32) (a : Int32) (b : Int32) (hw : ¬ ((0 ≤ q ∧ q < 3) ∧ wrE a b = 0)) : CtS l yX7_knows cX7_knows 6 (some FieldType.int) (rmD 3) [.ref 0, .int q, .int a, .int b] 7 shM M (some (.int (if 0 ≤ q ∧ q < 3 then wrE a b else -1))) (M) := by
  refine CtF.of (own := RX7) [some (.ref 0), some (.int q), some (.int a), some (.int b), none, none] (by decide +kernel) rfl (fun _ => Nat.le_of_ble_eq_true rfl) (fun _ => rfl) ?_
  refine VS.iload_n dX7_knows_0 rfl ?_
  refine VS.callN (ct_X7_isPlayer l _) dX7_knows_1 mi_X7_isPlayer st_X7_isPlayer ml_X7_104 (rmOk_D (by decide) (by decide)) (Nat.le_of_ble_eq_true rfl) rfl ?_
  refine VS.if_ne 9 dX7_knows_4 (by decide) (fun h_4 => ?_) (fun h_4 => ?_)
  · refine VS.iload_n dX7_knows_9 rfl ?_
    refine VS.iload_n dX7_knows_10 rfl ?_
    refine VS.callN (ct_X7_barPair l _ _) dX7_knows_11 mi_X7_barPair st_X7_barPair ml_X7_130 (rmOk_D (by decide) (by decide)) (Nat.le_of_ble_eq_true rfl) rfl ?_
    refine VS.istore dX7_knows_14 (by decide) rfl ?_
    refine VS.iload dX7_knows_16 rfl ?_
    refine VS.if_ge 24 dX7_knows_18 (by decide) (fun hh => absurd hh (wr_lt (fun z => hw ⟨ite11 h_4, z⟩))) (fun _ => ?_)
    refine VS.iload dX7_knows_21 rfl ?_
    exact VS.iret dX7_knows_23 (by rw [if_pos (ite11 h_4)]) (fun _ _ => rfl)
  · refine VS.iconst (-1) dX7_knows_7 rfl ?_
    exact VS.iret dX7_knows_8 (by rw [if_neg (ite10.mp h_4)]) (fun _ _ => rfl)
theorem pl_y {p : Nat} (h : p < 3) : ¬ (if 0 ≤ nI p ∧ nI p < 3 then (1 : Int32) else 0) = 0 := by
  revert p; decide +kernel
theorem pc_y {p : Nat} (h : p < 8) : ¬ (if 0 ≤ nI p ∧ nI p < 8 then (1 : Int32) else 0) = 0 := by
  revert p; decide +kernel
theorem pc_v {p : Nat} (h : p < 8) : 0 ≤ nI p ∧ nI p < 8 := ite11 (pc_y h)
theorem pl_v {p : Nat} (h : p < 3) : 0 ≤ nI p ∧ nI p < 3 := ite11 (pl_y h)
set_option maxRecDepth 100000 in
set_option maxHeartbeats 4000000 in
theorem ct_X7_player (l : Launch) (M : SS) (what : Int32) {p : Nat} (hp : p < 3) : CtS l yX7_player cX7_player 3 (some FieldType.int) (rmD 3) [.ref 0, .int (nI p), .int what] 7 shM M (some (.int (rPlayer (M 1) p what))) (rFol M (M 1 17)) := by
  refine CtF.of (own := RX7) [some (.ref 0), some (.int (nI p)), some (.int what)] (by decide +kernel) rfl (fun _ => Nat.le_of_ble_eq_true rfl) (fun _ => rfl) ?_
  refine VS.iload_n dX7_player_0 rfl ?_
  refine VS.callN (ct_X7_isPlayer l _) dX7_player_1 mi_X7_isPlayer st_X7_isPlayer ml_X7_104 (rmOk_D (by decide) (by decide)) (Nat.le_of_ble_eq_true rfl) rfl ?_
  refine VS.if_ne 9 dX7_player_4 (by decide) (fun _ => ?_) (fun hh => absurd hh (pl_y hp))
  refine VS.aload_n dX7_player_9 rfl ?_
  refine VS.aload_n dX7_player_10 rfl ?_
  refine VS.sgetR 6 dX7_player_11 uw_X7 rfl (by decide) 0 rfl rfl (by decide) fl_X7_7 rfl ?_
  refine VS.bipush (17) dX7_player_14 rfl ?_
  refine VS.siald (17) dX7_player_16 (by decide) rfl (rfl) (by decide) (by decide) ?_
  refine VS.val (y := M 1 17) rfl ?_
  refine VS.callT (ct_X7_follows l _ _) dX7_player_17 mi_X7_follows im_X7_follows sel_X7_follows ml_X7_80 (by decide) rfl rfl (rmOk_D (by decide) (by decide)) (Nat.le_of_ble_eq_true rfl) rfl ?_
  refine VS.iload_n dX7_player_20 rfl ?_
  rcases sw_0_7 what with rfl | rfl | rfl | rfl | rfl | rfl | rfl | rfl | ho
  · refine VS.tableIn 68 dX7_player_21 (by decide) (by decide) rfl (by decide) ?_
    refine VS.aload_n dX7_player_68 rfl ?_
    refine VS.sgetR 6 dX7_player_69 uw_X7 rfl (by decide) 0 rfl rfl (by decide) fl_X7_7 rfl ?_
    refine VS.bipush (8) dX7_player_72 rfl ?_
    refine VS.iload_n dX7_player_74 rfl ?_
    refine VS.iadd dX7_player_75 ?_
    refine VS.siald (8 + p) dX7_player_76 (by decide) rfl (ix_add) (by omega) (by decide) ?_
    exact VS.iret dX7_player_77 (rfl) (fun _ _ => rfl)
  · refine VS.tableIn 78 dX7_player_21 (by decide) (by decide) rfl (by decide) ?_
    refine VS.aload_n dX7_player_78 rfl ?_
    refine VS.iload_n dX7_player_79 rfl ?_
    refine VS.callT (ct_X7_claims l _ hp) dX7_player_80 mi_X7_claims im_X7_claims sel_X7_claims ml_X7_94 (by decide) rfl rfl (rmOk_D (by decide) (by decide)) (Nat.le_of_ble_eq_true rfl) rfl ?_
    exact VS.iret dX7_player_83 (rfl) (fun _ _ => rfl)
  · refine VS.tableIn 84 dX7_player_21 (by decide) (by decide) rfl (by decide) ?_
    refine VS.aload_n dX7_player_84 rfl ?_
    refine VS.iload_n dX7_player_85 rfl ?_
    refine VS.callT (ct_X7_shown l _ hp) dX7_player_86 mi_X7_shown im_X7_shown sel_X7_shown ml_X7_139 (by decide) rfl rfl (rmOk_D (by decide) (by decide)) (Nat.le_of_ble_eq_true rfl) rfl ?_
    refine VS.val (y := rShown (M 1) p) rfl ?_
    exact VS.iret dX7_player_89 (rfl) (fun _ _ => rfl)
  · refine VS.tableIn 90 dX7_player_21 (by decide) (by decide) rfl (by decide) ?_
    refine VS.aload_n dX7_player_90 rfl ?_
    refine VS.sgetR 6 dX7_player_91 uw_X7 rfl (by decide) 0 rfl rfl (by decide) fl_X7_7 rfl ?_
    refine VS.bipush (18) dX7_player_94 rfl ?_
    refine VS.iload_n dX7_player_96 rfl ?_
    refine VS.iadd dX7_player_97 ?_
    refine VS.siald (18 + p) dX7_player_98 (by decide) rfl (ix_add) (by omega) (by decide) ?_
    exact VS.iret dX7_player_99 (rfl) (fun _ _ => rfl)
  · refine VS.tableIn 100 dX7_player_21 (by decide) (by decide) rfl (by decide) ?_
    refine VS.aload_n dX7_player_100 rfl ?_
    refine VS.sgetR 6 dX7_player_101 uw_X7 rfl (by decide) 0 rfl rfl (by decide) fl_X7_7 rfl ?_
    refine VS.bipush (21) dX7_player_104 rfl ?_
    refine VS.iload_n dX7_player_106 rfl ?_
    refine VS.iadd dX7_player_107 ?_
    refine VS.siald (21 + p) dX7_player_108 (by decide) rfl (ix_add) (by omega) (by decide) ?_
    exact VS.iret dX7_player_109 (rfl) (fun _ _ => rfl)
  · refine VS.tableIn 110 dX7_player_21 (by decide) (by decide) rfl (by decide) ?_
    refine VS.aload_n dX7_player_110 rfl ?_
    refine VS.sgetR 6 dX7_player_111 uw_X7 rfl (by decide) 0 rfl rfl (by decide) fl_X7_7 rfl ?_
    refine VS.bipush (24) dX7_player_114 rfl ?_
    refine VS.iload_n dX7_player_116 rfl ?_
    refine VS.iadd dX7_player_117 ?_
    refine VS.siald (24 + p) dX7_player_118 (by decide) rfl (ix_add) (by omega) (by decide) ?_
    exact VS.iret dX7_player_119 (rfl) (fun _ _ => rfl)
  · refine VS.tableIn 120 dX7_player_21 (by decide) (by decide) rfl (by decide) ?_
    refine VS.aload_n dX7_player_120 rfl ?_
    refine VS.sgetR 6 dX7_player_121 uw_X7 rfl (by decide) 0 rfl rfl (by decide) fl_X7_7 rfl ?_
    refine VS.bipush (27) dX7_player_124 rfl ?_
    refine VS.iload_n dX7_player_126 rfl ?_
    refine VS.iadd dX7_player_127 ?_
    refine VS.siald (27 + p) dX7_player_128 (by decide) rfl (ix_add) (by omega) (by decide) ?_
    exact VS.iret dX7_player_129 (rfl) (fun _ _ => rfl)
  · refine VS.tableIn 130 dX7_player_21 (by decide) (by decide) rfl (by decide) ?_
    refine VS.iload_n dX7_player_130 rfl ?_
    refine VS.callN (ct_X7_third l hp) dX7_player_131 mi_X7_third st_X7_third ml_X7_142 (rmOk_D (by decide) (by decide)) (Nat.le_of_ble_eq_true rfl) rfl ?_
    refine VS.aload_n dX7_player_134 rfl ?_
    refine VS.sgetI 6 dX7_player_135 uw_X7 rfl (by decide) 7 rfl rfl (by decide) fl_X7_45 rfl ?_
    refine VS.val (y := rK (M 1)) rfl ?_
    refine VS.ior dX7_player_138 ?_
    refine VS.callN (ct_X7_many l _) dX7_player_139 mi_X7_many st_X7_many ml_X7_55 (rmOk_D (by decide) (by decide)) (Nat.le_of_ble_eq_true rfl) rfl ?_
    exact VS.iret dX7_player_142 (rfl) (fun _ _ => rfl)
  · refine VS.tableOut 143 dX7_player_21 (ho) (by decide) ?_
    refine VS.bipush (-2) dX7_player_143 rfl ?_
    exact VS.iret dX7_player_145 (by unfold rPlayer; rw [pick_out (k := 7) ho rfl]) (fun _ _ => rfl)
set_option maxRecDepth 100000 in
set_option maxHeartbeats 4000000 in
theorem ct_X7_player_no (l : Launch) (M : SS) (q : Int32) (what : Int32) (hq : ¬ (0 ≤ q ∧ q < 3)) : CtS l yX7_player cX7_player 3 (some FieldType.int) (rmD 3) [.ref 0, .int q, .int what] 7 shM M (some (.int (-1))) (M) := by
  refine CtF.of (own := RX7) [some (.ref 0), some (.int q), some (.int what)] (by decide +kernel) rfl (fun _ => Nat.le_of_ble_eq_true rfl) (fun _ => rfl) ?_
  refine VS.iload_n dX7_player_0 rfl ?_
  refine VS.callN (ct_X7_isPlayer l _) dX7_player_1 mi_X7_isPlayer st_X7_isPlayer ml_X7_104 (rmOk_D (by decide) (by decide)) (Nat.le_of_ble_eq_true rfl) rfl ?_
  refine VS.if_ne 9 dX7_player_4 (by decide) (fun hh => absurd (if_neg hq) hh) (fun _ => ?_)
  refine VS.iconst (-1) dX7_player_7 rfl ?_
  exact VS.iret dX7_player_8 (rfl) (fun _ _ => rfl)
def dugB (s : Nat → Int32) (d p : Nat) : Prop := ∃ k, k < d ∧ s (32 + k) = nI p
set_option maxRecDepth 100000 in
set_option maxHeartbeats 4000000 in
theorem ct_X7_told_y (l : Launch) (M : SS)  {p d tr : Nat} (hp : p < 8) (hd : M 1 31 = nI d) (hd2 : d ≤ 150) (htr : M 1 1 = nI tr) (htr2 : tr < 8) (hdug : dugB (M 1) d p) : CtS l yX7_told cX7_told 3 (some FieldType.int) (rmD 2) [.ref 0, .int (nI p)] 7 shM M (some (.int (md (M 1 0) p (M 6) tr))) (upC M 6 (md (M 1 0) p (M 6))) := by
  refine CtF.of (own := RX7) [some (.ref 0), some (.int (nI p)), none] (by decide +kernel) rfl (fun _ => Nat.le_of_ble_eq_true rfl) (fun _ => rfl) ?_
  refine VS.iconst (0) dX7_told_0 rfl ?_
  refine VS.istore_n dX7_told_1 (by decide) rfl ?_
  refine VS.forSH (fun i => ∀ k, k < i → ¬ M 1 (32 + k) = nI p) (i0 := 0) (d) (fun _ => M) (fun i => [some (.ref 0), some (.int (nI p)), some (.int (nI i))]) (Nat.zero_le _) (fun k hk => absurd hk (Nat.not_lt_zero k)) (fun hy => ?_) (fun i hi hy ih => ?_)
  · exact absurd hdug (fun q => by obtain ⟨k, hk, e⟩ := q; exact hy k hk e)
  · refine VS.iload_n dX7_told_2 rfl ?_
    refine VS.aload_n dX7_told_3 rfl ?_
    refine VS.sgetR 6 dX7_told_4 uw_X7 rfl (by decide) 0 rfl rfl (by decide) fl_X7_7 rfl ?_
    refine VS.bipush (31) dX7_told_7 rfl ?_
    refine VS.siald (31) dX7_told_9 (by decide) rfl (rfl) (by decide) (by decide) ?_
    refine VS.val (y := nI d) hd ?_
    refine VS.icmp_ge 55 dX7_told_10 (by decide) (fun hh => absurd hh (nI_ge hi (by omega))) (fun _ => ?_)
    refine VS.aload_n dX7_told_13 rfl ?_
    refine VS.sgetR 6 dX7_told_14 uw_X7 rfl (by decide) 0 rfl rfl (by decide) fl_X7_7 rfl ?_
    refine VS.bipush (32) dX7_told_17 rfl ?_
    refine VS.iload_n dX7_told_19 rfl ?_
    refine VS.iadd dX7_told_20 ?_
    refine VS.siald (32 + i) dX7_told_21 (by decide) rfl (ix_add) (by omega) (by decide) ?_
    refine VS.iload_n dX7_told_22 rfl ?_
    refine VS.icmp_ne 49 dX7_told_23 (by decide) (fun h_23 => ?_) (fun h_23 => ?_)
    · refine VS.iinc (nI (i + 1)) dX7_told_49 rfl (by decide) ((nI_succ i).symm) rfl ?_
      refine VS.goto 2 dX7_told_52 (by decide) ?_
      exact ih (fun k hk => by
            rcases Nat.lt_or_ge k i with q | q
            · exact hy k q
            · rw [show k = i by omega]; exact h_23)
    · refine VS.aload_n dX7_told_26 rfl ?_
      refine VS.iload_n dX7_told_27 rfl ?_
      refine VS.aload_n dX7_told_28 rfl ?_
      refine VS.sgetR 6 dX7_told_29 uw_X7 rfl (by decide) 0 rfl rfl (by decide) fl_X7_7 rfl ?_
      refine VS.iconst (0) dX7_told_32 rfl ?_
      refine VS.siald (0) dX7_told_33 (by decide) rfl (rfl) (by decide) (by decide) ?_
      refine VS.val (y := M 1 0) rfl ?_
      refine VS.callT (ct_X7_measures l _ _ hp) dX7_told_34 mi_X7_measures im_X7_measures sel_X7_measures ml_X7_121 (by decide) rfl rfl (rmOk_D (by decide) (by decide)) (Nat.le_of_ble_eq_true rfl) rfl ?_
      refine VS.aload_n dX7_told_37 rfl ?_
      refine VS.sgetR 6 dX7_told_38 uw_X7 rfl (by decide) 9 rfl rfl (by decide) fl_X7_26 rfl ?_
      refine VS.aload_n dX7_told_41 rfl ?_
      refine VS.sgetR 6 dX7_told_42 uw_X7 rfl (by decide) 0 rfl rfl (by decide) fl_X7_7 rfl ?_
      refine VS.iconst (1) dX7_told_45 rfl ?_
      refine VS.siald (1) dX7_told_46 (by decide) rfl (rfl) (by decide) (by decide) ?_
      refine VS.siald (tr) dX7_told_47 (by decide) rfl (htr) (htr2) (by decide) ?_
      refine VS.val (y := md (M 1 0) p (M 6) tr) rfl ?_
      exact VS.iret dX7_told_48 (rfl) (fun _ _ => rfl)
set_option maxRecDepth 100000 in
set_option maxHeartbeats 4000000 in
theorem ct_X7_told_n (l : Launch) (M : SS)  {p d tr : Nat} (hp : p < 8) (hd : M 1 31 = nI d) (hd2 : d ≤ 150) (htr : M 1 1 = nI tr) (htr2 : tr < 8) (hdug : ¬ dugB (M 1) d p) : CtS l yX7_told cX7_told 3 (some FieldType.int) (rmD 2) [.ref 0, .int (nI p)] 7 shM M (some (.int (-6))) (M) := by
  refine CtF.of (own := RX7) [some (.ref 0), some (.int (nI p)), none] (by decide +kernel) rfl (fun _ => Nat.le_of_ble_eq_true rfl) (fun _ => rfl) ?_
  refine VS.iconst (0) dX7_told_0 rfl ?_
  refine VS.istore_n dX7_told_1 (by decide) rfl ?_
  refine VS.forS (i0 := 0) (d) (fun _ => M) (fun i => [some (.ref 0), some (.int (nI p)), some (.int (nI i))]) (Nat.zero_le _) ?_ (fun i hi ih => ?_)
  · refine VS.iload_n dX7_told_2 rfl ?_
    refine VS.aload_n dX7_told_3 rfl ?_
    refine VS.sgetR 6 dX7_told_4 uw_X7 rfl (by decide) 0 rfl rfl (by decide) fl_X7_7 rfl ?_
    refine VS.bipush (31) dX7_told_7 rfl ?_
    refine VS.siald (31) dX7_told_9 (by decide) rfl (rfl) (by decide) (by decide) ?_
    refine VS.val (y := nI d) hd ?_
    refine VS.icmp_ge 55 dX7_told_10 (by decide) (fun _ => ?_) (fun hh => absurd (nI_le (Nat.le_refl _) (by omega)) hh)
    refine VS.bipush (-6) dX7_told_55 rfl ?_
    exact VS.iret dX7_told_57 (rfl) (fun _ _ => rfl)
  · refine VS.iload_n dX7_told_2 rfl ?_
    refine VS.aload_n dX7_told_3 rfl ?_
    refine VS.sgetR 6 dX7_told_4 uw_X7 rfl (by decide) 0 rfl rfl (by decide) fl_X7_7 rfl ?_
    refine VS.bipush (31) dX7_told_7 rfl ?_
    refine VS.siald (31) dX7_told_9 (by decide) rfl (rfl) (by decide) (by decide) ?_
    refine VS.val (y := nI d) hd ?_
    refine VS.icmp_ge 55 dX7_told_10 (by decide) (fun hh => absurd hh (nI_ge hi (by omega))) (fun _ => ?_)
    refine VS.aload_n dX7_told_13 rfl ?_
    refine VS.sgetR 6 dX7_told_14 uw_X7 rfl (by decide) 0 rfl rfl (by decide) fl_X7_7 rfl ?_
    refine VS.bipush (32) dX7_told_17 rfl ?_
    refine VS.iload_n dX7_told_19 rfl ?_
    refine VS.iadd dX7_told_20 ?_
    refine VS.siald (32 + i) dX7_told_21 (by decide) rfl (ix_add) (by omega) (by decide) ?_
    refine VS.iload_n dX7_told_22 rfl ?_
    refine VS.icmp_ne 49 dX7_told_23 (by decide) (fun _ => ?_) (fun hh => absurd hh (fun q => hdug ⟨i, hi, q⟩))
    refine VS.iinc (nI (i + 1)) dX7_told_49 rfl (by decide) ((nI_succ i).symm) rfl ?_
    refine VS.goto 2 dX7_told_52 (by decide) ?_
    exact ih
def rPlace (s : Nat → Int32) (p : Nat) (tld what : Int32) : Int32 := pick [if 0 < s 6 then pcI (k_at p &&& s 0) else -6, pcI (k_at p &&& rTh s), pcI (k_at p &&& (rK s ^^^ -1)), tld, ngJ (rTh s) p 8] what (-2)
set_option maxRecDepth 100000 in
set_option maxHeartbeats 4000000 in
theorem ct_X7_place (l : Launch) (M : SS) (what : Int32) {p : Nat} {tld : Int32} (hp : p < 8) (h3w : ¬ what = 3) : CtS l yX7_place cX7_place 3 (some FieldType.int) (rmD 3) [.ref 0, .int (nI p), .int what] 7 shM M (some (.int (rPlace (M 1) p tld what))) (rFol M (M 1 17)) := by
  refine CtF.of (own := RX7) [some (.ref 0), some (.int (nI p)), some (.int what)] (by decide +kernel) rfl (fun _ => Nat.le_of_ble_eq_true rfl) (fun _ => rfl) ?_
  refine VS.iload_n dX7_place_0 rfl ?_
  refine VS.callN (ct_X7_isPlace l _) dX7_place_1 mi_X7_isPlace st_X7_isPlace ml_X7_67 (rmOk_D (by decide) (by decide)) (Nat.le_of_ble_eq_true rfl) rfl ?_
  refine VS.if_ne 9 dX7_place_4 (by decide) (fun _ => ?_) (fun hh => absurd hh (pc_y hp))
  refine VS.aload_n dX7_place_9 rfl ?_
  refine VS.aload_n dX7_place_10 rfl ?_
  refine VS.sgetR 6 dX7_place_11 uw_X7 rfl (by decide) 0 rfl rfl (by decide) fl_X7_7 rfl ?_
  refine VS.bipush (17) dX7_place_14 rfl ?_
  refine VS.siald (17) dX7_place_16 (by decide) rfl (rfl) (by decide) (by decide) ?_
  refine VS.val (y := M 1 17) rfl ?_
  refine VS.callT (ct_X7_follows l _ _) dX7_place_17 mi_X7_follows im_X7_follows sel_X7_follows ml_X7_80 (by decide) rfl rfl (rmOk_D (by decide) (by decide)) (Nat.le_of_ble_eq_true rfl) rfl ?_
  refine VS.iload_n dX7_place_20 rfl ?_
  rcases sw_0_4 what with rfl | rfl | rfl | rfl | rfl | ho
  · refine VS.tableIn 56 dX7_place_21 (by decide) (by decide) rfl (by decide) ?_
    refine VS.aload_n dX7_place_56 rfl ?_
    refine VS.callT (ct_X7_hasBegun l _) dX7_place_57 mi_X7_hasBegun im_X7_hasBegun sel_X7_hasBegun ml_X7_41 (by decide) rfl rfl (rmOk_D (by decide) (by decide)) (Nat.le_of_ble_eq_true rfl) rfl ?_
    refine VS.if_eq 80 dX7_place_60 (by decide) (fun h_60 => ?_) (fun h_60 => ?_)
    · refine VS.bipush (-6) dX7_place_80 rfl ?_
      exact VS.iret dX7_place_82 (by first | exact congrArg (fun z => some (Value.int z)) (show (if 0 < M 1 6 then pcI (k_at p &&& M 1 0) else (-6 : Int32)) = _ from if_pos (ite11 h_60)) | exact congrArg (fun z => some (Value.int z)) (show (if 0 < M 1 6 then pcI (k_at p &&& M 1 0) else (-6 : Int32)) = _ from if_neg (ite10.mp h_60))) (fun _ _ => rfl)
    · refine VS.iload_n dX7_place_63 rfl ?_
      refine VS.callN (ct_X7_around l hp) dX7_place_64 mi_X7_around st_X7_around ml_X7_51 (rmOk_D (by decide) (by decide)) (Nat.le_of_ble_eq_true rfl) rfl ?_
      refine VS.aload_n dX7_place_67 rfl ?_
      refine VS.sgetR 6 dX7_place_68 uw_X7 rfl (by decide) 0 rfl rfl (by decide) fl_X7_7 rfl ?_
      refine VS.iconst (0) dX7_place_71 rfl ?_
      refine VS.siald (0) dX7_place_72 (by decide) rfl (rfl) (by decide) (by decide) ?_
      refine VS.val (y := M 1 0) rfl ?_
      refine VS.iand dX7_place_73 ?_
      refine VS.callN (ct_X7_many l _) dX7_place_74 mi_X7_many st_X7_many ml_X7_55 (rmOk_D (by decide) (by decide)) (Nat.le_of_ble_eq_true rfl) rfl ?_
      refine VS.goto 82 dX7_place_77 (by decide) ?_
      exact VS.iret dX7_place_82 (by first | exact congrArg (fun z => some (Value.int z)) (show (if 0 < M 1 6 then pcI (k_at p &&& M 1 0) else (-6 : Int32)) = _ from if_pos (ite11 h_60)) | exact congrArg (fun z => some (Value.int z)) (show (if 0 < M 1 6 then pcI (k_at p &&& M 1 0) else (-6 : Int32)) = _ from if_neg (ite10.mp h_60))) (fun _ _ => rfl)
  · refine VS.tableIn 83 dX7_place_21 (by decide) (by decide) rfl (by decide) ?_
    refine VS.iload_n dX7_place_83 rfl ?_
    refine VS.callN (ct_X7_around l hp) dX7_place_84 mi_X7_around st_X7_around ml_X7_51 (rmOk_D (by decide) (by decide)) (Nat.le_of_ble_eq_true rfl) rfl ?_
    refine VS.aload_n dX7_place_87 rfl ?_
    refine VS.sgetI 6 dX7_place_88 uw_X7 rfl (by decide) 8 rfl rfl (by decide) fl_X7_48 rfl ?_
    refine VS.val (y := rTh (M 1)) rfl ?_
    refine VS.iand dX7_place_91 ?_
    refine VS.callN (ct_X7_many l _) dX7_place_92 mi_X7_many st_X7_many ml_X7_55 (rmOk_D (by decide) (by decide)) (Nat.le_of_ble_eq_true rfl) rfl ?_
    exact VS.iret dX7_place_95 (rfl) (fun _ _ => rfl)
  · refine VS.tableIn 96 dX7_place_21 (by decide) (by decide) rfl (by decide) ?_
    refine VS.iload_n dX7_place_96 rfl ?_
    refine VS.callN (ct_X7_around l hp) dX7_place_97 mi_X7_around st_X7_around ml_X7_51 (rmOk_D (by decide) (by decide)) (Nat.le_of_ble_eq_true rfl) rfl ?_
    refine VS.aload_n dX7_place_100 rfl ?_
    refine VS.sgetI 6 dX7_place_101 uw_X7 rfl (by decide) 7 rfl rfl (by decide) fl_X7_45 rfl ?_
    refine VS.val (y := rK (M 1)) rfl ?_
    refine VS.iconst (-1) dX7_place_104 rfl ?_
    refine VS.ixor dX7_place_105 ?_
    refine VS.iand dX7_place_106 ?_
    refine VS.callN (ct_X7_many l _) dX7_place_107 mi_X7_many st_X7_many ml_X7_55 (rmOk_D (by decide) (by decide)) (Nat.le_of_ble_eq_true rfl) rfl ?_
    exact VS.iret dX7_place_110 (rfl) (fun _ _ => rfl)
  · refine VS.tableIn 111 dX7_place_21 (by decide) (by decide) rfl (by decide) ?_
    refine VS.aload_n dX7_place_111 rfl ?_
    refine VS.iload_n dX7_place_112 rfl ?_
    exact absurd rfl h3w
  · refine VS.tableIn 117 dX7_place_21 (by decide) (by decide) rfl (by decide) ?_
    refine VS.aload_n dX7_place_117 rfl ?_
    refine VS.iload_n dX7_place_118 rfl ?_
    refine VS.callT (ct_X7_neighbours l _ hp) dX7_place_119 mi_X7_neighbours im_X7_neighbours sel_X7_neighbours ml_X7_148 (by decide) rfl rfl (rmOk_D (by decide) (by decide)) (Nat.le_of_ble_eq_true rfl) rfl ?_
    refine VS.val (y := ngJ (rTh (M 1)) p 8) rfl ?_
    exact VS.iret dX7_place_122 (rfl) (fun _ _ => rfl)
  · refine VS.tableOut 123 dX7_place_21 (ho) (by decide) ?_
    refine VS.bipush (-2) dX7_place_123 rfl ?_
    exact VS.iret dX7_place_125 (by unfold rPlace; rw [pick_out (k := 4) ho rfl]) (fun _ _ => rfl)
set_option maxRecDepth 100000 in
set_option maxHeartbeats 4000000 in
theorem ct_X7_place_3y (l : Launch) (M : SS) {p d tr : Nat} (hp : p < 8) (hd : M 1 31 = nI d) (hd2 : d ≤ 150) (htr : M 1 1 = nI tr) (htr2 : tr < 8) (hdug : dugB (M 1) d p) : CtS l yX7_place cX7_place 3 (some FieldType.int) (rmD 3) [.ref 0, .int (nI p), .int 3] 7 shM M (some (.int (md (M 1 0) p (M 6) tr))) (upC (rFol M (M 1 17)) 6 (md (M 1 0) p (M 6))) := by
  refine CtF.of (own := RX7) [some (.ref 0), some (.int (nI p)), some (.int 3)] (by decide +kernel) rfl (fun _ => Nat.le_of_ble_eq_true rfl) (fun _ => rfl) ?_
  refine VS.iload_n dX7_place_0 rfl ?_
  refine VS.callN (ct_X7_isPlace l _) dX7_place_1 mi_X7_isPlace st_X7_isPlace ml_X7_67 (rmOk_D (by decide) (by decide)) (Nat.le_of_ble_eq_true rfl) rfl ?_
  refine VS.if_ne 9 dX7_place_4 (by decide) (fun _ => ?_) (fun hh => absurd hh (pc_y hp))
  refine VS.aload_n dX7_place_9 rfl ?_
  refine VS.aload_n dX7_place_10 rfl ?_
  refine VS.sgetR 6 dX7_place_11 uw_X7 rfl (by decide) 0 rfl rfl (by decide) fl_X7_7 rfl ?_
  refine VS.bipush (17) dX7_place_14 rfl ?_
  refine VS.siald (17) dX7_place_16 (by decide) rfl (rfl) (by decide) (by decide) ?_
  refine VS.val (y := M 1 17) rfl ?_
  refine VS.callT (ct_X7_follows l _ _) dX7_place_17 mi_X7_follows im_X7_follows sel_X7_follows ml_X7_80 (by decide) rfl rfl (rmOk_D (by decide) (by decide)) (Nat.le_of_ble_eq_true rfl) rfl ?_
  refine VS.iload_n dX7_place_20 rfl ?_
  refine VS.tableIn 111 dX7_place_21 (by decide) (by decide) rfl (by decide) ?_
  refine VS.aload_n dX7_place_111 rfl ?_
  refine VS.iload_n dX7_place_112 rfl ?_
  refine VS.callT (ct_X7_told_y l (rFol M (M 1 17)) hp hd hd2 htr htr2 hdug) dX7_place_113 mi_X7_told im_X7_told sel_X7_told ml_X7_145 (by decide) rfl rfl (rmOk_D (by decide) (by decide)) (Nat.le_of_ble_eq_true rfl) rfl ?_
  exact VS.iret dX7_place_116 (rfl) (fun _ _ => rfl)
set_option maxRecDepth 100000 in
set_option maxHeartbeats 4000000 in
theorem ct_X7_place_3n (l : Launch) (M : SS) {p d tr : Nat} (hp : p < 8) (hd : M 1 31 = nI d) (hd2 : d ≤ 150) (htr : M 1 1 = nI tr) (htr2 : tr < 8) (hdug : ¬ dugB (M 1) d p) : CtS l yX7_place cX7_place 3 (some FieldType.int) (rmD 3) [.ref 0, .int (nI p), .int 3] 7 shM M (some (.int (-6))) (rFol M (M 1 17)) := by
  refine CtF.of (own := RX7) [some (.ref 0), some (.int (nI p)), some (.int 3)] (by decide +kernel) rfl (fun _ => Nat.le_of_ble_eq_true rfl) (fun _ => rfl) ?_
  refine VS.iload_n dX7_place_0 rfl ?_
  refine VS.callN (ct_X7_isPlace l _) dX7_place_1 mi_X7_isPlace st_X7_isPlace ml_X7_67 (rmOk_D (by decide) (by decide)) (Nat.le_of_ble_eq_true rfl) rfl ?_
  refine VS.if_ne 9 dX7_place_4 (by decide) (fun _ => ?_) (fun hh => absurd hh (pc_y hp))
  refine VS.aload_n dX7_place_9 rfl ?_
  refine VS.aload_n dX7_place_10 rfl ?_
  refine VS.sgetR 6 dX7_place_11 uw_X7 rfl (by decide) 0 rfl rfl (by decide) fl_X7_7 rfl ?_
  refine VS.bipush (17) dX7_place_14 rfl ?_
  refine VS.siald (17) dX7_place_16 (by decide) rfl (rfl) (by decide) (by decide) ?_
  refine VS.val (y := M 1 17) rfl ?_
  refine VS.callT (ct_X7_follows l _ _) dX7_place_17 mi_X7_follows im_X7_follows sel_X7_follows ml_X7_80 (by decide) rfl rfl (rmOk_D (by decide) (by decide)) (Nat.le_of_ble_eq_true rfl) rfl ?_
  refine VS.iload_n dX7_place_20 rfl ?_
  refine VS.tableIn 111 dX7_place_21 (by decide) (by decide) rfl (by decide) ?_
  refine VS.aload_n dX7_place_111 rfl ?_
  refine VS.iload_n dX7_place_112 rfl ?_
  refine VS.callT (ct_X7_told_n l (rFol M (M 1 17)) hp hd hd2 htr htr2 hdug) dX7_place_113 mi_X7_told im_X7_told sel_X7_told ml_X7_145 (by decide) rfl rfl (rmOk_D (by decide) (by decide)) (Nat.le_of_ble_eq_true rfl) rfl ?_
  exact VS.iret dX7_place_116 (rfl) (fun _ _ => rfl)
set_option maxRecDepth 100000 in
set_option maxHeartbeats 4000000 in
theorem ct_X7_place_no (l : Launch) (M : SS) (a : Int32) (what : Int32) (ha : ¬ (0 ≤ a ∧ a < 8)) : CtS l yX7_place cX7_place 3 (some FieldType.int) (rmD 3) [.ref 0, .int a, .int what] 7 shM M (some (.int (-1))) (M) := by
  refine CtF.of (own := RX7) [some (.ref 0), some (.int a), some (.int what)] (by decide +kernel) rfl (fun _ => Nat.le_of_ble_eq_true rfl) (fun _ => rfl) ?_
  refine VS.iload_n dX7_place_0 rfl ?_
  refine VS.callN (ct_X7_isPlace l _) dX7_place_1 mi_X7_isPlace st_X7_isPlace ml_X7_67 (rmOk_D (by decide) (by decide)) (Nat.le_of_ble_eq_true rfl) rfl ?_
  refine VS.if_ne 9 dX7_place_4 (by decide) (fun hh => absurd (if_neg ha) hh) (fun _ => ?_)
  refine VS.iconst (-1) dX7_place_7 rfl ?_
  exact VS.iret dX7_place_8 (rfl) (fun _ _ => rfl)
theorem sub1 {d : Nat} : nI (d + 1) - 1 = nI d := nI_pred d
theorem dug_in {r : Int32} {d : Nat} (hd : d ≤ 150) (h : 0 ≤ r ∧ r ≤ nI d - 1) : ∃ k, k < d ∧ r = nI k := by
  cases d with
  | zero => obtain ⟨h1, h2⟩ := h; rw [show nI 0 - 1 = (-1 : Int32) from rfl] at h2; exact absurd (Int32.le_trans h1 h2) (by decide)
  | succ d =>
    rw [nI_pred] at h
    obtain ⟨j, hj, e⟩ := nI_of2 (n := d) (nI_toInt (by omega)) (Int32.not_lt.mpr h.1) h.2
    exact ⟨j, by omega, e⟩
theorem dug_of {k d : Nat} (h : k < d) (hd : d ≤ 150) : 0 ≤ nI k ∧ nI k ≤ nI d - 1 := by
  obtain ⟨e, rfl⟩ : ∃ e, d = e + 1 := ⟨d - 1, by omega⟩
  rw [nI_pred]
  exact ⟨nI_pos' (by omega), nI_le (by omega) (by omega)⟩
set_option maxRecDepth 100000 in
set_option maxHeartbeats 4000000 in
theorem ct_X7_dug (l : Launch) (M : SS)  {k d : Nat} (hk : k < d) (hd : M 1 31 = nI d) (hd2 : d ≤ 150) : CtS l yX7_dug cX7_dug 2 (some FieldType.int) (rmD 1) [.ref 0, .int (nI k)] 7 shM M (some (.int (M 1 (32 + k)))) (M) := by
  refine CtF.of (own := RX7) [some (.ref 0), some (.int (nI k))] (by decide +kernel) rfl (fun _ => Nat.le_of_ble_eq_true rfl) (fun _ => rfl) ?_
  refine VS.iload_n dX7_dug_0 rfl ?_
  refine VS.iconst (0) dX7_dug_1 rfl ?_
  refine VS.aload_n dX7_dug_2 rfl ?_
  refine VS.sgetR 6 dX7_dug_3 uw_X7 rfl (by decide) 0 rfl rfl (by decide) fl_X7_7 rfl ?_
  refine VS.bipush (31) dX7_dug_6 rfl ?_
  refine VS.siald (31) dX7_dug_8 (by decide) rfl (rfl) (by decide) (by decide) ?_
  refine VS.val (y := nI d) hd ?_
  refine VS.iconst (1) dX7_dug_9 rfl ?_
  refine VS.isub dX7_dug_10 ?_
  refine VS.callN (ct_X7_in l _ _ _) dX7_dug_11 mi_X7_in st_X7_in ml_X7_29 (rmOk_D (by decide) (by decide)) (Nat.le_of_ble_eq_true rfl) rfl ?_
  refine VS.if_eq 29 dX7_dug_14 (by decide) (fun hh => absurd hh (by rw [if_pos (dug_of hk hd2)]; decide)) (fun _ => ?_)
  refine VS.aload_n dX7_dug_17 rfl ?_
  refine VS.sgetR 6 dX7_dug_18 uw_X7 rfl (by decide) 0 rfl rfl (by decide) fl_X7_7 rfl ?_
  refine VS.bipush (32) dX7_dug_21 rfl ?_
  refine VS.iload_n dX7_dug_23 rfl ?_
  refine VS.iadd dX7_dug_24 ?_
  refine VS.siald (32 + k) dX7_dug_25 (by decide) rfl (ix_add) (by omega) (by decide) ?_
  refine VS.goto 30 dX7_dug_26 (by decide) ?_
  exact VS.iret dX7_dug_30 (rfl) (fun _ _ => rfl)
set_option maxRecDepth 100000 in
set_option maxHeartbeats 4000000 in
theorem ct_X7_dug_no (l : Launch) (M : SS) (r : Int32) {d : Nat} (hr : ¬ (0 ≤ r ∧ r ≤ nI d - 1)) (hd : M 1 31 = nI d) : CtS l yX7_dug cX7_dug 2 (some FieldType.int) (rmD 1) [.ref 0, .int r] 7 shM M (some (.int (-1))) (M) := by
  refine CtF.of (own := RX7) [some (.ref 0), some (.int r)] (by decide +kernel) rfl (fun _ => Nat.le_of_ble_eq_true rfl) (fun _ => rfl) ?_
  refine VS.iload_n dX7_dug_0 rfl ?_
  refine VS.iconst (0) dX7_dug_1 rfl ?_
  refine VS.aload_n dX7_dug_2 rfl ?_
  refine VS.sgetR 6 dX7_dug_3 uw_X7 rfl (by decide) 0 rfl rfl (by decide) fl_X7_7 rfl ?_
  refine VS.bipush (31) dX7_dug_6 rfl ?_
  refine VS.siald (31) dX7_dug_8 (by decide) rfl (rfl) (by decide) (by decide) ?_
  refine VS.val (y := nI d) hd ?_
  refine VS.iconst (1) dX7_dug_9 rfl ?_
  refine VS.isub dX7_dug_10 ?_
  refine VS.callN (ct_X7_in l _ _ _) dX7_dug_11 mi_X7_in st_X7_in ml_X7_29 (rmOk_D (by decide) (by decide)) (Nat.le_of_ble_eq_true rfl) rfl ?_
  refine VS.if_eq 29 dX7_dug_14 (by decide) (fun _ => ?_) (fun hh => absurd (if_neg hr) hh)
  refine VS.iconst (-1) dX7_dug_29 rfl ?_
  exact VS.iret dX7_dug_30 (rfl) (fun _ _ => rfl)
set_option maxRecDepth 100000 in
set_option maxHeartbeats 4000000 in
theorem ct_X7_count (l : Launch) (M : SS) (what : Int32) : CtS l yX7_count cX7_count 2 (some FieldType.int) (rmD 3) [.ref 0, .int what] 7 shM M (some (.int (rCount (M 1) (M 0 6) (M 0 2) what))) (rFol M (M 1 17)) := by
  refine CtF.of (own := RX7) [some (.ref 0), some (.int what)] (by decide +kernel) rfl (fun _ => Nat.le_of_ble_eq_true rfl) (fun _ => rfl) ?_
  refine VS.aload_n dX7_count_0 rfl ?_
  refine VS.aload_n dX7_count_1 rfl ?_
  refine VS.sgetR 6 dX7_count_2 uw_X7 rfl (by decide) 0 rfl rfl (by decide) fl_X7_7 rfl ?_
  refine VS.bipush (17) dX7_count_5 rfl ?_
  refine VS.siald (17) dX7_count_7 (by decide) rfl (rfl) (by decide) (by decide) ?_
  refine VS.val (y := M 1 17) rfl ?_
  refine VS.callT (ct_X7_follows l _ _) dX7_count_8 mi_X7_follows im_X7_follows sel_X7_follows ml_X7_80 (by decide) rfl rfl (rmOk_D (by decide) (by decide)) (Nat.le_of_ble_eq_true rfl) rfl ?_
  refine VS.iload_n dX7_count_11 rfl ?_
  rcases sw_0_13 what with rfl | rfl | rfl | rfl | rfl | rfl | rfl | rfl | rfl | rfl | rfl | rfl | rfl | rfl | ho
  · refine VS.tableIn 84 dX7_count_12 (by decide) (by decide) rfl (by decide) ?_
    refine VS.aload_n dX7_count_84 rfl ?_
    refine VS.sgetR 6 dX7_count_85 uw_X7 rfl (by decide) 0 rfl rfl (by decide) fl_X7_7 rfl ?_
    refine VS.bipush (7) dX7_count_88 rfl ?_
    refine VS.siald (7) dX7_count_90 (by decide) rfl (rfl) (by decide) (by decide) ?_
    exact VS.iret dX7_count_91 (rfl) (fun _ _ => rfl)
  · refine VS.tableIn 92 dX7_count_12 (by decide) (by decide) rfl (by decide) ?_
    refine VS.aload_n dX7_count_92 rfl ?_
    refine VS.callT (ct_X7_turn l _) dX7_count_93 mi_X7_turn im_X7_turn sel_X7_turn ml_X7_87 (by decide) rfl rfl (rmOk_D (by decide) (by decide)) (Nat.le_of_ble_eq_true rfl) rfl ?_
    exact VS.iret dX7_count_96 (rfl) (fun _ _ => rfl)
  · refine VS.tableIn 97 dX7_count_12 (by decide) (by decide) rfl (by decide) ?_
    refine VS.aload_n dX7_count_97 rfl ?_
    refine VS.sgetR 6 dX7_count_98 uw_X7 rfl (by decide) 0 rfl rfl (by decide) fl_X7_7 rfl ?_
    refine VS.bipush (6) dX7_count_101 rfl ?_
    refine VS.siald (6) dX7_count_103 (by decide) rfl (rfl) (by decide) (by decide) ?_
    exact VS.iret dX7_count_104 (rfl) (fun _ _ => rfl)
  · refine VS.tableIn 105 dX7_count_12 (by decide) (by decide) rfl (by decide) ?_
    refine VS.aload_n dX7_count_105 rfl ?_
    refine VS.sgetR 6 dX7_count_106 uw_X7 rfl (by decide) 0 rfl rfl (by decide) fl_X7_7 rfl ?_
    refine VS.bipush (30) dX7_count_109 rfl ?_
    refine VS.siald (30) dX7_count_111 (by decide) rfl (rfl) (by decide) (by decide) ?_
    exact VS.iret dX7_count_112 (rfl) (fun _ _ => rfl)
  · refine VS.tableIn 113 dX7_count_12 (by decide) (by decide) rfl (by decide) ?_
    refine VS.aload_n dX7_count_113 rfl ?_
    refine VS.sgetI 6 dX7_count_114 uw_X7 rfl (by decide) 7 rfl rfl (by decide) fl_X7_45 rfl ?_
    refine VS.val (y := rK (M 1)) rfl ?_
    refine VS.callN (ct_X7_many l _) dX7_count_117 mi_X7_many st_X7_many ml_X7_55 (rmOk_D (by decide) (by decide)) (Nat.le_of_ble_eq_true rfl) rfl ?_
    exact VS.iret dX7_count_120 (rfl) (fun _ _ => rfl)
  · refine VS.tableIn 121 dX7_count_12 (by decide) (by decide) rfl (by decide) ?_
    refine VS.aload_n dX7_count_121 rfl ?_
    refine VS.sgetI 6 dX7_count_122 uw_X7 rfl (by decide) 8 rfl rfl (by decide) fl_X7_48 rfl ?_
    refine VS.val (y := rTh (M 1)) rfl ?_
    refine VS.callN (ct_X7_many l _) dX7_count_125 mi_X7_many st_X7_many ml_X7_55 (rmOk_D (by decide) (by decide)) (Nat.le_of_ble_eq_true rfl) rfl ?_
    exact VS.iret dX7_count_128 (rfl) (fun _ _ => rfl)
  · refine VS.tableIn 129 dX7_count_12 (by decide) (by decide) rfl (by decide) ?_
    refine VS.aload_n dX7_count_129 rfl ?_
    refine VS.iconst (0) dX7_count_130 rfl ?_
    refine VS.callT (ct_X7_shown l _ (p := 0) (by decide)) dX7_count_131 mi_X7_shown im_X7_shown sel_X7_shown ml_X7_139 (by decide) rfl rfl (rmOk_D (by decide) (by decide)) (Nat.le_of_ble_eq_true rfl) rfl ?_
    refine VS.val (y := rShown (M 1) 0) rfl ?_
    refine VS.aload_n dX7_count_134 rfl ?_
    refine VS.iconst (1) dX7_count_135 rfl ?_
    refine VS.callT (ct_X7_shown l _ (p := 1) (by decide)) dX7_count_136 mi_X7_shown im_X7_shown sel_X7_shown ml_X7_139 (by decide) rfl rfl (rmOk_D (by decide) (by decide)) (Nat.le_of_ble_eq_true rfl) rfl ?_
    refine VS.val (y := rShown (M 1) 1) rfl ?_
    refine VS.iadd dX7_count_139 ?_
    refine VS.aload_n dX7_count_140 rfl ?_
    refine VS.iconst (2) dX7_count_141 rfl ?_
    refine VS.callT (ct_X7_shown l _ (p := 2) (by decide)) dX7_count_142 mi_X7_shown im_X7_shown sel_X7_shown ml_X7_139 (by decide) rfl rfl (rmOk_D (by decide) (by decide)) (Nat.le_of_ble_eq_true rfl) rfl ?_
    refine VS.val (y := rShown (M 1) 2) rfl ?_
    refine VS.iadd dX7_count_145 ?_
    exact VS.iret dX7_count_146 (rfl) (fun _ _ => rfl)
  · refine VS.tableIn 147 dX7_count_12 (by decide) (by decide) rfl (by decide) ?_
    refine VS.aload_n dX7_count_147 rfl ?_
    refine VS.sgetR 6 dX7_count_148 uw_X7 rfl (by decide) 0 rfl rfl (by decide) fl_X7_7 rfl ?_
    refine VS.bipush (17) dX7_count_151 rfl ?_
    refine VS.siald (17) dX7_count_153 (by decide) rfl (rfl) (by decide) (by decide) ?_
    refine VS.callN (ct_X7_many l _) dX7_count_154 mi_X7_many st_X7_many ml_X7_55 (rmOk_D (by decide) (by decide)) (Nat.le_of_ble_eq_true rfl) rfl ?_
    exact VS.iret dX7_count_157 (rfl) (fun _ _ => rfl)
  · refine VS.tableIn 158 dX7_count_12 (by decide) (by decide) rfl (by decide) ?_
    refine VS.aload_n dX7_count_158 rfl ?_
    refine VS.sgetR 6 dX7_count_159 uw_X7 rfl (by decide) 0 rfl rfl (by decide) fl_X7_7 rfl ?_
    refine VS.iconst (2) dX7_count_162 rfl ?_
    refine VS.iload_n dX7_count_163 rfl ?_
    refine VS.iadd dX7_count_164 ?_
    refine VS.bipush (8) dX7_count_165 rfl ?_
    refine VS.isub dX7_count_167 ?_
    refine VS.siald (2) dX7_count_168 (by decide) rfl (by decide) (by decide) (by decide) ?_
    exact VS.iret dX7_count_169 (rfl) (fun _ _ => rfl)
  · refine VS.tableIn 158 dX7_count_12 (by decide) (by decide) rfl (by decide) ?_
    refine VS.aload_n dX7_count_158 rfl ?_
    refine VS.sgetR 6 dX7_count_159 uw_X7 rfl (by decide) 0 rfl rfl (by decide) fl_X7_7 rfl ?_
    refine VS.iconst (2) dX7_count_162 rfl ?_
    refine VS.iload_n dX7_count_163 rfl ?_
    refine VS.iadd dX7_count_164 ?_
    refine VS.bipush (8) dX7_count_165 rfl ?_
    refine VS.isub dX7_count_167 ?_
    refine VS.siald (3) dX7_count_168 (by decide) rfl (by decide) (by decide) (by decide) ?_
    exact VS.iret dX7_count_169 (rfl) (fun _ _ => rfl)
  · refine VS.tableIn 158 dX7_count_12 (by decide) (by decide) rfl (by decide) ?_
    refine VS.aload_n dX7_count_158 rfl ?_
    refine VS.sgetR 6 dX7_count_159 uw_X7 rfl (by decide) 0 rfl rfl (by decide) fl_X7_7 rfl ?_
    refine VS.iconst (2) dX7_count_162 rfl ?_
    refine VS.iload_n dX7_count_163 rfl ?_
    refine VS.iadd dX7_count_164 ?_
    refine VS.bipush (8) dX7_count_165 rfl ?_
    refine VS.isub dX7_count_167 ?_
    refine VS.siald (4) dX7_count_168 (by decide) rfl (by decide) (by decide) (by decide) ?_
    exact VS.iret dX7_count_169 (rfl) (fun _ _ => rfl)
  · refine VS.tableIn 158 dX7_count_12 (by decide) (by decide) rfl (by decide) ?_
    refine VS.aload_n dX7_count_158 rfl ?_
    refine VS.sgetR 6 dX7_count_159 uw_X7 rfl (by decide) 0 rfl rfl (by decide) fl_X7_7 rfl ?_
    refine VS.iconst (2) dX7_count_162 rfl ?_
    refine VS.iload_n dX7_count_163 rfl ?_
    refine VS.iadd dX7_count_164 ?_
    refine VS.bipush (8) dX7_count_165 rfl ?_
    refine VS.isub dX7_count_167 ?_
    refine VS.siald (5) dX7_count_168 (by decide) rfl (by decide) (by decide) (by decide) ?_
    exact VS.iret dX7_count_169 (rfl) (fun _ _ => rfl)
  · refine VS.tableIn 170 dX7_count_12 (by decide) (by decide) rfl (by decide) ?_
    refine VS.aload_n dX7_count_170 rfl ?_
    refine VS.sgetI 6 dX7_count_171 uw_X7 rfl (by decide) 6 rfl rfl (by decide) fl_X7_151 rfl ?_
    exact VS.iret dX7_count_174 (rfl) (fun _ _ => rfl)
  · refine VS.tableIn 175 dX7_count_12 (by decide) (by decide) rfl (by decide) ?_
    refine VS.aload_n dX7_count_175 rfl ?_
    refine VS.sgetI 6 dX7_count_176 uw_X7 rfl (by decide) 2 rfl rfl (by decide) fl_X7_33 rfl ?_
    exact VS.iret dX7_count_179 (rfl) (fun _ _ => rfl)
  · refine VS.tableOut 180 dX7_count_12 (ho) (by decide) ?_
    refine VS.bipush (-2) dX7_count_180 rfl ?_
    exact VS.iret dX7_count_182 (by unfold rCount; rw [pick_out (k := 13) ho rfl]) (fun _ _ => rfl)
set_option maxRecDepth 100000 in
set_option maxHeartbeats 4000000 in
theorem ct_X7_wipe (l : Launch) (M : SS)  : CtS l yX7_wipe cX7_wipe 2 (some FieldType.int) (rmD 0) [.ref 0] 7 shM M (some (.int (M 0 6))) (up2 M 0 6 0) := by
  refine CtF.of (own := RX7) [some (.ref 0), none] (by decide +kernel) rfl (fun _ => Nat.le_of_ble_eq_true rfl) (fun _ => rfl) ?_
  refine VS.aload_n dX7_wipe_0 rfl ?_
  refine VS.sgetI 6 dX7_wipe_1 uw_X7 rfl (by decide) 6 rfl rfl (by decide) fl_X7_151 rfl ?_
  refine VS.istore_n dX7_wipe_4 (by decide) rfl ?_
  refine VS.aload_n dX7_wipe_5 rfl ?_
  refine VS.iconst (0) dX7_wipe_6 rfl ?_
  refine VS.sput 6 dX7_wipe_7 uw_X7 tyX7 tyX7_ok nmX7 rfl (by decide) 6 rfl rfl (by decide) fl_X7_151 rfl rfl (rfl) (rfl) ?_
  refine VS.iload_n dX7_wipe_10 rfl ?_
  exact VS.iret dX7_wipe_11 (rfl) (fun _ _ => rfl)
