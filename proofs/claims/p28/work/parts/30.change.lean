/-! the class: changes -/
def finK (S : SS) (f q : Nat) (r : Int32) : SS := if 0 ≤ r then keepK S f q else S
theorem hold_1 {S : SS} {f i : Nat} (h : i < 9) : holdK S f i = S i := putG_out (by omega)
theorem goK_8 {S G : SS} {f : Nat} : putG (holdK S f) 1 7 G 8 = S 8 := by rw [putG_out (by omega), hold_1 (by decide)]
theorem keepK_8 {S : SS} {f q k : Nat} (h : k ≠ 8) : keepK S f q k = S k := by
  unfold keepK up2; rw [upC_ne h, upC_ne h]
theorem keepK_id {S : SS} {f q : Nat} {G : SS} : putG (keepK S f q) 1 7 G = keepK (putG S 1 7 G) f q := by
  funext k
  by_cases h : 1 ≤ k ∧ k < 1 + 7
  · rw [keepK_8 (by omega)]; unfold putG; rw [if_pos h, if_pos h]
  · rw [putG_out h]
    by_cases h8 : k = 8
    · subst h8; unfold keepK up2; rw [upC_at, upC_at, upC_at, upC_at, putG_out (by omega)]
    · rw [keepK_8 h8, keepK_8 h8, putG_out h]
set_option maxRecDepth 100000 in
set_option maxHeartbeats 4000000 in
theorem ct_X6_set (l : Launch) (S : SS) (a : Int32) (b : Int32) {f q : Nat} (hf : f < 7) (hF : S 8 1 = nI f) (hq : q ≤ 6) (hQ : S 8 2 = nI q) (hb : S 1 3 = 0 ∨ S 1 3 = 1) {r : Int32} {G2 : SS} (hC : CtS l yX0_changeSetting cX0_changeSetting 4 (some FieldType.int) (rmD 0) [.ref 0, .int a, .int b] 7 shG (gm (holdK S f) 1) (some (.int r)) G2) : CtS l yX6_set cX6_set 3 (some FieldType.int) (rmD 4) [.ref 0, .int a, .int b] 77 shK S (some (.int r)) (finK (putG (holdK S f) 1 7 G2) f q r) := by
  refine CtF.of (own := RX6) [some (.ref 0), some (.int a), some (.int b)] (by decide +kernel) rfl (fun _ => Nat.le_of_ble_eq_true rfl) (fun _ => rfl) ?_
  refine VS.aload_n dX6_set_0 rfl ?_
  refine VS.sgetR 5 dX6_set_1 uw_X6 rfl (by decide) 1 (rfl) rfl (by decide) fl_X6_19 rfl ?_
  refine VS.aload_n dX6_set_4 rfl ?_
  refine VS.sgetR 5 dX6_set_5 uw_X6 rfl (by decide) 0 (rfl) rfl (by decide) fl_X6_10 rfl ?_
  refine VS.callT (ct_X3_hold l _ hf hF hb) dX6_set_8 mi_X3_hold im_X3_hold sel_X3_hold ml_X6_40 (by decide) rfl rfl (rmOk_D (by decide) (by decide)) (Nat.le_of_ble_eq_true rfl) rfl ?_
  refine VS.aload_n dX6_set_11 rfl ?_
  refine VS.aload_n dX6_set_12 rfl ?_
  refine VS.sgetR 5 dX6_set_13 uw_X6 rfl (by decide) 0 (rfl) rfl (by decide) fl_X6_10 rfl ?_
  refine VS.iload_n dX6_set_16 rfl ?_
  refine VS.iload_n dX6_set_17 rfl ?_
  refine VS.callR (fun i => 1 + i) (gmAt_1.shi) (hC) dX6_set_18 mi_X0_changeSetting im_X0_changeSetting sel_X0_changeSetting ml_X6_44 (by decide) rfl rfl (rmOk_D (by decide) (by decide)) (Nat.le_of_ble_eq_true rfl) rfl ?_
  refine VS.stt (mg_off 1 7 G2 (holdK S f)) ?_
  refine VS.callT (ct_X6_keptIfDone l _ _ hf (goK_8 ▸ hF : putG (holdK S f) 1 7 G2 8 1 = nI f) hq (goK_8 ▸ hQ : putG (holdK S f) 1 7 G2 8 2 = nI q)) dX6_set_21 mi_X6_keptIfDone im_X6_keptIfDone sel_X6_keptIfDone ml_X6_48 (by decide) rfl rfl (rmOk_D (by decide) (by decide)) (Nat.le_of_ble_eq_true rfl) rfl ?_
  exact VS.iret dX6_set_24 (rfl) (fun _ _ => rfl)
set_option maxRecDepth 100000 in
set_option maxHeartbeats 4000000 in
theorem ct_X6_road (l : Launch) (S : SS) (a : Int32) (b : Int32) {f q : Nat} (hf : f < 7) (hF : S 8 1 = nI f) (hq : q ≤ 6) (hQ : S 8 2 = nI q) (hb : S 1 3 = 0 ∨ S 1 3 = 1) {r : Int32} {G2 : SS} (hC : CtS l yX0_layRoad cX0_layRoad 4 (some FieldType.int) (rmD 3) [.ref 0, .int a, .int b] 7 shG (gm (holdK S f) 1) (some (.int r)) G2) : CtS l yX6_road cX6_road 3 (some FieldType.int) (rmD 4) [.ref 0, .int a, .int b] 77 shK S (some (.int r)) (finK (putG (holdK S f) 1 7 G2) f q r) := by
  refine CtF.of (own := RX6) [some (.ref 0), some (.int a), some (.int b)] (by decide +kernel) rfl (fun _ => Nat.le_of_ble_eq_true rfl) (fun _ => rfl) ?_
  refine VS.aload_n dX6_road_0 rfl ?_
  refine VS.sgetR 5 dX6_road_1 uw_X6 rfl (by decide) 1 (rfl) rfl (by decide) fl_X6_19 rfl ?_
  refine VS.aload_n dX6_road_4 rfl ?_
  refine VS.sgetR 5 dX6_road_5 uw_X6 rfl (by decide) 0 (rfl) rfl (by decide) fl_X6_10 rfl ?_
  refine VS.callT (ct_X3_hold l _ hf hF hb) dX6_road_8 mi_X3_hold im_X3_hold sel_X3_hold ml_X6_40 (by decide) rfl rfl (rmOk_D (by decide) (by decide)) (Nat.le_of_ble_eq_true rfl) rfl ?_
  refine VS.aload_n dX6_road_11 rfl ?_
  refine VS.aload_n dX6_road_12 rfl ?_
  refine VS.sgetR 5 dX6_road_13 uw_X6 rfl (by decide) 0 (rfl) rfl (by decide) fl_X6_10 rfl ?_
  refine VS.iload_n dX6_road_16 rfl ?_
  refine VS.iload_n dX6_road_17 rfl ?_
  refine VS.callR (fun i => 1 + i) (gmAt_1.shi) (hC) dX6_road_18 mi_X0_layRoad im_X0_layRoad sel_X0_layRoad ml_X6_52 (by decide) rfl rfl (rmOk_D (by decide) (by decide)) (Nat.le_of_ble_eq_true rfl) rfl ?_
  refine VS.stt (mg_off 1 7 G2 (holdK S f)) ?_
  refine VS.callT (ct_X6_keptIfDone l _ _ hf (goK_8 ▸ hF : putG (holdK S f) 1 7 G2 8 1 = nI f) hq (goK_8 ▸ hQ : putG (holdK S f) 1 7 G2 8 2 = nI q)) dX6_road_21 mi_X6_keptIfDone im_X6_keptIfDone sel_X6_keptIfDone ml_X6_48 (by decide) rfl rfl (rmOk_D (by decide) (by decide)) (Nat.le_of_ble_eq_true rfl) rfl ?_
  exact VS.iret dX6_road_24 (rfl) (fun _ _ => rfl)
set_option maxRecDepth 100000 in
set_option maxHeartbeats 4000000 in
theorem ct_X6_treasure (l : Launch) (S : SS) (a : Int32) {f q : Nat} (hf : f < 7) (hF : S 8 1 = nI f) (hq : q ≤ 6) (hQ : S 8 2 = nI q) (hb : S 1 3 = 0 ∨ S 1 3 = 1) {r : Int32} {G2 : SS} (hC : CtS l yX0_hideTreasure cX0_hideTreasure 3 (some FieldType.int) (rmD 1) [.ref 0, .int a] 7 shG (gm (holdK S f) 1) (some (.int r)) G2) : CtS l yX6_treasure cX6_treasure 2 (some FieldType.int) (rmD 4) [.ref 0, .int a] 77 shK S (some (.int r)) (finK (putG (holdK S f) 1 7 G2) f q r) := by
  refine CtF.of (own := RX6) [some (.ref 0), some (.int a)] (by decide +kernel) rfl (fun _ => Nat.le_of_ble_eq_true rfl) (fun _ => rfl) ?_
  refine VS.aload_n dX6_treasure_0 rfl ?_
  refine VS.sgetR 5 dX6_treasure_1 uw_X6 rfl (by decide) 1 (rfl) rfl (by decide) fl_X6_19 rfl ?_
  refine VS.aload_n dX6_treasure_4 rfl ?_
  refine VS.sgetR 5 dX6_treasure_5 uw_X6 rfl (by decide) 0 (rfl) rfl (by decide) fl_X6_10 rfl ?_
  refine VS.callT (ct_X3_hold l _ hf hF hb) dX6_treasure_8 mi_X3_hold im_X3_hold sel_X3_hold ml_X6_40 (by decide) rfl rfl (rmOk_D (by decide) (by decide)) (Nat.le_of_ble_eq_true rfl) rfl ?_
  refine VS.aload_n dX6_treasure_11 rfl ?_
  refine VS.aload_n dX6_treasure_12 rfl ?_
  refine VS.sgetR 5 dX6_treasure_13 uw_X6 rfl (by decide) 0 (rfl) rfl (by decide) fl_X6_10 rfl ?_
  refine VS.iload_n dX6_treasure_16 rfl ?_
  refine VS.callR (fun i => 1 + i) (gmAt_1.shi) (hC) dX6_treasure_17 mi_X0_hideTreasure im_X0_hideTreasure sel_X0_hideTreasure ml_X6_55 (by decide) rfl rfl (rmOk_D (by decide) (by decide)) (Nat.le_of_ble_eq_true rfl) rfl ?_
  refine VS.stt (mg_off 1 7 G2 (holdK S f)) ?_
  refine VS.callT (ct_X6_keptIfDone l _ _ hf (goK_8 ▸ hF : putG (holdK S f) 1 7 G2 8 1 = nI f) hq (goK_8 ▸ hQ : putG (holdK S f) 1 7 G2 8 2 = nI q)) dX6_treasure_20 mi_X6_keptIfDone im_X6_keptIfDone sel_X6_keptIfDone ml_X6_48 (by decide) rfl rfl (rmOk_D (by decide) (by decide)) (Nat.le_of_ble_eq_true rfl) rfl ?_
  exact VS.iret dX6_treasure_23 (rfl) (fun _ _ => rfl)
set_option maxRecDepth 100000 in
set_option maxHeartbeats 4000000 in
theorem ct_X6_begin (l : Launch) (S : SS)  {f q : Nat} (hf : f < 7) (hF : S 8 1 = nI f) (hq : q ≤ 6) (hQ : S 8 2 = nI q) (hb : S 1 3 = 0 ∨ S 1 3 = 1) {r : Int32} {G2 : SS} (hC : CtS l yX0_start cX0_start 1 (some FieldType.int) (rmD 3) [.ref 0] 7 shG (gm (holdK S f) 1) (some (.int r)) G2) : CtS l yX6_begin cX6_begin 1 (some FieldType.int) (rmD 4) [.ref 0] 77 shK S (some (.int r)) (finK (putG (holdK S f) 1 7 G2) f q r) := by
  refine CtF.of (own := RX6) [some (.ref 0)] (by decide +kernel) rfl (fun _ => Nat.le_of_ble_eq_true rfl) (fun _ => rfl) ?_
  refine VS.aload_n dX6_begin_0 rfl ?_
  refine VS.sgetR 5 dX6_begin_1 uw_X6 rfl (by decide) 1 (rfl) rfl (by decide) fl_X6_19 rfl ?_
  refine VS.aload_n dX6_begin_4 rfl ?_
  refine VS.sgetR 5 dX6_begin_5 uw_X6 rfl (by decide) 0 (rfl) rfl (by decide) fl_X6_10 rfl ?_
  refine VS.callT (ct_X3_hold l _ hf hF hb) dX6_begin_8 mi_X3_hold im_X3_hold sel_X3_hold ml_X6_40 (by decide) rfl rfl (rmOk_D (by decide) (by decide)) (Nat.le_of_ble_eq_true rfl) rfl ?_
  refine VS.aload_n dX6_begin_11 rfl ?_
  refine VS.aload_n dX6_begin_12 rfl ?_
  refine VS.sgetR 5 dX6_begin_13 uw_X6 rfl (by decide) 0 (rfl) rfl (by decide) fl_X6_10 rfl ?_
  refine VS.callR (fun i => 1 + i) (gmAt_1.shi) (hC) dX6_begin_16 mi_X0_start im_X0_start sel_X0_start ml_X6_58 (by decide) rfl rfl (rmOk_D (by decide) (by decide)) (Nat.le_of_ble_eq_true rfl) rfl ?_
  refine VS.stt (mg_off 1 7 G2 (holdK S f)) ?_
  refine VS.callT (ct_X6_keptIfDone l _ _ hf (goK_8 ▸ hF : putG (holdK S f) 1 7 G2 8 1 = nI f) hq (goK_8 ▸ hQ : putG (holdK S f) 1 7 G2 8 2 = nI q)) dX6_begin_19 mi_X6_keptIfDone im_X6_keptIfDone sel_X6_keptIfDone ml_X6_48 (by decide) rfl rfl (rmOk_D (by decide) (by decide)) (Nat.le_of_ble_eq_true rfl) rfl ?_
  exact VS.iret dX6_begin_22 (rfl) (fun _ _ => rfl)
set_option maxRecDepth 100000 in
set_option maxHeartbeats 4000000 in
theorem ct_X6_claim (l : Launch) (S : SS) (a : Int32) (b : Int32) (c : Int32) {f q : Nat} (hf : f < 7) (hF : S 8 1 = nI f) (hq : q ≤ 6) (hQ : S 8 2 = nI q) (hb : S 1 3 = 0 ∨ S 1 3 = 1) {r : Int32} {G2 : SS} (hC : CtS l yX0_makeClaim cX0_makeClaim 6 (some FieldType.int) (rmD 3) [.ref 0, .int a, .int b, .int c] 7 shG (gm (holdK S f) 1) (some (.int r)) G2) : CtS l yX6_claim cX6_claim 4 (some FieldType.int) (rmD 4) [.ref 0, .int a, .int b, .int c] 77 shK S (some (.int r)) (finK (putG (holdK S f) 1 7 G2) f q r) := by
  refine CtF.of (own := RX6) [some (.ref 0), some (.int a), some (.int b), some (.int c)] (by decide +kernel) rfl (fun _ => Nat.le_of_ble_eq_true rfl) (fun _ => rfl) ?_
  refine VS.aload_n dX6_claim_0 rfl ?_
  refine VS.sgetR 5 dX6_claim_1 uw_X6 rfl (by decide) 1 (rfl) rfl (by decide) fl_X6_19 rfl ?_
  refine VS.aload_n dX6_claim_4 rfl ?_
  refine VS.sgetR 5 dX6_claim_5 uw_X6 rfl (by decide) 0 (rfl) rfl (by decide) fl_X6_10 rfl ?_
  refine VS.callT (ct_X3_hold l _ hf hF hb) dX6_claim_8 mi_X3_hold im_X3_hold sel_X3_hold ml_X6_40 (by decide) rfl rfl (rmOk_D (by decide) (by decide)) (Nat.le_of_ble_eq_true rfl) rfl ?_
  refine VS.aload_n dX6_claim_11 rfl ?_
  refine VS.aload_n dX6_claim_12 rfl ?_
  refine VS.sgetR 5 dX6_claim_13 uw_X6 rfl (by decide) 0 (rfl) rfl (by decide) fl_X6_10 rfl ?_
  refine VS.iload_n dX6_claim_16 rfl ?_
  refine VS.iload_n dX6_claim_17 rfl ?_
  refine VS.iload_n dX6_claim_18 rfl ?_
  refine VS.callR (fun i => 1 + i) (gmAt_1.shi) (hC) dX6_claim_19 mi_X0_makeClaim im_X0_makeClaim sel_X0_makeClaim ml_X6_62 (by decide) rfl rfl (rmOk_D (by decide) (by decide)) (Nat.le_of_ble_eq_true rfl) rfl ?_
  refine VS.stt (mg_off 1 7 G2 (holdK S f)) ?_
  refine VS.callT (ct_X6_keptIfDone l _ _ hf (goK_8 ▸ hF : putG (holdK S f) 1 7 G2 8 1 = nI f) hq (goK_8 ▸ hQ : putG (holdK S f) 1 7 G2 8 2 = nI q)) dX6_claim_22 mi_X6_keptIfDone im_X6_keptIfDone sel_X6_keptIfDone ml_X6_48 (by decide) rfl rfl (rmOk_D (by decide) (by decide)) (Nat.le_of_ble_eq_true rfl) rfl ?_
  exact VS.iret dX6_claim_25 (rfl) (fun _ _ => rfl)
set_option maxRecDepth 100000 in
set_option maxHeartbeats 4000000 in
theorem ct_X6_check (l : Launch) (S : SS) (a : Int32) (b : Int32) (c : Int32) {f q : Nat} (hf : f < 7) (hF : S 8 1 = nI f) (hq : q ≤ 6) (hQ : S 8 2 = nI q) (hb : S 1 3 = 0 ∨ S 1 3 = 1) {r : Int32} {G2 : SS} (hC : CtS l yX0_checkClaim cX0_checkClaim 8 (some FieldType.int) (rmD 5) [.ref 0, .int a, .int b, .int c] 7 shG (gm (holdK S f) 1) (some (.int r)) G2) : CtS l yX6_check cX6_check 4 (some FieldType.int) (rmD 6) [.ref 0, .int a, .int b, .int c] 77 shK S (some (.int r)) (finK (putG (holdK S f) 1 7 G2) f q r) := by
  refine CtF.of (own := RX6) [some (.ref 0), some (.int a), some (.int b), some (.int c)] (by decide +kernel) rfl (fun _ => Nat.le_of_ble_eq_true rfl) (fun _ => rfl) ?_
  refine VS.aload_n dX6_check_0 rfl ?_
  refine VS.sgetR 5 dX6_check_1 uw_X6 rfl (by decide) 1 (rfl) rfl (by decide) fl_X6_19 rfl ?_
  refine VS.aload_n dX6_check_4 rfl ?_
  refine VS.sgetR 5 dX6_check_5 uw_X6 rfl (by decide) 0 (rfl) rfl (by decide) fl_X6_10 rfl ?_
  refine VS.callT (ct_X3_hold l _ hf hF hb) dX6_check_8 mi_X3_hold im_X3_hold sel_X3_hold ml_X6_40 (by decide) rfl rfl (rmOk_D (by decide) (by decide)) (Nat.le_of_ble_eq_true rfl) rfl ?_
  refine VS.aload_n dX6_check_11 rfl ?_
  refine VS.aload_n dX6_check_12 rfl ?_
  refine VS.sgetR 5 dX6_check_13 uw_X6 rfl (by decide) 0 (rfl) rfl (by decide) fl_X6_10 rfl ?_
  refine VS.iload_n dX6_check_16 rfl ?_
  refine VS.iload_n dX6_check_17 rfl ?_
  refine VS.iload_n dX6_check_18 rfl ?_
  refine VS.callR (fun i => 1 + i) (gmAt_1.shi) (hC) dX6_check_19 mi_X0_checkClaim im_X0_checkClaim sel_X0_checkClaim ml_X6_66 (by decide) rfl rfl (rmOk_D (by decide) (by decide)) (Nat.le_of_ble_eq_true rfl) rfl ?_
  refine VS.stt (mg_off 1 7 G2 (holdK S f)) ?_
  refine VS.callT (ct_X6_keptIfDone l _ _ hf (goK_8 ▸ hF : putG (holdK S f) 1 7 G2 8 1 = nI f) hq (goK_8 ▸ hQ : putG (holdK S f) 1 7 G2 8 2 = nI q)) dX6_check_22 mi_X6_keptIfDone im_X6_keptIfDone sel_X6_keptIfDone ml_X6_48 (by decide) rfl rfl (rmOk_D (by decide) (by decide)) (Nat.le_of_ble_eq_true rfl) rfl ?_
  exact VS.iret dX6_check_25 (rfl) (fun _ _ => rfl)
set_option maxRecDepth 100000 in
set_option maxHeartbeats 4000000 in
theorem ct_X6_dig (l : Launch) (S : SS) (a : Int32) {f q : Nat} (hf : f < 7) (hF : S 8 1 = nI f) (hq : q ≤ 6) (hQ : S 8 2 = nI q) (hb : S 1 3 = 0 ∨ S 1 3 = 1) {r : Int32} {G2 : SS} (hC : CtS l yX0_digAt cX0_digAt 4 (some FieldType.int) (rmD 4) [.ref 0, .int a] 7 shG (gm (holdK S f) 1) (some (.int r)) G2) : CtS l yX6_dig cX6_dig 2 (some FieldType.int) (rmD 5) [.ref 0, .int a] 77 shK S (some (.int r)) (finK (putG (holdK S f) 1 7 G2) f q r) := by
  refine CtF.of (own := RX6) [some (.ref 0), some (.int a)] (by decide +kernel) rfl (fun _ => Nat.le_of_ble_eq_true rfl) (fun _ => rfl) ?_
  refine VS.aload_n dX6_dig_0 rfl ?_
  refine VS.sgetR 5 dX6_dig_1 uw_X6 rfl (by decide) 1 (rfl) rfl (by decide) fl_X6_19 rfl ?_
  refine VS.aload_n dX6_dig_4 rfl ?_
  refine VS.sgetR 5 dX6_dig_5 uw_X6 rfl (by decide) 0 (rfl) rfl (by decide) fl_X6_10 rfl ?_
  refine VS.callT (ct_X3_hold l _ hf hF hb) dX6_dig_8 mi_X3_hold im_X3_hold sel_X3_hold ml_X6_40 (by decide) rfl rfl (rmOk_D (by decide) (by decide)) (Nat.le_of_ble_eq_true rfl) rfl ?_
  refine VS.aload_n dX6_dig_11 rfl ?_
  refine VS.aload_n dX6_dig_12 rfl ?_
  refine VS.sgetR 5 dX6_dig_13 uw_X6 rfl (by decide) 0 (rfl) rfl (by decide) fl_X6_10 rfl ?_
  refine VS.iload_n dX6_dig_16 rfl ?_
  refine VS.callR (fun i => 1 + i) (gmAt_1.shi) (hC) dX6_dig_17 mi_X0_digAt im_X0_digAt sel_X0_digAt ml_X6_69 (by decide) rfl rfl (rmOk_D (by decide) (by decide)) (Nat.le_of_ble_eq_true rfl) rfl ?_
  refine VS.stt (mg_off 1 7 G2 (holdK S f)) ?_
  refine VS.callT (ct_X6_keptIfDone l _ _ hf (goK_8 ▸ hF : putG (holdK S f) 1 7 G2 8 1 = nI f) hq (goK_8 ▸ hQ : putG (holdK S f) 1 7 G2 8 2 = nI q)) dX6_dig_20 mi_X6_keptIfDone im_X6_keptIfDone sel_X6_keptIfDone ml_X6_48 (by decide) rfl rfl (rmOk_D (by decide) (by decide)) (Nat.le_of_ble_eq_true rfl) rfl ?_
  exact VS.iret dX6_dig_23 (rfl) (fun _ _ => rfl)
set_option maxRecDepth 100000 in
set_option maxHeartbeats 4000000 in
theorem ct_X6_pass (l : Launch) (S : SS)  {f q : Nat} (hf : f < 7) (hF : S 8 1 = nI f) (hq : q ≤ 6) (hQ : S 8 2 = nI q) (hb : S 1 3 = 0 ∨ S 1 3 = 1) {r : Int32} {G2 : SS} (hC : CtS l yX0_passTurn cX0_passTurn 1 (some FieldType.int) (rmD 2) [.ref 0] 7 shG (gm (holdK S f) 1) (some (.int r)) G2) : CtS l yX6_pass cX6_pass 1 (some FieldType.int) (rmD 4) [.ref 0] 77 shK S (some (.int r)) (finK (putG (holdK S f) 1 7 G2) f q r) := by
  refine CtF.of (own := RX6) [some (.ref 0)] (by decide +kernel) rfl (fun _ => Nat.le_of_ble_eq_true rfl) (fun _ => rfl) ?_
  refine VS.aload_n dX6_pass_0 rfl ?_
  refine VS.sgetR 5 dX6_pass_1 uw_X6 rfl (by decide) 1 (rfl) rfl (by decide) fl_X6_19 rfl ?_
  refine VS.aload_n dX6_pass_4 rfl ?_
  refine VS.sgetR 5 dX6_pass_5 uw_X6 rfl (by decide) 0 (rfl) rfl (by decide) fl_X6_10 rfl ?_
  refine VS.callT (ct_X3_hold l _ hf hF hb) dX6_pass_8 mi_X3_hold im_X3_hold sel_X3_hold ml_X6_40 (by decide) rfl rfl (rmOk_D (by decide) (by decide)) (Nat.le_of_ble_eq_true rfl) rfl ?_
  refine VS.aload_n dX6_pass_11 rfl ?_
  refine VS.aload_n dX6_pass_12 rfl ?_
  refine VS.sgetR 5 dX6_pass_13 uw_X6 rfl (by decide) 0 (rfl) rfl (by decide) fl_X6_10 rfl ?_
  refine VS.callR (fun i => 1 + i) (gmAt_1.shi) (hC) dX6_pass_16 mi_X0_passTurn im_X0_passTurn sel_X0_passTurn ml_X6_72 (by decide) rfl rfl (rmOk_D (by decide) (by decide)) (Nat.le_of_ble_eq_true rfl) rfl ?_
  refine VS.stt (mg_off 1 7 G2 (holdK S f)) ?_
  refine VS.callT (ct_X6_keptIfDone l _ _ hf (goK_8 ▸ hF : putG (holdK S f) 1 7 G2 8 1 = nI f) hq (goK_8 ▸ hQ : putG (holdK S f) 1 7 G2 8 2 = nI q)) dX6_pass_19 mi_X6_keptIfDone im_X6_keptIfDone sel_X6_keptIfDone ml_X6_48 (by decide) rfl rfl (rmOk_D (by decide) (by decide)) (Nat.le_of_ble_eq_true rfl) rfl ?_
  exact VS.iret dX6_pass_22 (rfl) (fun _ _ => rfl)
set_option maxRecDepth 100000 in
set_option maxHeartbeats 4000000 in
theorem ct_X6_undo_no (l : Launch) (S : SS)  {f : Nat} (hf : f < 7) (hF : S 8 1 = nI f) (hQ : S 8 2 = 0) : CtS l yX6_undo cX6_undo 1 (some FieldType.int) (rmD 4) [.ref 0] 77 shK S (some (.int (-5))) (S) := by
  refine CtF.of (own := RX6) [some (.ref 0)] (by decide +kernel) rfl (fun _ => Nat.le_of_ble_eq_true rfl) (fun _ => rfl) ?_
  refine VS.aload_n dX6_undo_0 rfl ?_
  refine VS.sgetR 5 dX6_undo_1 uw_X6 rfl (by decide) 1 (rfl) rfl (by decide) fl_X6_19 rfl ?_
  refine VS.aload_n dX6_undo_4 rfl ?_
  refine VS.sgetR 5 dX6_undo_5 uw_X6 rfl (by decide) 0 (rfl) rfl (by decide) fl_X6_10 rfl ?_
  refine VS.callT (ct_X3_goBack_no l _ hf hF hQ) dX6_undo_8 mi_X3_goBack im_X3_goBack sel_X3_goBack ml_X6_224 (by decide) rfl rfl (rmOk_D (by decide) (by decide)) (Nat.le_of_ble_eq_true rfl) rfl ?_
  refine VS.if_eq 24 dX6_undo_11 (by decide) (fun _ => ?_) (fun hh => absurd (rfl) hh)
  refine VS.bipush (-5) dX6_undo_24 rfl ?_
  exact VS.iret dX6_undo_26 (rfl) (fun _ _ => rfl)
set_option maxRecDepth 100000 in
set_option maxHeartbeats 4000000 in
theorem ct_X6_undo (l : Launch) (S : SS)  {f q : Nat} (hf : f < 7) (hF : S 8 1 = nI f) (hq0 : 0 < q) (hq : q ≤ 6) (hQ : S 8 2 = nI q) (hb : S (10 + 7 * ((f + 6) % 7)) 3 = 0 ∨ S (10 + 7 * ((f + 6) % 7)) 3 = 1) : CtS l yX6_undo cX6_undo 1 (some FieldType.int) (rmD 4) [.ref 0] 77 shK S (some (.int (nI (q - 1)))) (backK S f q) := by
  refine CtF.of (own := RX6) [some (.ref 0)] (by decide +kernel) rfl (fun _ => Nat.le_of_ble_eq_true rfl) (fun _ => rfl) ?_
  refine VS.aload_n dX6_undo_0 rfl ?_
  refine VS.sgetR 5 dX6_undo_1 uw_X6 rfl (by decide) 1 (rfl) rfl (by decide) fl_X6_19 rfl ?_
  refine VS.aload_n dX6_undo_4 rfl ?_
  refine VS.sgetR 5 dX6_undo_5 uw_X6 rfl (by decide) 0 (rfl) rfl (by decide) fl_X6_10 rfl ?_
  refine VS.callT (ct_X3_goBack l _ hf hF hq0 hq hQ hb) dX6_undo_8 mi_X3_goBack im_X3_goBack sel_X3_goBack ml_X6_224 (by decide) rfl rfl (rmOk_D (by decide) (by decide)) (Nat.le_of_ble_eq_true rfl) rfl ?_
  refine VS.if_eq 24 dX6_undo_11 (by decide) (fun hh => absurd hh (by decide)) (fun _ => ?_)
  refine VS.aload_n dX6_undo_14 rfl ?_
  refine VS.sgetR 5 dX6_undo_15 uw_X6 rfl (by decide) 1 (rfl) rfl (by decide) fl_X6_19 rfl ?_
  refine VS.sgetI 2 dX6_undo_18 uw_X3 rfl (by decide) 2 (rfl) rfl (by decide) fl_X6_187 rfl ?_
  refine VS.val (y := nI (q - 1)) (by unfold backK up2; rw [upC_at]; exact upd_at _ _ _) ?_
  refine VS.goto 26 dX6_undo_21 (by decide) ?_
  exact VS.iret dX6_undo_26 (rfl) (fun _ _ => rfl)
def slA (q : Nat) : Nat := if q = 0 then 62 else 70
def saveK (S : SS) (q : Nat) : SS := up2 (putG S (slA q) 7 (gm S 1)) (slA q - 1) 1 1
def restK (S : SS) (f k q : Nat) : SS := putG (keepK (holdK S f) f k) 1 7 (gm S (slA q))
theorem n_sl {q : Int32} (h : ¬ (q = 0 ∨ q = 1)) : (if q = 0 ∨ q = 1 then (1 : Int32) else 0) = 0 := if_neg h
theorem restK_of {S : SS} {f k a : Nat} (ha : 59 ≤ a) (hf : f < 7) : putG (keepK (holdK S f) f k) 1 7 (gm (keepK (holdK S f) f k) a) = putG (keepK (holdK S f) f k) 1 7 (gm S a) := by
  funext z
  unfold putG
  by_cases h : 1 ≤ z ∧ z < 1 + 7
  · rw [if_pos h, if_pos h]
    show keepK (holdK S f) f k (a + (z - 1)) = S (a + (z - 1))
    rw [keepK_8 (by omega)]
    exact putG_out (by omega)
  · rw [if_neg h, if_neg h]
set_option maxRecDepth 100000 in
set_option maxHeartbeats 4000000 in
theorem ct_X6_save_bad (l : Launch) (S : SS) (q : Int32) (hq : ¬ (q = 0 ∨ q = 1)) : CtS l yX6_save cX6_save 3 (some FieldType.int) (rmD 3) [.ref 0, .int q] 77 shK S (some (.int (-2))) (S) := by
  refine CtF.of (own := RX6) [some (.ref 0), some (.int q), none] (by decide +kernel) rfl (fun _ => Nat.le_of_ble_eq_true rfl) (fun _ => rfl) ?_
  refine VS.iload_n dX6_save_0 rfl ?_
  refine VS.callN (ct_X6_isSlot l _) dX6_save_1 mi_X6_isSlot st_X6_isSlot ml_X6_228 (rmOk_D (by decide) (by decide)) (Nat.le_of_ble_eq_true rfl) rfl ?_
  refine VS.if_ne 10 dX6_save_4 (by decide) (fun hh => absurd (n_sl hq) hh) (fun _ => ?_)
  refine VS.bipush (-2) dX6_save_7 rfl ?_
  exact VS.iret dX6_save_9 (rfl) (fun _ _ => rfl)
set_option maxRecDepth 100000 in
set_option maxHeartbeats 4000000 in
theorem ct_X6_restore_bad (l : Launch) (S : SS) (q : Int32) (hq : ¬ (q = 0 ∨ q = 1)) : CtS l yX6_restore cX6_restore 3 (some FieldType.int) (rmD 4) [.ref 0, .int q] 77 shK S (some (.int (-2))) (S) := by
  refine CtF.of (own := RX6) [some (.ref 0), some (.int q), none] (by decide +kernel) rfl (fun _ => Nat.le_of_ble_eq_true rfl) (fun _ => rfl) ?_
  refine VS.iload_n dX6_restore_0 rfl ?_
  refine VS.callN (ct_X6_isSlot l _) dX6_restore_1 mi_X6_isSlot st_X6_isSlot ml_X6_228 (rmOk_D (by decide) (by decide)) (Nat.le_of_ble_eq_true rfl) rfl ?_
  refine VS.if_ne 10 dX6_restore_4 (by decide) (fun hh => absurd (n_sl hq) hh) (fun _ => ?_)
  refine VS.bipush (-2) dX6_restore_7 rfl ?_
  exact VS.iret dX6_restore_9 (rfl) (fun _ _ => rfl)
set_option maxRecDepth 100000 in
set_option maxHeartbeats 4000000 in
theorem ct_X6_save_0 (l : Launch) (S : SS)  (hb : S 1 3 = 0 ∨ S 1 3 = 1) : CtS l yX6_save cX6_save 3 (some FieldType.int) (rmD 3) [.ref 0, .int (nI 0)] 77 shK S (some (.int (pcI (S 1 1)))) (saveK S 0) := by
  refine CtF.of (own := RX6) [some (.ref 0), some (.int (nI 0)), none] (by decide +kernel) rfl (fun _ => Nat.le_of_ble_eq_true rfl) (fun _ => rfl) ?_
  refine VS.iload_n dX6_save_0 rfl ?_
  refine VS.callN (ct_X6_isSlot l _) dX6_save_1 mi_X6_isSlot st_X6_isSlot ml_X6_228 (rmOk_D (by decide) (by decide)) (Nat.le_of_ble_eq_true rfl) rfl ?_
  refine VS.if_ne 10 dX6_save_4 (by decide) (fun _ => ?_) (fun hh => absurd hh (by decide))
  refine VS.aload_n dX6_save_10 rfl ?_
  refine VS.iload_n dX6_save_11 rfl ?_
  refine VS.callT (ct_X6_slotOf_0 l _) dX6_save_12 mi_X6_slotOf im_X6_slotOf sel_X6_slotOf ml_X6_231 (by decide) rfl rfl (rmOk_D (by decide) (by decide)) (Nat.le_of_ble_eq_true rfl) rfl ?_
  refine VS.astore_n dX6_save_15 (by decide) rfl ?_
  refine VS.aload_n dX6_save_16 rfl ?_
  refine VS.sgetR 4 dX6_save_17 uw_X5 rfl (by decide) 0 (rfl) rfl (by decide) fl_X6_235 rfl ?_
  refine VS.aload_n dX6_save_20 rfl ?_
  refine VS.sgetR 5 dX6_save_21 uw_X6 rfl (by decide) 0 (rfl) rfl (by decide) fl_X6_10 rfl ?_
  refine VS.callR (gg2 62 1) (shi_gg gmAt_62 gmAt_1 (Or.inr (by decide))) (ct_X0_become l _ hb) dX6_save_24 mi_X0_become im_X0_become sel_X0_become ml_X6_238 (by decide) rfl rfl (rmOk_D (by decide) (by decide)) (Nat.le_of_ble_eq_true rfl) rfl ?_
  refine VS.stt (mg_gg (a := 62) (b := 1) (Or.inr (by decide)) _) ?_
  refine VS.aload_n dX6_save_27 rfl ?_
  refine VS.iconst (1) dX6_save_28 rfl ?_
  refine VS.sput 4 dX6_save_29 uw_X5 tyX5 tyX5_ok nmX5 rfl (by decide) 1 (rfl) rfl (by decide) fl_X6_241 rfl rfl (rfl) (rfl) ?_
  refine VS.aload_n dX6_save_32 rfl ?_
  refine VS.sgetR 5 dX6_save_33 uw_X6 rfl (by decide) 0 (rfl) rfl (by decide) fl_X6_10 rfl ?_
  refine VS.sgetI 0 dX6_save_36 uw_X0 rfl (by decide) 1 (rfl) rfl (by decide) fl_X6_125 rfl ?_
  refine VS.val (y := S 1 1) rfl ?_
  refine VS.callN (ct_J6_bitCount_0f7a4 l _) dX6_save_39 mi_J6_bitCount_0f7a4 st_J6_bitCount_0f7a4 ml_X6_143 (rmOk_D (by decide) (by decide)) (Nat.le_of_ble_eq_true rfl) rfl ?_
  exact VS.iret dX6_save_42 (rfl) (fun _ _ => rfl)
set_option maxRecDepth 100000 in
set_option maxHeartbeats 4000000 in
theorem ct_X6_restore_no0 (l : Launch) (S : SS)  (hfi : S 61 1 = 0) : CtS l yX6_restore cX6_restore 3 (some FieldType.int) (rmD 4) [.ref 0, .int (nI 0)] 77 shK S (some (.int (-5))) (S) := by
  refine CtF.of (own := RX6) [some (.ref 0), some (.int (nI 0)), none] (by decide +kernel) rfl (fun _ => Nat.le_of_ble_eq_true rfl) (fun _ => rfl) ?_
  refine VS.iload_n dX6_restore_0 rfl ?_
  refine VS.callN (ct_X6_isSlot l _) dX6_restore_1 mi_X6_isSlot st_X6_isSlot ml_X6_228 (rmOk_D (by decide) (by decide)) (Nat.le_of_ble_eq_true rfl) rfl ?_
  refine VS.if_ne 10 dX6_restore_4 (by decide) (fun _ => ?_) (fun hh => absurd hh (by decide))
  refine VS.aload_n dX6_restore_10 rfl ?_
  refine VS.iload_n dX6_restore_11 rfl ?_
  refine VS.callT (ct_X6_slotOf_0 l _) dX6_restore_12 mi_X6_slotOf im_X6_slotOf sel_X6_slotOf ml_X6_231 (by decide) rfl rfl (rmOk_D (by decide) (by decide)) (Nat.le_of_ble_eq_true rfl) rfl ?_
  refine VS.astore_n dX6_restore_15 (by decide) rfl ?_
  refine VS.aload_n dX6_restore_16 rfl ?_
  refine VS.sgetI 4 dX6_restore_17 uw_X5 rfl (by decide) 1 (rfl) rfl (by decide) fl_X6_241 rfl ?_
  refine VS.if_ne 26 dX6_restore_20 (by decide) (fun hh => absurd (hfi) hh) (fun _ => ?_)
  refine VS.bipush (-5) dX6_restore_23 rfl ?_
  exact VS.iret dX6_restore_25 (rfl) (fun _ _ => rfl)
set_option maxRecDepth 100000 in
set_option maxHeartbeats 4000000 in
theorem ct_X6_restore_0 (l : Launch) (S : SS)  {f q : Nat} (hf : f < 7) (hF : S 8 1 = nI f) (hq : q ≤ 6) (hQ : S 8 2 = nI q) (hb : S 1 3 = 0 ∨ S 1 3 = 1) (hfi : ¬ S 61 1 = 0) (hg : S 62 3 = 0 ∨ S 62 3 = 1) : CtS l yX6_restore cX6_restore 3 (some FieldType.int) (rmD 4) [.ref 0, .int (nI 0)] 77 shK S (some (.int (pcI (S 62 1)))) (restK S f q 0) := by
  refine CtF.of (own := RX6) [some (.ref 0), some (.int (nI 0)), none] (by decide +kernel) rfl (fun _ => Nat.le_of_ble_eq_true rfl) (fun _ => rfl) ?_
  refine VS.iload_n dX6_restore_0 rfl ?_
  refine VS.callN (ct_X6_isSlot l _) dX6_restore_1 mi_X6_isSlot st_X6_isSlot ml_X6_228 (rmOk_D (by decide) (by decide)) (Nat.le_of_ble_eq_true rfl) rfl ?_
  refine VS.if_ne 10 dX6_restore_4 (by decide) (fun _ => ?_) (fun hh => absurd hh (by decide))
  refine VS.aload_n dX6_restore_10 rfl ?_
  refine VS.iload_n dX6_restore_11 rfl ?_
  refine VS.callT (ct_X6_slotOf_0 l _) dX6_restore_12 mi_X6_slotOf im_X6_slotOf sel_X6_slotOf ml_X6_231 (by decide) rfl rfl (rmOk_D (by decide) (by decide)) (Nat.le_of_ble_eq_true rfl) rfl ?_
  refine VS.astore_n dX6_restore_15 (by decide) rfl ?_
  refine VS.aload_n dX6_restore_16 rfl ?_
  refine VS.sgetI 4 dX6_restore_17 uw_X5 rfl (by decide) 1 (rfl) rfl (by decide) fl_X6_241 rfl ?_
  refine VS.if_ne 26 dX6_restore_20 (by decide) (fun _ => ?_) (fun hh => absurd hh (hfi))
  refine VS.aload_n dX6_restore_26 rfl ?_
  refine VS.sgetR 5 dX6_restore_27 uw_X6 rfl (by decide) 1 (rfl) rfl (by decide) fl_X6_19 rfl ?_
  refine VS.aload_n dX6_restore_30 rfl ?_
  refine VS.sgetR 5 dX6_restore_31 uw_X6 rfl (by decide) 0 (rfl) rfl (by decide) fl_X6_10 rfl ?_
  refine VS.callT (ct_X3_hold l _ hf hF hb) dX6_restore_34 mi_X3_hold im_X3_hold sel_X3_hold ml_X6_40 (by decide) rfl rfl (rmOk_D (by decide) (by decide)) (Nat.le_of_ble_eq_true rfl) rfl ?_
  refine VS.aload_n dX6_restore_37 rfl ?_
  refine VS.sgetR 5 dX6_restore_38 uw_X6 rfl (by decide) 1 (rfl) rfl (by decide) fl_X6_19 rfl ?_
  refine VS.callT (ct_X3_keep l _ hf (show holdK S f 8 1 = nI f by rw [hold_1 (by decide)]; exact hF) hq (show holdK S f 8 2 = nI q by rw [hold_1 (by decide)]; exact hQ)) dX6_restore_41 mi_X3_keep im_X3_keep sel_X3_keep ml_X6_75 (by decide) rfl rfl (rmOk_D (by decide) (by decide)) (Nat.le_of_ble_eq_true rfl) rfl ?_
  refine VS.aload_n dX6_restore_44 rfl ?_
  refine VS.sgetR 5 dX6_restore_45 uw_X6 rfl (by decide) 0 (rfl) rfl (by decide) fl_X6_10 rfl ?_
  refine VS.aload_n dX6_restore_48 rfl ?_
  refine VS.sgetR 4 dX6_restore_49 uw_X5 rfl (by decide) 0 (rfl) rfl (by decide) fl_X6_235 rfl ?_
  refine VS.callR (gg2 1 62) (shi_gg gmAt_1 gmAt_62 (Or.inl (by decide))) (ct_X0_become l _ (show keepK (holdK S f) f q 62 3 = 0 ∨ keepK (holdK S f) f q 62 3 = 1 by rw [keepK_8 (by decide)]; show putG S (10 + 7 * f) 7 (gm S 1) 62 3 = 0 ∨ putG S (10 + 7 * f) 7 (gm S 1) 62 3 = 1; rw [putG_out (by omega)]; exact hg)) dX6_restore_52 mi_X0_become im_X0_become sel_X0_become ml_X6_238 (by decide) rfl rfl (rmOk_D (by decide) (by decide)) (Nat.le_of_ble_eq_true rfl) rfl ?_
  refine VS.stt (mg_gg (a := 1) (b := 62) (Or.inl (by decide)) _) ?_
  refine VS.stt (S2 := restK S f q 0) (restK_of (by decide) hf) ?_
  refine VS.aload_n dX6_restore_55 rfl ?_
  refine VS.sgetR 5 dX6_restore_56 uw_X6 rfl (by decide) 0 (rfl) rfl (by decide) fl_X6_10 rfl ?_
  refine VS.sgetI 0 dX6_restore_59 uw_X0 rfl (by decide) 1 (rfl) rfl (by decide) fl_X6_125 rfl ?_
  refine VS.val (y := S 62 1) rfl ?_
  refine VS.callN (ct_J6_bitCount_0f7a4 l _) dX6_restore_62 mi_J6_bitCount_0f7a4 st_J6_bitCount_0f7a4 ml_X6_143 (rmOk_D (by decide) (by decide)) (Nat.le_of_ble_eq_true rfl) rfl ?_
  exact VS.iret dX6_restore_65 (rfl) (fun _ _ => rfl)
set_option maxRecDepth 100000 in
set_option maxHeartbeats 4000000 in
theorem ct_X6_save_1 (l : Launch) (S : SS)  (hb : S 1 3 = 0 ∨ S 1 3 = 1) : CtS l yX6_save cX6_save 3 (some FieldType.int) (rmD 3) [.ref 0, .int (nI 1)] 77 shK S (some (.int (pcI (S 1 1)))) (saveK S 1) := by
  refine CtF.of (own := RX6) [some (.ref 0), some (.int (nI 1)), none] (by decide +kernel) rfl (fun _ => Nat.le_of_ble_eq_true rfl) (fun _ => rfl) ?_
  refine VS.iload_n dX6_save_0 rfl ?_
  refine VS.callN (ct_X6_isSlot l _) dX6_save_1 mi_X6_isSlot st_X6_isSlot ml_X6_228 (rmOk_D (by decide) (by decide)) (Nat.le_of_ble_eq_true rfl) rfl ?_
  refine VS.if_ne 10 dX6_save_4 (by decide) (fun _ => ?_) (fun hh => absurd hh (by decide))
  refine VS.aload_n dX6_save_10 rfl ?_
  refine VS.iload_n dX6_save_11 rfl ?_
  refine VS.callT (ct_X6_slotOf_1 l _) dX6_save_12 mi_X6_slotOf im_X6_slotOf sel_X6_slotOf ml_X6_231 (by decide) rfl rfl (rmOk_D (by decide) (by decide)) (Nat.le_of_ble_eq_true rfl) rfl ?_
  refine VS.astore_n dX6_save_15 (by decide) rfl ?_
  refine VS.aload_n dX6_save_16 rfl ?_
  refine VS.sgetR 4 dX6_save_17 uw_X5 rfl (by decide) 0 (rfl) rfl (by decide) fl_X6_235 rfl ?_
  refine VS.aload_n dX6_save_20 rfl ?_
  refine VS.sgetR 5 dX6_save_21 uw_X6 rfl (by decide) 0 (rfl) rfl (by decide) fl_X6_10 rfl ?_
  refine VS.callR (gg2 70 1) (shi_gg gmAt_70 gmAt_1 (Or.inr (by decide))) (ct_X0_become l _ hb) dX6_save_24 mi_X0_become im_X0_become sel_X0_become ml_X6_238 (by decide) rfl rfl (rmOk_D (by decide) (by decide)) (Nat.le_of_ble_eq_true rfl) rfl ?_
  refine VS.stt (mg_gg (a := 70) (b := 1) (Or.inr (by decide)) _) ?_
  refine VS.aload_n dX6_save_27 rfl ?_
  refine VS.iconst (1) dX6_save_28 rfl ?_
  refine VS.sput 4 dX6_save_29 uw_X5 tyX5 tyX5_ok nmX5 rfl (by decide) 1 (rfl) rfl (by decide) fl_X6_241 rfl rfl (rfl) (rfl) ?_
  refine VS.aload_n dX6_save_32 rfl ?_
  refine VS.sgetR 5 dX6_save_33 uw_X6 rfl (by decide) 0 (rfl) rfl (by decide) fl_X6_10 rfl ?_
  refine VS.sgetI 0 dX6_save_36 uw_X0 rfl (by decide) 1 (rfl) rfl (by decide) fl_X6_125 rfl ?_
  refine VS.val (y := S 1 1) rfl ?_
  refine VS.callN (ct_J6_bitCount_0f7a4 l _) dX6_save_39 mi_J6_bitCount_0f7a4 st_J6_bitCount_0f7a4 ml_X6_143 (rmOk_D (by decide) (by decide)) (Nat.le_of_ble_eq_true rfl) rfl ?_
  exact VS.iret dX6_save_42 (rfl) (fun _ _ => rfl)
set_option maxRecDepth 100000 in
set_option maxHeartbeats 4000000 in
theorem ct_X6_restore_no1 (l : Launch) (S : SS)  (hfi : S 69 1 = 0) : CtS l yX6_restore cX6_restore 3 (some FieldType.int) (rmD 4) [.ref 0, .int (nI 1)] 77 shK S (some (.int (-5))) (S) := by
  refine CtF.of (own := RX6) [some (.ref 0), some (.int (nI 1)), none] (by decide +kernel) rfl (fun _ => Nat.le_of_ble_eq_true rfl) (fun _ => rfl) ?_
  refine VS.iload_n dX6_restore_0 rfl ?_
  refine VS.callN (ct_X6_isSlot l _) dX6_restore_1 mi_X6_isSlot st_X6_isSlot ml_X6_228 (rmOk_D (by decide) (by decide)) (Nat.le_of_ble_eq_true rfl) rfl ?_
  refine VS.if_ne 10 dX6_restore_4 (by decide) (fun _ => ?_) (fun hh => absurd hh (by decide))
  refine VS.aload_n dX6_restore_10 rfl ?_
  refine VS.iload_n dX6_restore_11 rfl ?_
  refine VS.callT (ct_X6_slotOf_1 l _) dX6_restore_12 mi_X6_slotOf im_X6_slotOf sel_X6_slotOf ml_X6_231 (by decide) rfl rfl (rmOk_D (by decide) (by decide)) (Nat.le_of_ble_eq_true rfl) rfl ?_
  refine VS.astore_n dX6_restore_15 (by decide) rfl ?_
  refine VS.aload_n dX6_restore_16 rfl ?_
  refine VS.sgetI 4 dX6_restore_17 uw_X5 rfl (by decide) 1 (rfl) rfl (by decide) fl_X6_241 rfl ?_
  refine VS.if_ne 26 dX6_restore_20 (by decide) (fun hh => absurd (hfi) hh) (fun _ => ?_)
  refine VS.bipush (-5) dX6_restore_23 rfl ?_
  exact VS.iret dX6_restore_25 (rfl) (fun _ _ => rfl)
set_option maxRecDepth 100000 in
set_option maxHeartbeats 4000000 in
theorem ct_X6_restore_1 (l : Launch) (S : SS)  {f q : Nat} (hf : f < 7) (hF : S 8 1 = nI f) (hq : q ≤ 6) (hQ : S 8 2 = nI q) (hb : S 1 3 = 0 ∨ S 1 3 = 1) (hfi : ¬ S 69 1 = 0) (hg : S 70 3 = 0 ∨ S 70 3 = 1) : CtS l yX6_restore cX6_restore 3 (some FieldType.int) (rmD 4) [.ref 0, .int (nI 1)] 77 shK S (some (.int (pcI (S 70 1)))) (restK S f q 1) := by
  refine CtF.of (own := RX6) [some (.ref 0), some (.int (nI 1)), none] (by decide +kernel) rfl (fun _ => Nat.le_of_ble_eq_true rfl) (fun _ => rfl) ?_
  refine VS.iload_n dX6_restore_0 rfl ?_
  refine VS.callN (ct_X6_isSlot l _) dX6_restore_1 mi_X6_isSlot st_X6_isSlot ml_X6_228 (rmOk_D (by decide) (by decide)) (Nat.le_of_ble_eq_true rfl) rfl ?_
  refine VS.if_ne 10 dX6_restore_4 (by decide) (fun _ => ?_) (fun hh => absurd hh (by decide))
  refine VS.aload_n dX6_restore_10 rfl ?_
  refine VS.iload_n dX6_restore_11 rfl ?_
  refine VS.callT (ct_X6_slotOf_1 l _) dX6_restore_12 mi_X6_slotOf im_X6_slotOf sel_X6_slotOf ml_X6_231 (by decide) rfl rfl (rmOk_D (by decide) (by decide)) (Nat.le_of_ble_eq_true rfl) rfl ?_
  refine VS.astore_n dX6_restore_15 (by decide) rfl ?_
  refine VS.aload_n dX6_restore_16 rfl ?_
  refine VS.sgetI 4 dX6_restore_17 uw_X5 rfl (by decide) 1 (rfl) rfl (by decide) fl_X6_241 rfl ?_
  refine VS.if_ne 26 dX6_restore_20 (by decide) (fun _ => ?_) (fun hh => absurd hh (hfi))
  refine VS.aload_n dX6_restore_26 rfl ?_
  refine VS.sgetR 5 dX6_restore_27 uw_X6 rfl (by decide) 1 (rfl) rfl (by decide) fl_X6_19 rfl ?_
  refine VS.aload_n dX6_restore_30 rfl ?_
  refine VS.sgetR 5 dX6_restore_31 uw_X6 rfl (by decide) 0 (rfl) rfl (by decide) fl_X6_10 rfl ?_
  refine VS.callT (ct_X3_hold l _ hf hF hb) dX6_restore_34 mi_X3_hold im_X3_hold sel_X3_hold ml_X6_40 (by decide) rfl rfl (rmOk_D (by decide) (by decide)) (Nat.le_of_ble_eq_true rfl) rfl ?_
  refine VS.aload_n dX6_restore_37 rfl ?_
  refine VS.sgetR 5 dX6_restore_38 uw_X6 rfl (by decide) 1 (rfl) rfl (by decide) fl_X6_19 rfl ?_
  refine VS.callT (ct_X3_keep l _ hf (show holdK S f 8 1 = nI f by rw [hold_1 (by decide)]; exact hF) hq (show holdK S f 8 2 = nI q by rw [hold_1 (by decide)]; exact hQ)) dX6_restore_41 mi_X3_keep im_X3_keep sel_X3_keep ml_X6_75 (by decide) rfl rfl (rmOk_D (by decide) (by decide)) (Nat.le_of_ble_eq_true rfl) rfl ?_
  refine VS.aload_n dX6_restore_44 rfl ?_
  refine VS.sgetR 5 dX6_restore_45 uw_X6 rfl (by decide) 0 (rfl) rfl (by decide) fl_X6_10 rfl ?_
  refine VS.aload_n dX6_restore_48 rfl ?_
  refine VS.sgetR 4 dX6_restore_49 uw_X5 rfl (by decide) 0 (rfl) rfl (by decide) fl_X6_235 rfl ?_
  refine VS.callR (gg2 1 70) (shi_gg gmAt_1 gmAt_70 (Or.inl (by decide))) (ct_X0_become l _ (show keepK (holdK S f) f q 70 3 = 0 ∨ keepK (holdK S f) f q 70 3 = 1 by rw [keepK_8 (by decide)]; show putG S (10 + 7 * f) 7 (gm S 1) 70 3 = 0 ∨ putG S (10 + 7 * f) 7 (gm S 1) 70 3 = 1; rw [putG_out (by omega)]; exact hg)) dX6_restore_52 mi_X0_become im_X0_become sel_X0_become ml_X6_238 (by decide) rfl rfl (rmOk_D (by decide) (by decide)) (Nat.le_of_ble_eq_true rfl) rfl ?_
  refine VS.stt (mg_gg (a := 1) (b := 70) (Or.inl (by decide)) _) ?_
  refine VS.stt (S2 := restK S f q 1) (restK_of (by decide) hf) ?_
  refine VS.aload_n dX6_restore_55 rfl ?_
  refine VS.sgetR 5 dX6_restore_56 uw_X6 rfl (by decide) 0 (rfl) rfl (by decide) fl_X6_10 rfl ?_
  refine VS.sgetI 0 dX6_restore_59 uw_X0 rfl (by decide) 1 (rfl) rfl (by decide) fl_X6_125 rfl ?_
  refine VS.val (y := S 70 1) rfl ?_
  refine VS.callN (ct_J6_bitCount_0f7a4 l _) dX6_restore_62 mi_J6_bitCount_0f7a4 st_J6_bitCount_0f7a4 ml_X6_143 (rmOk_D (by decide) (by decide)) (Nat.le_of_ble_eq_true rfl) rfl ?_
  exact VS.iret dX6_restore_65 (rfl) (fun _ _ => rfl)
theorem shi_pd : ShI (fun i => 59 + i) 2 shD 77 shK := ⟨fun i hi => by show 59 + i < 77; omega, fun i j _ _ e => by have : 59 + i = 59 + j := e; omega, fun i hi => by
  rcases (show i = 0 ∨ i = 1 by omega) with rfl | rfl <;> rfl⟩
set_option maxRecDepth 100000 in
set_option maxHeartbeats 4000000 in
theorem ct_X6_put_bad (l : Launch) (S : SS) (c : Int64) (hn : chI c < 0) : CtS l yX6_put cX6_put 3 (some FieldType.int) (rmD 3) [.ref 0, .long c] 77 shK S (some (.int (chI c))) (S) := by
  refine CtF.of (own := RX6) [some (.ref 0), some (.long c), none] (by decide +kernel) rfl (fun _ => Nat.le_of_ble_eq_true rfl) (fun _ => rfl) ?_
  refine VS.aload_n dX6_put_0 rfl ?_
  refine VS.sgetR 5 dX6_put_1 uw_X6 rfl (by decide) 2 (rfl) rfl (by decide) fl_X6_26 rfl ?_
  refine VS.lload_n dX6_put_4 rfl ?_
  refine VS.callR (fun i => 59 + i) (shi_pd) (ct_X2_append_bad l _ _ hn) dX6_put_5 mi_X2_append im_X2_append sel_X2_append ml_X6_199 (by decide) rfl rfl (rmOk_D (by decide) (by decide)) (Nat.le_of_ble_eq_true rfl) rfl ?_
  refine VS.stt ((mg_off 59 2 _ _).trans putG_id) ?_
  exact VS.iret dX6_put_8 (rfl) (fun _ _ => rfl)
set_option maxRecDepth 100000 in
set_option maxHeartbeats 4000000 in
theorem ct_X6_put_many (l : Launch) (S : SS) (c : Int64) (hn : ¬ chI c < 0) (hm : ¬ S 59 1 + chI c ≤ 80) : CtS l yX6_put cX6_put 3 (some FieldType.int) (rmD 3) [.ref 0, .long c] 77 shK S (some (.int (-4))) (S) := by
  refine CtF.of (own := RX6) [some (.ref 0), some (.long c), none] (by decide +kernel) rfl (fun _ => Nat.le_of_ble_eq_true rfl) (fun _ => rfl) ?_
  refine VS.aload_n dX6_put_0 rfl ?_
  refine VS.sgetR 5 dX6_put_1 uw_X6 rfl (by decide) 2 (rfl) rfl (by decide) fl_X6_26 rfl ?_
  refine VS.lload_n dX6_put_4 rfl ?_
  refine VS.callR (fun i => 59 + i) (shi_pd) (ct_X2_append_many l _ _ hn hm) dX6_put_5 mi_X2_append im_X2_append sel_X2_append ml_X6_199 (by decide) rfl rfl (rmOk_D (by decide) (by decide)) (Nat.le_of_ble_eq_true rfl) rfl ?_
  refine VS.stt ((mg_off 59 2 _ _).trans putG_id) ?_
  exact VS.iret dX6_put_8 (rfl) (fun _ _ => rfl)
set_option maxRecDepth 100000 in
set_option maxHeartbeats 4000000 in
theorem ct_X6_put (l : Launch) (S : SS) (c : Int64) {len n : Nat} (hL : S 59 1 = nI len) (hn : chI c = nI n) (hn0 : 0 < n) (hn8 : n ≤ 8) (hm : len + n ≤ 80) : CtS l yX6_put cX6_put 3 (some FieldType.int) (rmD 3) [.ref 0, .long c] 77 shK S (some (.int (nI (len + n)))) (putG S 59 2 (pPut (gm S 59) c len n n)) := by
  refine CtF.of (own := RX6) [some (.ref 0), some (.long c), none] (by decide +kernel) rfl (fun _ => Nat.le_of_ble_eq_true rfl) (fun _ => rfl) ?_
  refine VS.aload_n dX6_put_0 rfl ?_
  refine VS.sgetR 5 dX6_put_1 uw_X6 rfl (by decide) 2 (rfl) rfl (by decide) fl_X6_26 rfl ?_
  refine VS.lload_n dX6_put_4 rfl ?_
  refine VS.callR (fun i => 59 + i) (shi_pd) (ct_X2_append l _ _ hL hn hn0 hn8 hm) dX6_put_5 mi_X2_append im_X2_append sel_X2_append ml_X6_199 (by decide) rfl rfl (rmOk_D (by decide) (by decide)) (Nat.le_of_ble_eq_true rfl) rfl ?_
  refine VS.stt (mg_off 59 2 _ _) ?_
  exact VS.iret dX6_put_8 (rfl) (fun _ _ => rfl)
set_option maxRecDepth 100000 in
set_option maxHeartbeats 4000000 in
theorem ct_X6_wipe (l : Launch) (S : SS)  : CtS l yX6_wipe cX6_wipe 1 (some FieldType.int) (rmD 1) [.ref 0] 77 shK S (some (.int (S 59 1))) (putG S 59 2 (up2 (gm S 59) 0 1 0)) := by
  refine CtF.of (own := RX6) [some (.ref 0)] (by decide +kernel) rfl (fun _ => Nat.le_of_ble_eq_true rfl) (fun _ => rfl) ?_
  refine VS.aload_n dX6_wipe_0 rfl ?_
  refine VS.sgetR 5 dX6_wipe_1 uw_X6 rfl (by decide) 2 (rfl) rfl (by decide) fl_X6_26 rfl ?_
  refine VS.callR (fun i => 59 + i) (shi_pd) (ct_X2_empty l _) dX6_wipe_4 mi_X2_empty im_X2_empty sel_X2_empty ml_X6_203 (by decide) rfl rfl (rmOk_D (by decide) (by decide)) (Nat.le_of_ble_eq_true rfl) rfl ?_
  refine VS.stt (mg_off 59 2 _ _) ?_
  exact VS.iret dX6_wipe_7 (rfl) (fun _ _ => rfl)
set_option maxRecDepth 100000 in
set_option maxHeartbeats 4000000 in
theorem ct_X6_fault (l : Launch) (S : SS)  {L : Nat} (hL : S 59 1 = nI L) (hL2 : L ≤ 80) : CtS l yX6_fault cX6_fault 1 (some FieldType.int) (rmD 4) [.ref 0] 77 shK S (some (.int (fautI (S 60) L L 0))) (S) := by
  refine CtF.of (own := RX6) [some (.ref 0)] (by decide +kernel) rfl (fun _ => Nat.le_of_ble_eq_true rfl) (fun _ => rfl) ?_
  refine VS.aload_n dX6_fault_0 rfl ?_
  refine VS.sgetR 5 dX6_fault_1 uw_X6 rfl (by decide) 2 (rfl) rfl (by decide) fl_X6_26 rfl ?_
  refine VS.callR (fun i => 59 + i) (shi_pd) (ct_X2_firstFault l _ hL hL2) dX6_fault_4 mi_X2_firstFault im_X2_firstFault sel_X2_firstFault ml_X6_206 (by decide) rfl rfl (rmOk_D (by decide) (by decide)) (Nat.le_of_ble_eq_true rfl) rfl ?_
  refine VS.stt ((mg_off 59 2 _ _).trans putG_id) ?_
  exact VS.iret dX6_fault_7 (rfl) (fun _ _ => rfl)
