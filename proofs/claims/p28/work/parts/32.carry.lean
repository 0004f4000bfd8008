/-! the class: carryOut -/
/-- what an order does to a game -/
def dCt (l : Launch) (G : SS) (g dg fi se r : Int32) (G2 : SS) : Prop := (g = 114 ∧ CtS l yX0_layRoad cX0_layRoad 4 (some FieldType.int) (rmD 3) [.ref 0, .int fi, .int se] 7 shG G (some (.int r)) G2) ∨ (g = 116 ∧ CtS l yX0_hideTreasure cX0_hideTreasure 3 (some FieldType.int) (rmD 1) [.ref 0, .int fi] 7 shG G (some (.int r)) G2) ∨ (g = 98 ∧ CtS l yX0_start cX0_start 1 (some FieldType.int) (rmD 3) [.ref 0] 7 shG G (some (.int r)) G2) ∨ (g = 43 ∧ CtS l yX0_makeClaim cX0_makeClaim 6 (some FieldType.int) (rmD 3) [.ref 0, .int fi, .int se, .int 1] 7 shG G (some (.int r)) G2) ∨ (g = 45 ∧ CtS l yX0_makeClaim cX0_makeClaim 6 (some FieldType.int) (rmD 3) [.ref 0, .int fi, .int se, .int 0] 7 shG G (some (.int r)) G2) ∨ (g = 99 ∧ CtS l yX0_checkClaim cX0_checkClaim 8 (some FieldType.int) (rmD 5) [.ref 0, .int dg, .int fi, .int se] 7 shG G (some (.int r)) G2) ∨ (g = 100 ∧ CtS l yX0_digAt cX0_digAt 4 (some FieldType.int) (rmD 4) [.ref 0, .int fi] 7 shG G (some (.int r)) G2) ∨ (g = 112 ∧ CtS l yX0_passTurn cX0_passTurn 1 (some FieldType.int) (rmD 2) [.ref 0] 7 shG G (some (.int r)) G2)
theorem fi_1 {P : Nat → Int32} {L k : Nat} (h : k + 1 < L) (h1 : ¬ P k = 99) (h2 : ¬ (P k = 98 ∨ P k = 112)) : itI P L (k + 1) - 97 = fiO P k := by
  unfold fiO; rw [it_lt h, if_neg h1, if_neg h2]
theorem se_2 {P : Nat → Int32} {L k : Nat} (h : k + 2 < L) (h1 : ¬ P k = 99) (h2 : P k = 114 ∨ P k = 43 ∨ P k = 45) : itI P L (k + 2) - 97 = seO P k := by
  unfold seO; rw [it_lt h, if_neg h1, if_pos h2]
theorem dg_1 {P : Nat → Int32} {L k : Nat} (h : k + 1 < L) (h1 : P k = 99) : itI P L (k + 1) - 48 = dgO P k := by
  unfold dgO; rw [it_lt h, if_pos h1]
theorem fi_2 {P : Nat → Int32} {L k : Nat} (h : k + 2 < L) (h1 : P k = 99) : itI P L (k + 2) - 97 = fiO P k := by
  unfold fiO; rw [it_lt h, if_pos h1]
theorem se_3 {P : Nat → Int32} {L k : Nat} (h : k + 3 < L) (h1 : P k = 99) : itI P L (k + 3) - 97 = seO P k := by
  unfold seO; rw [it_lt h, if_pos h1]
theorem len_at {P : Nat → Int32} {L k n : Nat} {g : Int32} (h : OrdOK P L k) (hg : P k = g) (hn : lenO g = n) : k + n ≤ L := by
  have h1 := h.1
  rw [hg, hn] at h1
  exact h1
theorem no_semi {P : Nat → Int32} {L k : Nat} (h : OrdOK P L k) : ∀ j, k ≤ j → j < k + lenO (P k) → P j ≠ 59 := by
  intro j hj1 hj2 e
  have np : ∀ {c : Int32}, plS c → c ≠ 59 := fun hc q => by subst q; exact absurd hc.1 (by decide)
  have nd : ∀ {c : Int32}, dgS c → c ≠ 59 := fun hc q => by subst q; exact absurd hc.2 (by decide)
  obtain ⟨-, ⟨h, h1, h2, h3⟩ | ⟨h, h1, h2⟩ | ⟨h, h1⟩ | h⟩ := h
  · rw [h, show lenO 99 = 4 from rfl] at hj2
    rcases (show j = k ∨ j = k + 1 ∨ j = k + 2 ∨ j = k + 3 by omega) with rfl | rfl | rfl | rfl
    · rw [h] at e; exact absurd e (by decide)
    · exact nd h1 e
    · exact np h2 e
    · exact np h3 e
  · have hl : lenO (P k) = 3 := by rcases h with h | h | h <;> (rw [h]; rfl)
    rw [hl] at hj2
    rcases (show j = k ∨ j = k + 1 ∨ j = k + 2 by omega) with rfl | rfl | rfl
    · rcases h with h | h | h <;> (rw [h] at e; exact absurd e (by decide))
    · exact np h1 e
    · exact np h2 e
  · have hl : lenO (P k) = 2 := by rcases h with h | h <;> (rw [h]; rfl)
    rw [hl] at hj2
    rcases (show j = k ∨ j = k + 1 by omega) with rfl | rfl
    · rcases h with h | h <;> (rw [h] at e; exact absurd e (by decide))
    · exact np h1 e
  · have hl : lenO (P k) = 1 := by rcases h with h | h <;> (rw [h]; rfl)
    rw [hl] at hj2
    rcases (show j = k by omega) with rfl
    rcases h with h | h <;> (rw [h] at e; exact absurd e (by decide))
set_option maxRecDepth 100000 in
set_option maxHeartbeats 4000000 in
theorem ct_X6_carryOutOrder (l : Launch) (S : SS)  {L k : Nat} (hL : S 59 1 = nI L) (hL2 : L ≤ 80) (hkL : k < L) (hok : OrdOK (S 60) L k) {r : Int32} {G2 : SS} (hd : dCt l (gm S 1) (S 60 k) (dgO (S 60) k) (fiO (S 60) k) (seO (S 60) k) r G2) : CtS l yX6_carryOutOrder cX6_carryOutOrder 2 (some FieldType.int) (rmD 6) [.ref 0, .int (nI k)] 77 shK S (some (.int r)) (putG S 1 7 G2) := by
  refine CtF.of (own := RX6) [some (.ref 0), some (.int (nI k))] (by decide +kernel) rfl (fun _ => Nat.le_of_ble_eq_true rfl) (fun _ => rfl) ?_
  rcases hd with ⟨hg, hC⟩ | ⟨hg, hC⟩ | ⟨hg, hC⟩ | ⟨hg, hC⟩ | ⟨hg, hC⟩ | ⟨hg, hC⟩ | ⟨hg, hC⟩ | ⟨hg, hC⟩
  · have hlen := len_at hok hg (show lenO 114 = 3 from rfl)
    refine VS.aload_n dX6_carryOutOrder_0 rfl ?_
    refine VS.sgetR 5 dX6_carryOutOrder_1 uw_X6 rfl (by decide) 2 (rfl) rfl (by decide) fl_X6_26 rfl ?_
    refine VS.iload_n dX6_carryOutOrder_4 rfl ?_
    refine VS.callR (fun i => 59 + i) (shi_pd) (ct_X2_sign l _ hL hL2 (by omega)) dX6_carryOutOrder_5 mi_X2_sign im_X2_sign sel_X2_sign ml_X6_215 (by decide) rfl rfl (rmOk_D (by decide) (by decide)) (Nat.le_of_ble_eq_true rfl) rfl ?_
    refine VS.stt ((mg_off 59 2 _ _).trans putG_id) ?_
    refine VS.val (y := 114) ((it_lt hkL).trans hg) ?_
    refine VS.lookup 84 dX6_carryOutOrder_8 (by decide) (rfl) (by decide) ?_
    refine VS.aload_n dX6_carryOutOrder_84 rfl ?_
    refine VS.sgetR 5 dX6_carryOutOrder_85 uw_X6 rfl (by decide) 0 (rfl) rfl (by decide) fl_X6_10 rfl ?_
    refine VS.aload_n dX6_carryOutOrder_88 rfl ?_
    refine VS.sgetR 5 dX6_carryOutOrder_89 uw_X6 rfl (by decide) 2 (rfl) rfl (by decide) fl_X6_26 rfl ?_
    refine VS.iload_n dX6_carryOutOrder_92 rfl ?_
    refine VS.iconst (1) dX6_carryOutOrder_93 rfl ?_
    refine VS.iadd dX6_carryOutOrder_94 ?_
    refine VS.val (y := nI (k + 1)) (nI_add k 1) ?_
    refine VS.callR (fun i => 59 + i) (shi_pd) (ct_X2_placeAt l _ hL hL2 (by omega)) dX6_carryOutOrder_95 mi_X2_placeAt im_X2_placeAt sel_X2_placeAt ml_X6_218 (by decide) rfl rfl (rmOk_D (by decide) (by decide)) (Nat.le_of_ble_eq_true rfl) rfl ?_
    refine VS.stt ((mg_off 59 2 _ _).trans putG_id) ?_
    refine VS.val (y := fiO (S 60) k) (fi_1 (by omega) (by rw [hg]; decide) (by rw [hg]; decide)) ?_
    refine VS.aload_n dX6_carryOutOrder_98 rfl ?_
    refine VS.sgetR 5 dX6_carryOutOrder_99 uw_X6 rfl (by decide) 2 (rfl) rfl (by decide) fl_X6_26 rfl ?_
    refine VS.iload_n dX6_carryOutOrder_102 rfl ?_
    refine VS.iconst (2) dX6_carryOutOrder_103 rfl ?_
    refine VS.iadd dX6_carryOutOrder_104 ?_
    refine VS.val (y := nI (k + 2)) (nI_add k 2) ?_
    refine VS.callR (fun i => 59 + i) (shi_pd) (ct_X2_placeAt l _ hL hL2 (by omega)) dX6_carryOutOrder_105 mi_X2_placeAt im_X2_placeAt sel_X2_placeAt ml_X6_218 (by decide) rfl rfl (rmOk_D (by decide) (by decide)) (Nat.le_of_ble_eq_true rfl) rfl ?_
    refine VS.stt ((mg_off 59 2 _ _).trans putG_id) ?_
    refine VS.val (y := seO (S 60) k) (se_2 (by omega) (by rw [hg]; decide) (by rw [hg]; decide)) ?_
    refine VS.callR (fun i => 1 + i) (gmAt_1.shi) (hC) dX6_carryOutOrder_108 mi_X0_layRoad im_X0_layRoad sel_X0_layRoad ml_X6_52 (by decide) rfl rfl (rmOk_D (by decide) (by decide)) (Nat.le_of_ble_eq_true rfl) rfl ?_
    refine VS.stt (mg_off 1 7 G2 S) ?_
    exact VS.iret dX6_carryOutOrder_111 (rfl) (fun _ _ => rfl)
  · have hlen := len_at hok hg (show lenO 116 = 2 from rfl)
    refine VS.aload_n dX6_carryOutOrder_0 rfl ?_
    refine VS.sgetR 5 dX6_carryOutOrder_1 uw_X6 rfl (by decide) 2 (rfl) rfl (by decide) fl_X6_26 rfl ?_
    refine VS.iload_n dX6_carryOutOrder_4 rfl ?_
    refine VS.callR (fun i => 59 + i) (shi_pd) (ct_X2_sign l _ hL hL2 (by omega)) dX6_carryOutOrder_5 mi_X2_sign im_X2_sign sel_X2_sign ml_X6_215 (by decide) rfl rfl (rmOk_D (by decide) (by decide)) (Nat.le_of_ble_eq_true rfl) rfl ?_
    refine VS.stt ((mg_off 59 2 _ _).trans putG_id) ?_
    refine VS.val (y := 116) ((it_lt hkL).trans hg) ?_
    refine VS.lookup 112 dX6_carryOutOrder_8 (by decide) (rfl) (by decide) ?_
    refine VS.aload_n dX6_carryOutOrder_112 rfl ?_
    refine VS.sgetR 5 dX6_carryOutOrder_113 uw_X6 rfl (by decide) 0 (rfl) rfl (by decide) fl_X6_10 rfl ?_
    refine VS.aload_n dX6_carryOutOrder_116 rfl ?_
    refine VS.sgetR 5 dX6_carryOutOrder_117 uw_X6 rfl (by decide) 2 (rfl) rfl (by decide) fl_X6_26 rfl ?_
    refine VS.iload_n dX6_carryOutOrder_120 rfl ?_
    refine VS.iconst (1) dX6_carryOutOrder_121 rfl ?_
    refine VS.iadd dX6_carryOutOrder_122 ?_
    refine VS.val (y := nI (k + 1)) (nI_add k 1) ?_
    refine VS.callR (fun i => 59 + i) (shi_pd) (ct_X2_placeAt l _ hL hL2 (by omega)) dX6_carryOutOrder_123 mi_X2_placeAt im_X2_placeAt sel_X2_placeAt ml_X6_218 (by decide) rfl rfl (rmOk_D (by decide) (by decide)) (Nat.le_of_ble_eq_true rfl) rfl ?_
    refine VS.stt ((mg_off 59 2 _ _).trans putG_id) ?_
    refine VS.val (y := fiO (S 60) k) (fi_1 (by omega) (by rw [hg]; decide) (by rw [hg]; decide)) ?_
    refine VS.callR (fun i => 1 + i) (gmAt_1.shi) (hC) dX6_carryOutOrder_126 mi_X0_hideTreasure im_X0_hideTreasure sel_X0_hideTreasure ml_X6_55 (by decide) rfl rfl (rmOk_D (by decide) (by decide)) (Nat.le_of_ble_eq_true rfl) rfl ?_
    refine VS.stt (mg_off 1 7 G2 S) ?_
    exact VS.iret dX6_carryOutOrder_129 (rfl) (fun _ _ => rfl)
  · have hlen := len_at hok hg (show lenO 98 = 1 from rfl)
    refine VS.aload_n dX6_carryOutOrder_0 rfl ?_
    refine VS.sgetR 5 dX6_carryOutOrder_1 uw_X6 rfl (by decide) 2 (rfl) rfl (by decide) fl_X6_26 rfl ?_
    refine VS.iload_n dX6_carryOutOrder_4 rfl ?_
    refine VS.callR (fun i => 59 + i) (shi_pd) (ct_X2_sign l _ hL hL2 (by omega)) dX6_carryOutOrder_5 mi_X2_sign im_X2_sign sel_X2_sign ml_X6_215 (by decide) rfl rfl (rmOk_D (by decide) (by decide)) (Nat.le_of_ble_eq_true rfl) rfl ?_
    refine VS.stt ((mg_off 59 2 _ _).trans putG_id) ?_
    refine VS.val (y := 98) ((it_lt hkL).trans hg) ?_
    refine VS.lookup 130 dX6_carryOutOrder_8 (by decide) (rfl) (by decide) ?_
    refine VS.aload_n dX6_carryOutOrder_130 rfl ?_
    refine VS.sgetR 5 dX6_carryOutOrder_131 uw_X6 rfl (by decide) 0 (rfl) rfl (by decide) fl_X6_10 rfl ?_
    refine VS.callR (fun i => 1 + i) (gmAt_1.shi) (hC) dX6_carryOutOrder_134 mi_X0_start im_X0_start sel_X0_start ml_X6_58 (by decide) rfl rfl (rmOk_D (by decide) (by decide)) (Nat.le_of_ble_eq_true rfl) rfl ?_
    refine VS.stt (mg_off 1 7 G2 S) ?_
    exact VS.iret dX6_carryOutOrder_137 (rfl) (fun _ _ => rfl)
  · have hlen := len_at hok hg (show lenO 43 = 3 from rfl)
    refine VS.aload_n dX6_carryOutOrder_0 rfl ?_
    refine VS.sgetR 5 dX6_carryOutOrder_1 uw_X6 rfl (by decide) 2 (rfl) rfl (by decide) fl_X6_26 rfl ?_
    refine VS.iload_n dX6_carryOutOrder_4 rfl ?_
    refine VS.callR (fun i => 59 + i) (shi_pd) (ct_X2_sign l _ hL hL2 (by omega)) dX6_carryOutOrder_5 mi_X2_sign im_X2_sign sel_X2_sign ml_X6_215 (by decide) rfl rfl (rmOk_D (by decide) (by decide)) (Nat.le_of_ble_eq_true rfl) rfl ?_
    refine VS.stt ((mg_off 59 2 _ _).trans putG_id) ?_
    refine VS.val (y := 43) ((it_lt hkL).trans hg) ?_
    refine VS.lookup 138 dX6_carryOutOrder_8 (by decide) (rfl) (by decide) ?_
    refine VS.aload_n dX6_carryOutOrder_138 rfl ?_
    refine VS.sgetR 5 dX6_carryOutOrder_139 uw_X6 rfl (by decide) 0 (rfl) rfl (by decide) fl_X6_10 rfl ?_
    refine VS.aload_n dX6_carryOutOrder_142 rfl ?_
    refine VS.sgetR 5 dX6_carryOutOrder_143 uw_X6 rfl (by decide) 2 (rfl) rfl (by decide) fl_X6_26 rfl ?_
    refine VS.iload_n dX6_carryOutOrder_146 rfl ?_
    refine VS.iconst (1) dX6_carryOutOrder_147 rfl ?_
    refine VS.iadd dX6_carryOutOrder_148 ?_
    refine VS.val (y := nI (k + 1)) (nI_add k 1) ?_
    refine VS.callR (fun i => 59 + i) (shi_pd) (ct_X2_placeAt l _ hL hL2 (by omega)) dX6_carryOutOrder_149 mi_X2_placeAt im_X2_placeAt sel_X2_placeAt ml_X6_218 (by decide) rfl rfl (rmOk_D (by decide) (by decide)) (Nat.le_of_ble_eq_true rfl) rfl ?_
    refine VS.stt ((mg_off 59 2 _ _).trans putG_id) ?_
    refine VS.val (y := fiO (S 60) k) (fi_1 (by omega) (by rw [hg]; decide) (by rw [hg]; decide)) ?_
    refine VS.aload_n dX6_carryOutOrder_152 rfl ?_
    refine VS.sgetR 5 dX6_carryOutOrder_153 uw_X6 rfl (by decide) 2 (rfl) rfl (by decide) fl_X6_26 rfl ?_
    refine VS.iload_n dX6_carryOutOrder_156 rfl ?_
    refine VS.iconst (2) dX6_carryOutOrder_157 rfl ?_
    refine VS.iadd dX6_carryOutOrder_158 ?_
    refine VS.val (y := nI (k + 2)) (nI_add k 2) ?_
    refine VS.callR (fun i => 59 + i) (shi_pd) (ct_X2_placeAt l _ hL hL2 (by omega)) dX6_carryOutOrder_159 mi_X2_placeAt im_X2_placeAt sel_X2_placeAt ml_X6_218 (by decide) rfl rfl (rmOk_D (by decide) (by decide)) (Nat.le_of_ble_eq_true rfl) rfl ?_
    refine VS.stt ((mg_off 59 2 _ _).trans putG_id) ?_
    refine VS.val (y := seO (S 60) k) (se_2 (by omega) (by rw [hg]; decide) (by rw [hg]; decide)) ?_
    refine VS.iconst (1) dX6_carryOutOrder_162 rfl ?_
    refine VS.callR (fun i => 1 + i) (gmAt_1.shi) (hC) dX6_carryOutOrder_163 mi_X0_makeClaim im_X0_makeClaim sel_X0_makeClaim ml_X6_62 (by decide) rfl rfl (rmOk_D (by decide) (by decide)) (Nat.le_of_ble_eq_true rfl) rfl ?_
    refine VS.stt (mg_off 1 7 G2 S) ?_
    exact VS.iret dX6_carryOutOrder_166 (rfl) (fun _ _ => rfl)
  · have hlen := len_at hok hg (show lenO 45 = 3 from rfl)
    refine VS.aload_n dX6_carryOutOrder_0 rfl ?_
    refine VS.sgetR 5 dX6_carryOutOrder_1 uw_X6 rfl (by decide) 2 (rfl) rfl (by decide) fl_X6_26 rfl ?_
    refine VS.iload_n dX6_carryOutOrder_4 rfl ?_
    refine VS.callR (fun i => 59 + i) (shi_pd) (ct_X2_sign l _ hL hL2 (by omega)) dX6_carryOutOrder_5 mi_X2_sign im_X2_sign sel_X2_sign ml_X6_215 (by decide) rfl rfl (rmOk_D (by decide) (by decide)) (Nat.le_of_ble_eq_true rfl) rfl ?_
    refine VS.stt ((mg_off 59 2 _ _).trans putG_id) ?_
    refine VS.val (y := 45) ((it_lt hkL).trans hg) ?_
    refine VS.lookup 167 dX6_carryOutOrder_8 (by decide) (rfl) (by decide) ?_
    refine VS.aload_n dX6_carryOutOrder_167 rfl ?_
    refine VS.sgetR 5 dX6_carryOutOrder_168 uw_X6 rfl (by decide) 0 (rfl) rfl (by decide) fl_X6_10 rfl ?_
    refine VS.aload_n dX6_carryOutOrder_171 rfl ?_
    refine VS.sgetR 5 dX6_carryOutOrder_172 uw_X6 rfl (by decide) 2 (rfl) rfl (by decide) fl_X6_26 rfl ?_
    refine VS.iload_n dX6_carryOutOrder_175 rfl ?_
    refine VS.iconst (1) dX6_carryOutOrder_176 rfl ?_
    refine VS.iadd dX6_carryOutOrder_177 ?_
    refine VS.val (y := nI (k + 1)) (nI_add k 1) ?_
    refine VS.callR (fun i => 59 + i) (shi_pd) (ct_X2_placeAt l _ hL hL2 (by omega)) dX6_carryOutOrder_178 mi_X2_placeAt im_X2_placeAt sel_X2_placeAt ml_X6_218 (by decide) rfl rfl (rmOk_D (by decide) (by decide)) (Nat.le_of_ble_eq_true rfl) rfl ?_
    refine VS.stt ((mg_off 59 2 _ _).trans putG_id) ?_
    refine VS.val (y := fiO (S 60) k) (fi_1 (by omega) (by rw [hg]; decide) (by rw [hg]; decide)) ?_
    refine VS.aload_n dX6_carryOutOrder_181 rfl ?_
    refine VS.sgetR 5 dX6_carryOutOrder_182 uw_X6 rfl (by decide) 2 (rfl) rfl (by decide) fl_X6_26 rfl ?_
    refine VS.iload_n dX6_carryOutOrder_185 rfl ?_
    refine VS.iconst (2) dX6_carryOutOrder_186 rfl ?_
    refine VS.iadd dX6_carryOutOrder_187 ?_
    refine VS.val (y := nI (k + 2)) (nI_add k 2) ?_
    refine VS.callR (fun i => 59 + i) (shi_pd) (ct_X2_placeAt l _ hL hL2 (by omega)) dX6_carryOutOrder_188 mi_X2_placeAt im_X2_placeAt sel_X2_placeAt ml_X6_218 (by decide) rfl rfl (rmOk_D (by decide) (by decide)) (Nat.le_of_ble_eq_true rfl) rfl ?_
    refine VS.stt ((mg_off 59 2 _ _).trans putG_id) ?_
    refine VS.val (y := seO (S 60) k) (se_2 (by omega) (by rw [hg]; decide) (by rw [hg]; decide)) ?_
    refine VS.iconst (0) dX6_carryOutOrder_191 rfl ?_
    refine VS.callR (fun i => 1 + i) (gmAt_1.shi) (hC) dX6_carryOutOrder_192 mi_X0_makeClaim im_X0_makeClaim sel_X0_makeClaim ml_X6_62 (by decide) rfl rfl (rmOk_D (by decide) (by decide)) (Nat.le_of_ble_eq_true rfl) rfl ?_
    refine VS.stt (mg_off 1 7 G2 S) ?_
    exact VS.iret dX6_carryOutOrder_195 (rfl) (fun _ _ => rfl)
  · have hlen := len_at hok hg (show lenO 99 = 4 from rfl)
    refine VS.aload_n dX6_carryOutOrder_0 rfl ?_
    refine VS.sgetR 5 dX6_carryOutOrder_1 uw_X6 rfl (by decide) 2 (rfl) rfl (by decide) fl_X6_26 rfl ?_
    refine VS.iload_n dX6_carryOutOrder_4 rfl ?_
    refine VS.callR (fun i => 59 + i) (shi_pd) (ct_X2_sign l _ hL hL2 (by omega)) dX6_carryOutOrder_5 mi_X2_sign im_X2_sign sel_X2_sign ml_X6_215 (by decide) rfl rfl (rmOk_D (by decide) (by decide)) (Nat.le_of_ble_eq_true rfl) rfl ?_
    refine VS.stt ((mg_off 59 2 _ _).trans putG_id) ?_
    refine VS.val (y := 99) ((it_lt hkL).trans hg) ?_
    refine VS.lookup 196 dX6_carryOutOrder_8 (by decide) (rfl) (by decide) ?_
    refine VS.aload_n dX6_carryOutOrder_196 rfl ?_
    refine VS.sgetR 5 dX6_carryOutOrder_197 uw_X6 rfl (by decide) 0 (rfl) rfl (by decide) fl_X6_10 rfl ?_
    refine VS.aload_n dX6_carryOutOrder_200 rfl ?_
    refine VS.sgetR 5 dX6_carryOutOrder_201 uw_X6 rfl (by decide) 2 (rfl) rfl (by decide) fl_X6_26 rfl ?_
    refine VS.iload_n dX6_carryOutOrder_204 rfl ?_
    refine VS.iconst (1) dX6_carryOutOrder_205 rfl ?_
    refine VS.iadd dX6_carryOutOrder_206 ?_
    refine VS.val (y := nI (k + 1)) (nI_add k 1) ?_
    refine VS.callR (fun i => 59 + i) (shi_pd) (ct_X2_digitAt l _ hL hL2 (by omega)) dX6_carryOutOrder_207 mi_X2_digitAt im_X2_digitAt sel_X2_digitAt ml_X6_221 (by decide) rfl rfl (rmOk_D (by decide) (by decide)) (Nat.le_of_ble_eq_true rfl) rfl ?_
    refine VS.stt ((mg_off 59 2 _ _).trans putG_id) ?_
    refine VS.val (y := dgO (S 60) k) (dg_1 (by omega) hg) ?_
    refine VS.aload_n dX6_carryOutOrder_210 rfl ?_
    refine VS.sgetR 5 dX6_carryOutOrder_211 uw_X6 rfl (by decide) 2 (rfl) rfl (by decide) fl_X6_26 rfl ?_
    refine VS.iload_n dX6_carryOutOrder_214 rfl ?_
    refine VS.iconst (2) dX6_carryOutOrder_215 rfl ?_
    refine VS.iadd dX6_carryOutOrder_216 ?_
    refine VS.val (y := nI (k + 2)) (nI_add k 2) ?_
    refine VS.callR (fun i => 59 + i) (shi_pd) (ct_X2_placeAt l _ hL hL2 (by omega)) dX6_carryOutOrder_217 mi_X2_placeAt im_X2_placeAt sel_X2_placeAt ml_X6_218 (by decide) rfl rfl (rmOk_D (by decide) (by decide)) (Nat.le_of_ble_eq_true rfl) rfl ?_
    refine VS.stt ((mg_off 59 2 _ _).trans putG_id) ?_
    refine VS.val (y := fiO (S 60) k) (fi_2 (by omega) hg) ?_
    refine VS.aload_n dX6_carryOutOrder_220 rfl ?_
    refine VS.sgetR 5 dX6_carryOutOrder_221 uw_X6 rfl (by decide) 2 (rfl) rfl (by decide) fl_X6_26 rfl ?_
    refine VS.iload_n dX6_carryOutOrder_224 rfl ?_
    refine VS.iconst (3) dX6_carryOutOrder_225 rfl ?_
    refine VS.iadd dX6_carryOutOrder_226 ?_
    refine VS.val (y := nI (k + 3)) (nI_add k 3) ?_
    refine VS.callR (fun i => 59 + i) (shi_pd) (ct_X2_placeAt l _ hL hL2 (by omega)) dX6_carryOutOrder_227 mi_X2_placeAt im_X2_placeAt sel_X2_placeAt ml_X6_218 (by decide) rfl rfl (rmOk_D (by decide) (by decide)) (Nat.le_of_ble_eq_true rfl) rfl ?_
    refine VS.stt ((mg_off 59 2 _ _).trans putG_id) ?_
    refine VS.val (y := seO (S 60) k) (se_3 (by omega) hg) ?_
    refine VS.callR (fun i => 1 + i) (gmAt_1.shi) (hC) dX6_carryOutOrder_230 mi_X0_checkClaim im_X0_checkClaim sel_X0_checkClaim ml_X6_66 (by decide) rfl rfl (rmOk_D (by decide) (by decide)) (Nat.le_of_ble_eq_true rfl) rfl ?_
    refine VS.stt (mg_off 1 7 G2 S) ?_
    exact VS.iret dX6_carryOutOrder_233 (rfl) (fun _ _ => rfl)
  · have hlen := len_at hok hg (show lenO 100 = 2 from rfl)
    refine VS.aload_n dX6_carryOutOrder_0 rfl ?_
    refine VS.sgetR 5 dX6_carryOutOrder_1 uw_X6 rfl (by decide) 2 (rfl) rfl (by decide) fl_X6_26 rfl ?_
    refine VS.iload_n dX6_carryOutOrder_4 rfl ?_
    refine VS.callR (fun i => 59 + i) (shi_pd) (ct_X2_sign l _ hL hL2 (by omega)) dX6_carryOutOrder_5 mi_X2_sign im_X2_sign sel_X2_sign ml_X6_215 (by decide) rfl rfl (rmOk_D (by decide) (by decide)) (Nat.le_of_ble_eq_true rfl) rfl ?_
    refine VS.stt ((mg_off 59 2 _ _).trans putG_id) ?_
    refine VS.val (y := 100) ((it_lt hkL).trans hg) ?_
    refine VS.lookup 234 dX6_carryOutOrder_8 (by decide) (rfl) (by decide) ?_
    refine VS.aload_n dX6_carryOutOrder_234 rfl ?_
    refine VS.sgetR 5 dX6_carryOutOrder_235 uw_X6 rfl (by decide) 0 (rfl) rfl (by decide) fl_X6_10 rfl ?_
    refine VS.aload_n dX6_carryOutOrder_238 rfl ?_
    refine VS.sgetR 5 dX6_carryOutOrder_239 uw_X6 rfl (by decide) 2 (rfl) rfl (by decide) fl_X6_26 rfl ?_
    refine VS.iload_n dX6_carryOutOrder_242 rfl ?_
    refine VS.iconst (1) dX6_carryOutOrder_243 rfl ?_
    refine VS.iadd dX6_carryOutOrder_244 ?_
    refine VS.val (y := nI (k + 1)) (nI_add k 1) ?_
    refine VS.callR (fun i => 59 + i) (shi_pd) (ct_X2_placeAt l _ hL hL2 (by omega)) dX6_carryOutOrder_245 mi_X2_placeAt im_X2_placeAt sel_X2_placeAt ml_X6_218 (by decide) rfl rfl (rmOk_D (by decide) (by decide)) (Nat.le_of_ble_eq_true rfl) rfl ?_
    refine VS.stt ((mg_off 59 2 _ _).trans putG_id) ?_
    refine VS.val (y := fiO (S 60) k) (fi_1 (by omega) (by rw [hg]; decide) (by rw [hg]; decide)) ?_
    refine VS.callR (fun i => 1 + i) (gmAt_1.shi) (hC) dX6_carryOutOrder_248 mi_X0_digAt im_X0_digAt sel_X0_digAt ml_X6_69 (by decide) rfl rfl (rmOk_D (by decide) (by decide)) (Nat.le_of_ble_eq_true rfl) rfl ?_
    refine VS.stt (mg_off 1 7 G2 S) ?_
    exact VS.iret dX6_carryOutOrder_251 (rfl) (fun _ _ => rfl)
  · have hlen := len_at hok hg (show lenO 112 = 1 from rfl)
    refine VS.aload_n dX6_carryOutOrder_0 rfl ?_
    refine VS.sgetR 5 dX6_carryOutOrder_1 uw_X6 rfl (by decide) 2 (rfl) rfl (by decide) fl_X6_26 rfl ?_
    refine VS.iload_n dX6_carryOutOrder_4 rfl ?_
    refine VS.callR (fun i => 59 + i) (shi_pd) (ct_X2_sign l _ hL hL2 (by omega)) dX6_carryOutOrder_5 mi_X2_sign im_X2_sign sel_X2_sign ml_X6_215 (by decide) rfl rfl (rmOk_D (by decide) (by decide)) (Nat.le_of_ble_eq_true rfl) rfl ?_
    refine VS.stt ((mg_off 59 2 _ _).trans putG_id) ?_
    refine VS.val (y := 112) ((it_lt hkL).trans hg) ?_
    refine VS.lookup 252 dX6_carryOutOrder_8 (by decide) (rfl) (by decide) ?_
    refine VS.aload_n dX6_carryOutOrder_252 rfl ?_
    refine VS.sgetR 5 dX6_carryOutOrder_253 uw_X6 rfl (by decide) 0 (rfl) rfl (by decide) fl_X6_10 rfl ?_
    refine VS.callR (fun i => 1 + i) (gmAt_1.shi) (hC) dX6_carryOutOrder_256 mi_X0_passTurn im_X0_passTurn sel_X0_passTurn ml_X6_72 (by decide) rfl rfl (rmOk_D (by decide) (by decide)) (Nat.le_of_ble_eq_true rfl) rfl ?_
    refine VS.stt (mg_off 1 7 G2 S) ?_
    exact VS.iret dX6_carryOutOrder_259 (rfl) (fun _ _ => rfl)
