/-! the class: digging; a game becomes another -/
def D4 (S : SS) (t : Nat) (c a tl dg : Nat → Int32) : SS := upC (upC (upC (upC S 0 c) (2 + t) a) 5 tl) 6 dg
theorem D4_ini (S : SS) (t : Nat) : S = D4 S t (S 0) (S (2 + t)) (S 5) (S 6) := by
  unfold D4
  have h1 : upC S 0 (S 0) = S := upC_id _ _
  have h2 : upC S (2 + t) (S (2 + t)) = S := upC_id _ _
  have h3 : upC S 5 (S 5) = S := upC_id _ _
  have h4 : upC S 6 (S 6) = S := upC_id _ _
  rw [h1, h2, h3, h4]
section
variable {S : SS} {t : Nat} {c a tl dg x : Nat → Int32}
theorem D4_0 : D4 S t c a tl dg 0 = c := by unfold D4; rw [upC_ne (by omega), upC_ne (by omega), upC_ne (by omega), upC_at]
theorem D4_1 (h : t < 3) : D4 S t c a tl dg 1 = S 1 := by unfold D4; rw [upC_ne (by omega), upC_ne (by omega), upC_ne (by omega), upC_ne (by omega)]
theorem D4_t (h : t < 3) : D4 S t c a tl dg (2 + t) = a := by unfold D4; rw [upC_ne (by omega), upC_ne (by omega), upC_at]
theorem D4_5 : D4 S t c a tl dg 5 = tl := by unfold D4; rw [upC_ne (by omega), upC_at]
theorem D4_6 : D4 S t c a tl dg 6 = dg := by unfold D4; rw [upC_at]
theorem D4_u0 : upC (D4 S t c a tl dg) 0 x = D4 S t x a tl dg := by
  unfold D4; rw [upC_comm _ _ _ (by omega : 6 ≠ 0), upC_comm _ _ _ (by omega : 5 ≠ 0), upC_comm _ _ _ (by omega : 2 + t ≠ 0), upC_upC]
theorem D4_ut (h : t < 3) : upC (D4 S t c a tl dg) (2 + t) x = D4 S t c x tl dg := by
  unfold D4; rw [upC_comm _ _ _ (by omega : 6 ≠ 2 + t), upC_comm _ _ _ (by omega : 5 ≠ 2 + t), upC_upC]
theorem D4_u5 : upC (D4 S t c a tl dg) 5 x = D4 S t c a x dg := by
  unfold D4; rw [upC_comm _ _ _ (by omega : 6 ≠ 5), upC_upC]
theorem D4_u6 : upC (D4 S t c a tl dg) 6 x = D4 S t c a tl x := by
  unfold D4; rw [upC_upC]
theorem D4_s0 {j : Nat} {v : Int32} : up2 (D4 S t c a tl dg) 0 j v = D4 S t (upd c j v) a tl dg := by unfold up2; rw [D4_0, D4_u0]
theorem D4_st {j : Nat} {v : Int32} (h : t < 3) : up2 (D4 S t c a tl dg) (2 + t) j v = D4 S t c (upd a j v) tl dg := by unfold up2; rw [D4_t h, D4_ut h]
theorem D4_s5 {j : Nat} {v : Int32} : up2 (D4 S t c a tl dg) 5 j v = D4 S t c a (upd tl j v) dg := by unfold up2; rw [D4_5, D4_u5]
theorem D4_s6 {j : Nat} {v : Int32} : up2 (D4 S t c a tl dg) 6 j v = D4 S t c a tl (upd dg j v) := by unfold up2; rw [D4_6, D4_u6]
end
def ndS (S : SS) (d a : Nat) (v : Int32) : SS := up2 (up2 (up2 S 5 a v) 6 d (nI a)) 0 13 (nI (d + 1))
set_option maxRecDepth 100000 in
set_option maxHeartbeats 4000000 in
theorem ct_X0_noteDigging (l : Launch) (S : SS) (v : Int32) {a d : Nat} (ha : a < 8) (hd : S 0 13 = nI d) (hd2 : d < 150) : CtS l yX0_noteDigging cX0_noteDigging 3 none (rmD 0) [.ref 0, .int (nI a), .int v] 7 shG S (none) (ndS S d a v) := by
  refine CtF.of (own := RX0) [some (.ref 0), some (.int (nI a)), some (.int v)] (by decide +kernel) rfl (fun _ => Nat.le_of_ble_eq_true rfl) (fun _ => rfl) ?_
  refine VS.iload_n dX0_noteDigging_0 rfl ?_
  refine VS.if_lt 20 dX0_noteDigging_1 (by decide) (fun hh => absurd hh (nI_pos (by omega))) (fun _ => ?_)
  refine VS.iload_n dX0_noteDigging_4 rfl ?_
  refine VS.aload_n dX0_noteDigging_5 rfl ?_
  refine VS.sgetR 0 dX0_noteDigging_6 uw_X0 rfl (by decide) 11 (rfl) rfl (by decide) fl_X0_34 rfl ?_
  refine VS.salen (v := 8) .int dX0_noteDigging_9 (by decide) rfl (fun _ => rfl) rfl ?_
  refine VS.icmp_ge 20 dX0_noteDigging_10 (by decide) (fun hh => absurd hh (nI_ge (b := 8) ha (by decide))) (fun _ => ?_)
  refine VS.aload_n dX0_noteDigging_13 rfl ?_
  refine VS.sgetR 0 dX0_noteDigging_14 uw_X0 rfl (by decide) 11 (rfl) rfl (by decide) fl_X0_34 rfl ?_
  refine VS.iload_n dX0_noteDigging_17 rfl ?_
  refine VS.iload_n dX0_noteDigging_18 rfl ?_
  refine VS.siast (a) dX0_noteDigging_19 (by decide) rfl (rfl) (ha) (by decide) ?_
  refine VS.aload_n dX0_noteDigging_20 rfl ?_
  refine VS.sgetI 0 dX0_noteDigging_21 uw_X0 rfl (by decide) 13 (rfl) rfl (by decide) fl_X0_70 rfl ?_
  refine VS.val (y := nI d) hd ?_
  refine VS.if_lt 59 dX0_noteDigging_24 (by decide) (fun hh => absurd hh (nI_pos (by omega))) (fun _ => ?_)
  refine VS.aload_n dX0_noteDigging_27 rfl ?_
  refine VS.sgetI 0 dX0_noteDigging_28 uw_X0 rfl (by decide) 13 (rfl) rfl (by decide) fl_X0_70 rfl ?_
  refine VS.val (y := nI d) hd ?_
  refine VS.aload_n dX0_noteDigging_31 rfl ?_
  refine VS.sgetR 0 dX0_noteDigging_32 uw_X0 rfl (by decide) 12 (rfl) rfl (by decide) fl_X0_37 rfl ?_
  refine VS.salen (v := 150) .int dX0_noteDigging_35 (by decide) rfl (fun _ => rfl) rfl ?_
  refine VS.icmp_ge 59 dX0_noteDigging_36 (by decide) (fun hh => absurd hh (nI_ge (b := 150) hd2 (by decide))) (fun _ => ?_)
  refine VS.aload_n dX0_noteDigging_39 rfl ?_
  refine VS.sgetR 0 dX0_noteDigging_40 uw_X0 rfl (by decide) 12 (rfl) rfl (by decide) fl_X0_37 rfl ?_
  refine VS.aload_n dX0_noteDigging_43 rfl ?_
  refine VS.sgetI 0 dX0_noteDigging_44 uw_X0 rfl (by decide) 13 (rfl) rfl (by decide) fl_X0_70 rfl ?_
  refine VS.val (y := nI d) hd ?_
  refine VS.iload_n dX0_noteDigging_47 rfl ?_
  refine VS.siast (d) dX0_noteDigging_48 (by decide) rfl (rfl) (hd2) (by decide) ?_
  refine VS.aload_n dX0_noteDigging_49 rfl ?_
  refine VS.dup dX0_noteDigging_50 rfl ?_
  refine VS.sgetI 0 dX0_noteDigging_51 uw_X0 rfl (by decide) 13 (rfl) rfl (by decide) fl_X0_70 rfl ?_
  refine VS.val (y := nI d) hd ?_
  refine VS.iconst (1) dX0_noteDigging_54 rfl ?_
  refine VS.iadd dX0_noteDigging_55 ?_
  refine VS.val (y := nI (d + 1)) (nI_p1 d) ?_
  refine VS.sput 0 dX0_noteDigging_56 uw_X0 tyX0 tyX0_ok nmX0 rfl (by decide) 13 (rfl) rfl (by decide) fl_X0_70 rfl rfl (rfl) (rfl) ?_
  exact VS.vret dX0_noteDigging_59 rfl (shk1 rfl)
theorem nd_D4 {S : SS} {t d a : Nat} {c q tl dg : Nat → Int32} {v : Int32} : ndS (D4 S t c q tl dg) d a v = D4 S t (upd c 13 (nI (d + 1))) q (upd tl a v) (upd dg d (nI a)) := by
  unfold ndS; rw [D4_s5, D4_s6, D4_s0]
/-- a digging -/
def gA1 (S : SS) (t : Nat) : Nat → Int32 := upd (upd (S (2 + t)) 0 (S (2 + t) 0 - S 1 2)) 6 (S (2 + t) 6 + 1)
def gDi (S : SS) (a : Nat) : Int32 := distI (S 0 1) (nI a) (S 0 2)
def gC1 (S : SS) (d : Nat) : Nat → Int32 := upd (S 0) 13 (nI (d + 1))
def dgGS (S : SS) (t d a : Nat) : SS := if gDi S a = 0 then D4 S t (upd (upd (gC1 S d) 7 (nI t)) 6 (S 0 6 + 1)) (upd (gA1 S t) 0 (tkI (gA1 S t 0) (S 1 3))) (upd (S 5) a (gDi S a)) (upd (S 6) d (nI a)) else D4 S t (upd (gC1 S d) 6 (S 0 6 + 1)) (gA1 S t) (upd (S 5) a (gDi S a)) (upd (S 6) d (nI a))
set_option maxRecDepth 100000 in
set_option maxHeartbeats 4000000 in
theorem ct_X0_digAt (l : Launch) (S : SS)  {t d a : Nat} (ht : rem3 (S 0 6) = nI t) (h3 : t < 3) (ha : a < 8) (hd : S 0 13 = nI d) (hd2 : d < 150) (hs : stI S = 1) (hm : S 1 2 ≤ S (2 + t) 0) : CtS l yX0_digAt cX0_digAt 4 (some FieldType.int) (rmD 4) [.ref 0, .int (nI a)] 7 shG S (some (.int (gDi S a))) (dgGS S t d a) := by
  refine CtF.of (own := RX0) [some (.ref 0), some (.int (nI a)), none, none] (by decide +kernel) rfl (fun _ => Nat.le_of_ble_eq_true rfl) (fun _ => rfl) ?_
  refine VS.iload_n dX0_digAt_0 rfl ?_
  refine VS.callN (ct_X1_isPlace l _) dX0_digAt_1 mi_X1_isPlace st_X1_isPlace ml_X0_92 (rmOk_D (by decide) (by decide)) (Nat.le_of_ble_eq_true rfl) rfl ?_
  refine VS.if_ne 9 dX0_digAt_4 (by decide) (fun _ => ?_) (fun hh => absurd hh (pc_y ha))
  refine VS.aload_n dX0_digAt_9 rfl ?_
  refine VS.aload_n dX0_digAt_10 rfl ?_
  refine VS.callT (ct_X0_next l _) dX0_digAt_11 mi_X0_next im_X0_next sel_X0_next ml_X0_103 (by decide) rfl rfl (rmOk_D (by decide) (by decide)) (Nat.le_of_ble_eq_true rfl) rfl ?_
  refine VS.val (y := nI t) ht ?_
  refine VS.callT (ct_X0_seat l _ h3) dX0_digAt_14 mi_X0_seat im_X0_seat sel_X0_seat ml_X0_107 (by decide) rfl rfl (rmOk_D (by decide) (by decide)) (Nat.le_of_ble_eq_true rfl) rfl ?_
  refine VS.astore_n dX0_digAt_17 (by decide) rfl ?_
  refine VS.aload_n dX0_digAt_18 rfl ?_
  refine VS.callT (ct_X0_goesOn l _) dX0_digAt_19 mi_X0_goesOn im_X0_goesOn sel_X0_goesOn ml_X0_99 (by decide) rfl rfl (rmOk_D (by decide) (by decide)) (Nat.le_of_ble_eq_true rfl) rfl ?_
  refine VS.if_eq 37 dX0_digAt_22 (by decide) (fun hh => absurd hh (by rw [if_pos hs]; decide)) (fun _ => ?_)
  refine VS.aload_n dX0_digAt_25 rfl ?_
  refine VS.sgetI 3 dX0_digAt_26 uw_X4 rfl (inG_p h3) 0 (shG_p h3) rfl (by decide) fl_X0_150 rfl ?_
  refine VS.aload_n dX0_digAt_29 rfl ?_
  refine VS.iconst (2) dX0_digAt_30 rfl ?_
  refine VS.callT (ct_X0_setting l _ (k := 2) (by decide)) dX0_digAt_31 mi_X0_setting im_X0_setting sel_X0_setting ml_X0_134 (by decide) rfl rfl (rmOk_D (by decide) (by decide)) (Nat.le_of_ble_eq_true rfl) rfl ?_
  refine VS.icmp_ge 40 dX0_digAt_34 (by decide) (fun _ => ?_) (fun hh => absurd (hm) hh)
  refine VS.stt (S2 := D4 S t (S 0) (S (2 + t)) (S 5) (S 6)) (D4_ini S t) ?_
  refine VS.aload_n dX0_digAt_40 rfl ?_
  refine VS.dup dX0_digAt_41 rfl ?_
  refine VS.sgetI 3 dX0_digAt_42 uw_X4 rfl (inG_p h3) 0 (shG_p h3) rfl (by decide) fl_X0_150 rfl ?_
  refine VS.val (y := S (2 + t) 0) (by rw [D4_t h3]) ?_
  refine VS.aload_n dX0_digAt_45 rfl ?_
  refine VS.iconst (2) dX0_digAt_46 rfl ?_
  refine VS.callT (ct_X0_setting l _ (k := 2) (by decide)) dX0_digAt_47 mi_X0_setting im_X0_setting sel_X0_setting ml_X0_134 (by decide) rfl rfl (rmOk_D (by decide) (by decide)) (Nat.le_of_ble_eq_true rfl) rfl ?_
  refine VS.val (y := S 1 2) (by rw [D4_1 h3]) ?_
  refine VS.isub dX0_digAt_50 ?_
  refine VS.sput 3 dX0_digAt_51 uw_X4 tyX4 tyX4_ok nmX4 rfl (inG_p h3) 0 (shG_p h3) rfl (by decide) fl_X0_150 rfl rfl (rfl) (rfl) ?_
  refine VS.stt (S2 := D4 S t (S 0) (upd (S (2 + t)) 0 (S (2 + t) 0 - S 1 2)) (S 5) (S 6)) (D4_st h3) ?_
  refine VS.aload_n dX0_digAt_54 rfl ?_
  refine VS.dup dX0_digAt_55 rfl ?_
  refine VS.sgetI 3 dX0_digAt_56 uw_X4 rfl (inG_p h3) 6 (shG_p h3) rfl (by decide) fl_X0_153 rfl ?_
  refine VS.val (y := S (2 + t) 6) (by rw [D4_t h3]; rfl) ?_
  refine VS.iconst (1) dX0_digAt_59 rfl ?_
  refine VS.iadd dX0_digAt_60 ?_
  refine VS.sput 3 dX0_digAt_61 uw_X4 tyX4 tyX4_ok nmX4 rfl (inG_p h3) 6 (shG_p h3) rfl (by decide) fl_X0_153 rfl rfl (rfl) (rfl) ?_
  refine VS.stt (S2 := D4 S t (S 0) (gA1 S t) (S 5) (S 6)) (D4_st h3) ?_
  refine VS.aload_n dX0_digAt_64 rfl ?_
  refine VS.sgetI 0 dX0_digAt_65 uw_X0 rfl (by decide) 1 (rfl) rfl (by decide) fl_X0_47 rfl ?_
  refine VS.val (y := S 0 1) (by rw [D4_0]) ?_
  refine VS.iload_n dX0_digAt_68 rfl ?_
  refine VS.aload_n dX0_digAt_69 rfl ?_
  refine VS.sgetI 0 dX0_digAt_70 uw_X0 rfl (by decide) 2 (rfl) rfl (by decide) fl_X0_50 rfl ?_
  refine VS.val (y := S 0 2) (by rw [D4_0]) ?_
  refine VS.callN (ct_X1_distance l _ _ _) dX0_digAt_73 mi_X1_distance st_X1_distance ml_X0_156 (rmOk_D (by decide) (by decide)) (Nat.le_of_ble_eq_true rfl) rfl ?_
  refine VS.val (y := gDi S a) rfl ?_
  refine VS.istore_n dX0_digAt_76 (by decide) rfl ?_
  refine VS.aload_n dX0_digAt_77 rfl ?_
  refine VS.iload_n dX0_digAt_78 rfl ?_
  refine VS.iload_n dX0_digAt_79 rfl ?_
  refine VS.callT (ct_X0_noteDigging l _ _ ha (by rw [D4_0]; exact hd) hd2) dX0_digAt_80 mi_X0_noteDigging im_X0_noteDigging sel_X0_noteDigging ml_X0_160 (by decide) rfl rfl (rmOk_D (by decide) (by decide)) (Nat.le_of_ble_eq_true rfl) rfl ?_
  refine VS.stt (S2 := D4 S t (gC1 S d) (gA1 S t) (upd (S 5) a (gDi S a)) (upd (S 6) d (nI a))) (nd_D4) ?_
  refine VS.iload_n dX0_digAt_83 rfl ?_
  refine VS.if_ne 104 dX0_digAt_84 (by decide) (fun h_84 => ?_) (fun h_84 => ?_)
  · refine VS.aload_n dX0_digAt_104 rfl ?_
    refine VS.dup dX0_digAt_105 rfl ?_
    refine VS.sgetI 0 dX0_digAt_106 uw_X0 rfl (by decide) 6 (rfl) rfl (by decide) fl_X0_63 rfl ?_
    refine VS.val (y := S 0 6) (by rw [D4_0]; rfl) ?_
    refine VS.iconst (1) dX0_digAt_109 rfl ?_
    refine VS.iadd dX0_digAt_110 ?_
    refine VS.sput 0 dX0_digAt_111 uw_X0 tyX0 tyX0_ok nmX0 rfl (by decide) 6 (rfl) rfl (by decide) fl_X0_63 rfl rfl (rfl) (rfl) ?_
    refine VS.stt (S2 := D4 S t (upd (gC1 S d) 6 (S 0 6 + 1)) (gA1 S t) (upd (S 5) a (gDi S a)) (upd (S 6) d (nI a))) (D4_s0) ?_
    refine VS.iload_n dX0_digAt_114 rfl ?_
    exact VS.iret dX0_digAt_115 (rfl) (shk1 (by unfold dgGS; first | rw [if_neg h_84] | rw [if_pos h_84]))
  · refine VS.aload_n dX0_digAt_87 rfl ?_
    refine VS.aload_n dX0_digAt_88 rfl ?_
    refine VS.callT (ct_X0_next l _) dX0_digAt_89 mi_X0_next im_X0_next sel_X0_next ml_X0_103 (by decide) rfl rfl (rmOk_D (by decide) (by decide)) (Nat.le_of_ble_eq_true rfl) rfl ?_
    refine VS.val (y := nI t) (by rw [D4_0]; exact ht) ?_
    refine VS.sput 0 dX0_digAt_92 uw_X0 tyX0 tyX0_ok nmX0 rfl (by decide) 7 (rfl) rfl (by decide) fl_X0_15 rfl rfl (rfl) (rfl) ?_
    refine VS.stt (S2 := D4 S t (upd (gC1 S d) 7 (nI t)) (gA1 S t) (upd (S 5) a (gDi S a)) (upd (S 6) d (nI a))) (D4_s0) ?_
    refine VS.aload_n dX0_digAt_95 rfl ?_
    refine VS.aload_n dX0_digAt_96 rfl ?_
    refine VS.iconst (3) dX0_digAt_97 rfl ?_
    refine VS.callT (ct_X0_setting l _ (k := 3) (by decide)) dX0_digAt_98 mi_X0_setting im_X0_setting sel_X0_setting ml_X0_134 (by decide) rfl rfl (rmOk_D (by decide) (by decide)) (Nat.le_of_ble_eq_true rfl) rfl ?_
    refine VS.val (y := S 1 3) (by rw [D4_1 h3]) ?_
    refine VS.callR (fun _ => 2 + t) (shi_p h3) (ct_X4_take l _ _) dX0_digAt_101 mi_X4_take im_X4_take sel_X4_take ml_X0_164 (by decide) rfl rfl (rmOk_D (by decide) (by decide)) (Nat.le_of_ble_eq_true rfl) rfl ?_
    refine VS.stt (S2 := D4 S t (upd (gC1 S d) 7 (nI t)) (upd (gA1 S t) 0 (tkI (gA1 S t 0) (S 1 3))) (upd (S 5) a (gDi S a)) (upd (S 6) d (nI a))) ((mg_one _ _ _).trans (by unfold up2; rw [upC_at, D4_ut h3, D4_t h3])) ?_
    refine VS.aload_n dX0_digAt_104 rfl ?_
    refine VS.dup dX0_digAt_105 rfl ?_
    refine VS.sgetI 0 dX0_digAt_106 uw_X0 rfl (by decide) 6 (rfl) rfl (by decide) fl_X0_63 rfl ?_
    refine VS.val (y := S 0 6) (by rw [D4_0]; rfl) ?_
    refine VS.iconst (1) dX0_digAt_109 rfl ?_
    refine VS.iadd dX0_digAt_110 ?_
    refine VS.sput 0 dX0_digAt_111 uw_X0 tyX0 tyX0_ok nmX0 rfl (by decide) 6 (rfl) rfl (by decide) fl_X0_63 rfl rfl (rfl) (rfl) ?_
    refine VS.stt (S2 := D4 S t (upd (upd (gC1 S d) 7 (nI t)) 6 (S 0 6 + 1)) (upd (gA1 S t) 0 (tkI (gA1 S t 0) (S 1 3))) (upd (S 5) a (gDi S a)) (upd (S 6) d (nI a))) (D4_s0) ?_
    refine VS.iload_n dX0_digAt_114 rfl ?_
    exact VS.iret dX0_digAt_115 (rfl) (shk1 (by unfold dgGS; first | rw [if_neg h_84] | rw [if_pos h_84]))
set_option maxRecDepth 100000 in
set_option maxHeartbeats 4000000 in
theorem ct_X0_digAt_n1 (l : Launch) (S : SS) (a : Int32) (ha : ¬ (0 ≤ a ∧ a < 8)) : CtS l yX0_digAt cX0_digAt 4 (some FieldType.int) (rmD 4) [.ref 0, .int a] 7 shG S (some (.int (-1))) (S) := by
  refine CtF.of (own := RX0) [some (.ref 0), some (.int a), none, none] (by decide +kernel) rfl (fun _ => Nat.le_of_ble_eq_true rfl) (fun _ => rfl) ?_
  refine VS.iload_n dX0_digAt_0 rfl ?_
  refine VS.callN (ct_X1_isPlace l _) dX0_digAt_1 mi_X1_isPlace st_X1_isPlace ml_X0_92 (rmOk_D (by decide) (by decide)) (Nat.le_of_ble_eq_true rfl) rfl ?_
  refine VS.if_ne 9 dX0_digAt_4 (by decide) (fun hh => absurd (if_neg ha) hh) (fun _ => ?_)
  refine VS.iconst (-1) dX0_digAt_7 rfl ?_
  exact VS.iret dX0_digAt_8 (rfl) (fun _ _ => rfl)
set_option maxRecDepth 100000 in
set_option maxHeartbeats 4000000 in
theorem ct_X0_digAt_n2 (l : Launch) (S : SS) (a : Int32) {t : Nat} (ht : rem3 (S 0 6) = nI t) (h3 : t < 3) (ha : 0 ≤ a ∧ a < 8) (hn : ¬ (stI S = 1 ∧ S 1 2 ≤ S (2 + t) 0)) : CtS l yX0_digAt cX0_digAt 4 (some FieldType.int) (rmD 4) [.ref 0, .int a] 7 shG S (some (.int (-5))) (S) := by
  refine CtF.of (own := RX0) [some (.ref 0), some (.int a), none, none] (by decide +kernel) rfl (fun _ => Nat.le_of_ble_eq_true rfl) (fun _ => rfl) ?_
  refine VS.iload_n dX0_digAt_0 rfl ?_
  refine VS.callN (ct_X1_isPlace l _) dX0_digAt_1 mi_X1_isPlace st_X1_isPlace ml_X0_92 (rmOk_D (by decide) (by decide)) (Nat.le_of_ble_eq_true rfl) rfl ?_
  refine VS.if_ne 9 dX0_digAt_4 (by decide) (fun _ => ?_) (fun hh => absurd hh (by rw [if_pos ha]; decide))
  refine VS.aload_n dX0_digAt_9 rfl ?_
  refine VS.aload_n dX0_digAt_10 rfl ?_
  refine VS.callT (ct_X0_next l _) dX0_digAt_11 mi_X0_next im_X0_next sel_X0_next ml_X0_103 (by decide) rfl rfl (rmOk_D (by decide) (by decide)) (Nat.le_of_ble_eq_true rfl) rfl ?_
  refine VS.val (y := nI t) ht ?_
  refine VS.callT (ct_X0_seat l _ h3) dX0_digAt_14 mi_X0_seat im_X0_seat sel_X0_seat ml_X0_107 (by decide) rfl rfl (rmOk_D (by decide) (by decide)) (Nat.le_of_ble_eq_true rfl) rfl ?_
  refine VS.astore_n dX0_digAt_17 (by decide) rfl ?_
  refine VS.aload_n dX0_digAt_18 rfl ?_
  refine VS.callT (ct_X0_goesOn l _) dX0_digAt_19 mi_X0_goesOn im_X0_goesOn sel_X0_goesOn ml_X0_99 (by decide) rfl rfl (rmOk_D (by decide) (by decide)) (Nat.le_of_ble_eq_true rfl) rfl ?_
  refine VS.if_eq 37 dX0_digAt_22 (by decide) (fun h_22 => ?_) (fun h_22 => ?_)
  · refine VS.bipush (-5) dX0_digAt_37 rfl ?_
    exact VS.iret dX0_digAt_39 (rfl) (fun _ _ => rfl)
  · refine VS.aload_n dX0_digAt_25 rfl ?_
    refine VS.sgetI 3 dX0_digAt_26 uw_X4 rfl (inG_p h3) 0 (shG_p h3) rfl (by decide) fl_X0_150 rfl ?_
    refine VS.aload_n dX0_digAt_29 rfl ?_
    refine VS.iconst (2) dX0_digAt_30 rfl ?_
    refine VS.callT (ct_X0_setting l _ (k := 2) (by decide)) dX0_digAt_31 mi_X0_setting im_X0_setting sel_X0_setting ml_X0_134 (by decide) rfl rfl (rmOk_D (by decide) (by decide)) (Nat.le_of_ble_eq_true rfl) rfl ?_
    refine VS.icmp_ge 40 dX0_digAt_34 (by decide) (fun hh => absurd hh (fun z => hn ⟨ite11 h_22, z⟩)) (fun _ => ?_)
    refine VS.bipush (-5) dX0_digAt_37 rfl ?_
    exact VS.iret dX0_digAt_39 (rfl) (fun _ _ => rfl)
/-- two games: 0 .. 6 and 7 .. 13 -/
def shGG (k : Nat) : Shp := if k < 7 then shG k else shR (fun i => 7 + i) (shG (k - 7))
def beS (S : SS) : SS := fun c => if c < 7 then S (7 + c) else S c
section
variable {l : Launch} {R : Room} {own : String} {cc : ByteArray} {nL : Nat} {X : XT} {cl sl n : Nat} {pc : Nat} {L : List (Option Value)} {st stk : List Value} {sh sh1 : Nat → Shp} {S S2 : SS} {y : MethodName} {cc1 : ByteArray} {nL1 n1 index : Nat} {ret1 : Option FieldType} {rm1 : Room} {as : List Value} {r : Option Value}
theorem VS.callRN (ρ : Nat → Nat) (host : String) (hI : ShI ρ n1 sh1 n sh) (hC : CtS l y cc1 nL1 ret1 rm1 as n1 sh1 (fun i => S (ρ i)) r S2) (d : decode cc pc = .ok (.invokestatic index, 3)) (hm : MI y cc1 nL1 ret1 as.length) (hst : Cond.static y ∈ TB) (hml : Cond.methodLinkNest own index y host ∈ nestW) (hR : RmOk rm1 nL1 R cl sl) (hst8 : (st.map fun v => v.category).sum ≤ 8) (hk : stk = (as.map (cV ρ)).reverse ++ st)
    (kk : VS l R own cc nL X cl sl n (shW sh (mg ρ n1 S2 S)) (pc + 3) L ((r.map (cV ρ)).toList ++ st)) : VS l R own cc nL X cl sl n (shW sh S) pc L stk :=
  VS.callSN ρ host hC d (hI.toFrm S) hm hst hml hR hst8 hk (VS.heap (fun k _ => hI.out S S2 k) kk)
end
/-- behind a copy of a row: the row that was read is as it was -/
theorem be_cp (S : SS) (a b : Nat) (f : Nat → Int32) : upC (upC S a (S a)) b f = upC S b f := by rw [upC_id]
theorem be_pl (S : SS) (a b : Nat) {f : Nat → Int32} (hf : f = S a) : upC (upC S b f) a (S a) = upC S b f := by
  by_cases h : a = b
  · subst h; rw [hf, upC_upC]
  · have e : upC (upC S b f) a (S a) = upC (upC S a (S a)) b f := upC_comm _ _ _ (Ne.symm h)
    rw [e, upC_id]
theorem be_fin {S : SS} : ∀ k, k < 14 → ∀ j, cnS (shGG k) j → (up2 (upC (upC (upC (upC (upC (upC (upC S 1 (putR (S 1) (S 8) 0 4)) 0 (upd (upd (upd (upd (upd (upd (upd (S 0) 1 (S 7 1)) 2 (S 7 2)) 3 (S 7 3)) 4 (S 7 4)) 5 (S 7 5)) 6 (S 7 6)) 7 (S 7 7))) 2 (S 9)) 3 (S 10)) 4 (S 11)) 5 (putR (S 5) (S 12) 0 8)) 6 (putR (S 6) (S 13) 0 150)) 0 13 (S 7 13)) k j = beS S k j := by
  intro k hk j hj
  rcases (show k = 0 ∨ k = 1 ∨ k = 2 ∨ k = 3 ∨ k = 4 ∨ k = 5 ∨ k = 6 ∨ 7 ≤ k by omega) with rfl | rfl | rfl | rfl | rfl | rfl | rfl | h
  · have hl : j < 14 := by have := (List.getElem?_eq_some_iff.mp (show _ = some none from hj)).1; simpa using this
    have hd : ∀ i : Fin 14, ([some 1, none, none, none, none, none, none, none, some 2, some 3, some 4, some 5, some 6, none] : List (Option Nat))[i.1]? = some none → i.1 = 1 ∨ i.1 = 2 ∨ i.1 = 3 ∨ i.1 = 4 ∨ i.1 = 5 ∨ i.1 = 6 ∨ i.1 = 7 ∨ i.1 = 13 := by decide
    rcases hd ⟨j, hl⟩ hj with h | h | h | h | h | h | h | h <;> (dsimp only at h; subst h; rfl)
  · exact putR_in (Nat.zero_le _) (by simpa [shGG, shG, cnS] using hj)
  · rfl
  · rfl
  · rfl
  · exact putR_in (Nat.zero_le _) (by simpa [shGG, shG, cnS] using hj)
  · exact putR_in (Nat.zero_le _) (by simpa [shGG, shG, cnS] using hj)
  · unfold beS up2
    rw [if_neg (by omega), upC_ne (by omega), upC_ne (by omega), upC_ne (by omega), upC_ne (by omega), upC_ne (by omega), upC_ne (by omega), upC_ne (by omega), upC_ne (by omega)]
set_option maxRecDepth 100000 in
set_option maxHeartbeats 4000000 in
theorem ct_X0_become (l : Launch) (S : SS)  (hb : S 7 3 = 0 ∨ S 7 3 = 1) : CtS l yX0_become cX0_become 2 none (rmD 2) [.ref 0, .ref 7] 14 shGG S (none) (beS S) := by
  refine CtF.of (own := RX0) [some (.ref 0), some (.ref 7)] (by decide +kernel) rfl (fun _ => Nat.le_of_ble_eq_true rfl) (fun _ => rfl) ?_
  refine VS.aload_n dX0_become_0 rfl ?_
  refine VS.sgetR 0 dX0_become_1 uw_X0 rfl (by decide) 0 (rfl) rfl (by decide) fl_X0_9 rfl ?_
  refine VS.aload_n dX0_become_4 rfl ?_
  refine VS.sgetR 0 dX0_become_5 uw_X0 rfl (by decide) 0 (rfl) rfl (by decide) fl_X0_9 rfl ?_
  refine VS.callRN (two2 8 1) RX6 (shi_two (by decide) (by decide) (by decide) rfl rfl) (ct_X6_copyRow l _ (N := 4) (by decide)) dX0_become_8 mi_X6_copyRow st_X6_copyRow (by decide) (rmOk_D (by decide) (by decide)) (Nat.le_of_ble_eq_true rfl) rfl ?_
  refine VS.stt (S2 := upC S 1 (putR (S 1) (S 8) 0 4)) ((mg_two (by decide) _ _).trans (be_cp S 8 1 (putR (S 1) (S 8) 0 4))) ?_
  refine VS.aload_n dX0_become_11 rfl ?_
  refine VS.aload_n dX0_become_12 rfl ?_
  refine VS.sgetI 0 dX0_become_13 uw_X0 rfl (by decide) 1 (rfl) rfl (by decide) fl_X0_47 rfl ?_
  refine VS.val (y := S 7 1) rfl ?_
  refine VS.sput 0 dX0_become_16 uw_X0 tyX0 tyX0_ok nmX0 rfl (by decide) 1 (rfl) rfl (by decide) fl_X0_47 rfl rfl (rfl) (rfl) ?_
  refine VS.stt (S2 := upC (upC S 1 (putR (S 1) (S 8) 0 4)) 0 (upd (S 0) 1 (S 7 1))) (rfl) ?_
  refine VS.aload_n dX0_become_19 rfl ?_
  refine VS.aload_n dX0_become_20 rfl ?_
  refine VS.sgetI 0 dX0_become_21 uw_X0 rfl (by decide) 2 (rfl) rfl (by decide) fl_X0_50 rfl ?_
  refine VS.val (y := S 7 2) rfl ?_
  refine VS.sput 0 dX0_become_24 uw_X0 tyX0 tyX0_ok nmX0 rfl (by decide) 2 (rfl) rfl (by decide) fl_X0_50 rfl rfl (rfl) (rfl) ?_
  refine VS.stt (S2 := upC (upC S 1 (putR (S 1) (S 8) 0 4)) 0 (upd (upd (S 0) 1 (S 7 1)) 2 (S 7 2))) (by unfold up2; rw [upC_upC, upC_at]) ?_
  refine VS.aload_n dX0_become_27 rfl ?_
  refine VS.aload_n dX0_become_28 rfl ?_
  refine VS.sgetI 0 dX0_become_29 uw_X0 rfl (by decide) 3 (rfl) rfl (by decide) fl_X0_53 rfl ?_
  refine VS.val (y := S 7 3) rfl ?_
  refine VS.sput 0 dX0_become_32 uw_X0 tyX0 tyX0_ok nmX0 rfl (by decide) 3 (rfl) rfl (by decide) fl_X0_53 rfl rfl (by rcases hb with h | h <;> (show narrow .boolean (.int (S 7 3)) = _) <;> rw [h] <;> rfl) (by rcases hb with h | h <;> (show fits .boolean (.int (S 7 3)) = _) <;> rw [h] <;> rfl) ?_
  refine VS.stt (S2 := upC (upC S 1 (putR (S 1) (S 8) 0 4)) 0 (upd (upd (upd (S 0) 1 (S 7 1)) 2 (S 7 2)) 3 (S 7 3))) (by unfold up2; rw [upC_upC, upC_at]) ?_
  refine VS.aload_n dX0_become_35 rfl ?_
  refine VS.aload_n dX0_become_36 rfl ?_
  refine VS.sgetI 0 dX0_become_37 uw_X0 rfl (by decide) 4 (rfl) rfl (by decide) fl_X0_57 rfl ?_
  refine VS.val (y := S 7 4) rfl ?_
  refine VS.sput 0 dX0_become_40 uw_X0 tyX0 tyX0_ok nmX0 rfl (by decide) 4 (rfl) rfl (by decide) fl_X0_57 rfl rfl (rfl) (rfl) ?_
  refine VS.stt (S2 := upC (upC S 1 (putR (S 1) (S 8) 0 4)) 0 (upd (upd (upd (upd (S 0) 1 (S 7 1)) 2 (S 7 2)) 3 (S 7 3)) 4 (S 7 4))) (by unfold up2; rw [upC_upC, upC_at]) ?_
  refine VS.aload_n dX0_become_43 rfl ?_
  refine VS.aload_n dX0_become_44 rfl ?_
  refine VS.sgetI 0 dX0_become_45 uw_X0 rfl (by decide) 5 (rfl) rfl (by decide) fl_X0_60 rfl ?_
  refine VS.val (y := S 7 5) rfl ?_
  refine VS.sput 0 dX0_become_48 uw_X0 tyX0 tyX0_ok nmX0 rfl (by decide) 5 (rfl) rfl (by decide) fl_X0_60 rfl rfl (rfl) (rfl) ?_
  refine VS.stt (S2 := upC (upC S 1 (putR (S 1) (S 8) 0 4)) 0 (upd (upd (upd (upd (upd (S 0) 1 (S 7 1)) 2 (S 7 2)) 3 (S 7 3)) 4 (S 7 4)) 5 (S 7 5))) (by unfold up2; rw [upC_upC, upC_at]) ?_
  refine VS.aload_n dX0_become_51 rfl ?_
  refine VS.aload_n dX0_become_52 rfl ?_
  refine VS.sgetI 0 dX0_become_53 uw_X0 rfl (by decide) 6 (rfl) rfl (by decide) fl_X0_63 rfl ?_
  refine VS.val (y := S 7 6) rfl ?_
  refine VS.sput 0 dX0_become_56 uw_X0 tyX0 tyX0_ok nmX0 rfl (by decide) 6 (rfl) rfl (by decide) fl_X0_63 rfl rfl (rfl) (rfl) ?_
  refine VS.stt (S2 := upC (upC S 1 (putR (S 1) (S 8) 0 4)) 0 (upd (upd (upd (upd (upd (upd (S 0) 1 (S 7 1)) 2 (S 7 2)) 3 (S 7 3)) 4 (S 7 4)) 5 (S 7 5)) 6 (S 7 6))) (by unfold up2; rw [upC_upC, upC_at]) ?_
  refine VS.aload_n dX0_become_59 rfl ?_
  refine VS.aload_n dX0_become_60 rfl ?_
  refine VS.sgetI 0 dX0_become_61 uw_X0 rfl (by decide) 7 (rfl) rfl (by decide) fl_X0_15 rfl ?_
  refine VS.val (y := S 7 7) rfl ?_
  refine VS.sput 0 dX0_become_64 uw_X0 tyX0 tyX0_ok nmX0 rfl (by decide) 7 (rfl) rfl (by decide) fl_X0_15 rfl rfl (rfl) (rfl) ?_
  refine VS.stt (S2 := upC (upC S 1 (putR (S 1) (S 8) 0 4)) 0 (upd (upd (upd (upd (upd (upd (upd (S 0) 1 (S 7 1)) 2 (S 7 2)) 3 (S 7 3)) 4 (S 7 4)) 5 (S 7 5)) 6 (S 7 6)) 7 (S 7 7))) (by unfold up2; rw [upC_upC, upC_at]) ?_
  refine VS.aload_n dX0_become_67 rfl ?_
  refine VS.sgetR 0 dX0_become_68 uw_X0 rfl (by decide) 8 (rfl) rfl (by decide) fl_X0_22 rfl ?_
  refine VS.aload_n dX0_become_71 rfl ?_
  refine VS.sgetR 0 dX0_become_72 uw_X0 rfl (by decide) 8 (rfl) rfl (by decide) fl_X0_22 rfl ?_
  refine VS.callR (two2 2 9) (shi_two (by decide) (by decide) (by decide) rfl rfl) (ct_X4_become l _) dX0_become_75 mi_X4_become im_X4_become sel_X4_become ml_X0_66 (by decide) rfl rfl (rmOk_D (by decide) (by decide)) (Nat.le_of_ble_eq_true rfl) rfl ?_
  refine VS.stt (S2 := upC (upC (upC S 1 (putR (S 1) (S 8) 0 4)) 0 (upd (upd (upd (upd (upd (upd (upd (S 0) 1 (S 7 1)) 2 (S 7 2)) 3 (S 7 3)) 4 (S 7 4)) 5 (S 7 5)) 6 (S 7 6)) 7 (S 7 7))) 2 (S 9)) ((mg_two (by decide) _ _).trans (be_pl _ 9 2 rfl)) ?_
  refine VS.aload_n dX0_become_78 rfl ?_
  refine VS.sgetR 0 dX0_become_79 uw_X0 rfl (by decide) 9 (rfl) rfl (by decide) fl_X0_26 rfl ?_
  refine VS.aload_n dX0_become_82 rfl ?_
  refine VS.sgetR 0 dX0_become_83 uw_X0 rfl (by decide) 9 (rfl) rfl (by decide) fl_X0_26 rfl ?_
  refine VS.callR (two2 3 10) (shi_two (by decide) (by decide) (by decide) rfl rfl) (ct_X4_become l _) dX0_become_86 mi_X4_become im_X4_become sel_X4_become ml_X0_66 (by decide) rfl rfl (rmOk_D (by decide) (by decide)) (Nat.le_of_ble_eq_true rfl) rfl ?_
  refine VS.stt (S2 := upC (upC (upC (upC S 1 (putR (S 1) (S 8) 0 4)) 0 (upd (upd (upd (upd (upd (upd (upd (S 0) 1 (S 7 1)) 2 (S 7 2)) 3 (S 7 3)) 4 (S 7 4)) 5 (S 7 5)) 6 (S 7 6)) 7 (S 7 7))) 2 (S 9)) 3 (S 10)) ((mg_two (by decide) _ _).trans (be_pl _ 10 3 rfl)) ?_
  refine VS.aload_n dX0_become_89 rfl ?_
  refine VS.sgetR 0 dX0_become_90 uw_X0 rfl (by decide) 10 (rfl) rfl (by decide) fl_X0_29 rfl ?_
  refine VS.aload_n dX0_become_93 rfl ?_
  refine VS.sgetR 0 dX0_become_94 uw_X0 rfl (by decide) 10 (rfl) rfl (by decide) fl_X0_29 rfl ?_
  refine VS.callR (two2 4 11) (shi_two (by decide) (by decide) (by decide) rfl rfl) (ct_X4_become l _) dX0_become_97 mi_X4_become im_X4_become sel_X4_become ml_X0_66 (by decide) rfl rfl (rmOk_D (by decide) (by decide)) (Nat.le_of_ble_eq_true rfl) rfl ?_
  refine VS.stt (S2 := upC (upC (upC (upC (upC S 1 (putR (S 1) (S 8) 0 4)) 0 (upd (upd (upd (upd (upd (upd (upd (S 0) 1 (S 7 1)) 2 (S 7 2)) 3 (S 7 3)) 4 (S 7 4)) 5 (S 7 5)) 6 (S 7 6)) 7 (S 7 7))) 2 (S 9)) 3 (S 10)) 4 (S 11)) ((mg_two (by decide) _ _).trans (be_pl _ 11 4 rfl)) ?_
  refine VS.aload_n dX0_become_100 rfl ?_
  refine VS.sgetR 0 dX0_become_101 uw_X0 rfl (by decide) 11 (rfl) rfl (by decide) fl_X0_34 rfl ?_
  refine VS.aload_n dX0_become_104 rfl ?_
  refine VS.sgetR 0 dX0_become_105 uw_X0 rfl (by decide) 11 (rfl) rfl (by decide) fl_X0_34 rfl ?_
  refine VS.callRN (two2 12 5) RX6 (shi_two (by decide) (by decide) (by decide) rfl rfl) (ct_X6_copyRow l _ (N := 8) (by decide)) dX0_become_108 mi_X6_copyRow st_X6_copyRow (by decide) (rmOk_D (by decide) (by decide)) (Nat.le_of_ble_eq_true rfl) rfl ?_
  refine VS.stt (S2 := upC (upC (upC (upC (upC (upC S 1 (putR (S 1) (S 8) 0 4)) 0 (upd (upd (upd (upd (upd (upd (upd (S 0) 1 (S 7 1)) 2 (S 7 2)) 3 (S 7 3)) 4 (S 7 4)) 5 (S 7 5)) 6 (S 7 6)) 7 (S 7 7))) 2 (S 9)) 3 (S 10)) 4 (S 11)) 5 (putR (S 5) (S 12) 0 8)) ((mg_two (by decide) _ _).trans (be_cp _ 12 5 (putR (S 5) (S 12) 0 8))) ?_
  refine VS.aload_n dX0_become_111 rfl ?_
  refine VS.sgetR 0 dX0_become_112 uw_X0 rfl (by decide) 12 (rfl) rfl (by decide) fl_X0_37 rfl ?_
  refine VS.aload_n dX0_become_115 rfl ?_
  refine VS.sgetR 0 dX0_become_116 uw_X0 rfl (by decide) 12 (rfl) rfl (by decide) fl_X0_37 rfl ?_
  refine VS.callRN (two2 13 6) RX6 (shi_two (by decide) (by decide) (by decide) rfl rfl) (ct_X6_copyRow l _ (N := 150) (by decide)) dX0_become_119 mi_X6_copyRow st_X6_copyRow (by decide) (rmOk_D (by decide) (by decide)) (Nat.le_of_ble_eq_true rfl) rfl ?_
  refine VS.stt (S2 := upC (upC (upC (upC (upC (upC (upC S 1 (putR (S 1) (S 8) 0 4)) 0 (upd (upd (upd (upd (upd (upd (upd (S 0) 1 (S 7 1)) 2 (S 7 2)) 3 (S 7 3)) 4 (S 7 4)) 5 (S 7 5)) 6 (S 7 6)) 7 (S 7 7))) 2 (S 9)) 3 (S 10)) 4 (S 11)) 5 (putR (S 5) (S 12) 0 8)) 6 (putR (S 6) (S 13) 0 150)) ((mg_two (by decide) _ _).trans (be_cp _ 13 6 (putR (S 6) (S 13) 0 150))) ?_
  refine VS.aload_n dX0_become_122 rfl ?_
  refine VS.aload_n dX0_become_123 rfl ?_
  refine VS.sgetI 0 dX0_become_124 uw_X0 rfl (by decide) 13 (rfl) rfl (by decide) fl_X0_70 rfl ?_
  refine VS.val (y := S 7 13) rfl ?_
  refine VS.sput 0 dX0_become_127 uw_X0 tyX0 tyX0_ok nmX0 rfl (by decide) 13 (rfl) rfl (by decide) fl_X0_70 rfl rfl (rfl) (rfl) ?_
  refine VS.ext (S2 := beS S) be_fin ?_
  exact VS.vret dX0_become_130 rfl (fun _ _ => rfl)
