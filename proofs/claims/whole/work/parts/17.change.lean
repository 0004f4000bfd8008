/-! the reference: its changes -/
def lieI (s : Nat → Int32) (p : Nat) (b : Int32) : Int32 := if (s (11 + p) &&& b = 0) ↔ (s 0 &&& b = 0) then 0 else 1
def rC1 (s : Nat → Int32) (t p : Nat) (b : Int32) : Nat → Int32 := upd (rPays s t p (s 2)) 17 (rPays s t p (s 2) 17 ||| b)
def rC2 (s : Nat → Int32) (t p : Nat) (b : Int32) : Nat → Int32 := upd (rC1 s t p b) (21 + t) (rC1 s t p b (21 + t) + 1)
def rC3 (s : Nat → Int32) (t p : Nat) (b : Int32) : Nat → Int32 := rPays (rC2 s t p b) p t (rC2 s t p b 3)
def rC4 (s : Nat → Int32) (t p : Nat) (b : Int32) : Nat → Int32 := upd (rC3 s t p b) (18 + p) (rC3 s t p b (18 + p) + 1)
def rC5 (s : Nat → Int32) (t p : Nat) (b : Int32) : Nat → Int32 := upd (rC4 s t p b) (24 + t) (rC4 s t p b (24 + t) + 1)
def rChecks (s : Nat → Int32) (t p : Nat) (b : Int32) : Nat → Int32 := rEnds (if lieI s p b = 0 then rC2 s t p b else rC5 s t p b)
theorem lieI_0 {s : Nat → Int32} {p : Nat} {b : Int32} (h : (s (11 + p) &&& b = 0) ↔ (s 0 &&& b = 0)) : 0 = lieI s p b := (if_pos h).symm
theorem lieI_1 {s : Nat → Int32} {p : Nat} {b : Int32} (h : ¬ ((s (11 + p) &&& b = 0) ↔ (s 0 &&& b = 0))) : 1 = lieI s p b := (if_neg h).symm
theorem lieI_n {s : Nat → Int32} {p : Nat} {b : Int32} (h : ¬ lieI s p b = 0) : lieI s p b = 1 := by
  unfold lieI at *; split
  · rename_i q; rw [if_pos q] at h; exact absurd rfl h
  · rfl
def rD1 (s : Nat → Int32) (t : Nat) : Nat → Int32 := upd s (8 + t) (s (8 + t) - s 4)
def rD2 (s : Nat → Int32) (t : Nat) : Nat → Int32 := upd (rD1 s t) (27 + t) (rD1 s t (27 + t) + 1)
def rD3 (s : Nat → Int32) (t d a : Nat) : Nat → Int32 := upd (rD2 s t) (32 + d) (nI a)
def rD4 (s : Nat → Int32) (t d a : Nat) : Nat → Int32 := upd (rD3 s t d a) 31 (rD3 s t d a 31 + 1)
def rD5 (s : Nat → Int32) (t d a : Nat) : Nat → Int32 := rEnds (rD4 s t d a)
def rD6 (s : Nat → Int32) (t d a : Nat) : Nat → Int32 := rGets (rD5 s t d a) t (rD5 s t d a 5)
def rD7 (s : Nat → Int32) (t d a : Nat) : Nat → Int32 := upd (rD6 s t d a) 30 (nI t)
def rDigs (s : Nat → Int32) (t d a : Nat) (its : Int32) : Nat → Int32 := if its = 0 then upd (rD7 s t d a) 6 2 else rD5 s t d a
theorem rD2_at {s : Nat → Int32} {t k : Nat} (h1 : k ≠ 8 + t) (h2 : k ≠ 27 + t) : rD2 s t k = s k := by
  unfold rD2 rD1; rw [upd_ne h2, upd_ne h1]
theorem rD4_at {s : Nat → Int32} {t d a k : Nat} (h1 : k ≠ 8 + t) (h2 : k ≠ 27 + t) (h3 : k ≠ 32 + d) (h4 : k ≠ 31) : rD4 s t d a k = s k := by
  unfold rD4 rD3; rw [upd_ne h4, upd_ne h3, rD2_at h1 h2]

set_option maxRecDepth 100000 in
set_option maxHeartbeats 4000000 in
theorem ct_X7_checks (l : Launch) (M : SS) (a : Int32) (b : Int32) {t p : Nat} (ht : rem3 (M 1 7) = nI t) (h3 : t < 3) (hp : p < 3) : CtS l yX7_checks cX7_checks 7 (some FieldType.int) (rmD 2) [.ref 0, .int (nI p), .int a, .int b] 7 shM M (some (.int (lieI (M 1) p (bitE a b)))) (upC M 1 (rChecks (M 1) t p (bitE a b))) := by
  refine CtF.of (own := RX7) [some (.ref 0), some (.int (nI p)), some (.int a), some (.int b), none, none, none] (by decide +kernel) rfl (fun _ => Nat.le_of_ble_eq_true rfl) (fun _ => rfl) ?_
  have j62 : VS l (rmD 2) RX7 cX7_checks 7 (XF (some FieldType.int) 7 (some (.int (lieI (M 1) p (bitE a b)))) (shW shM (upC M 1 (rChecks (M 1) t p (bitE a b))))) 0 0 7 (shW shM (M)) 62 [some (.ref 0), some (.int (nI p)), some (.int a), some (.int b), some (.int (bitE a b)), some (.int (nI t)), some (.int (lieI (M 1) p (bitE a b)))] [] := by
    refine VS.aload_n dX7_checks_62 rfl ?_
    refine VS.iload dX7_checks_63 rfl ?_
    refine VS.iload_n dX7_checks_65 rfl ?_
    refine VS.aload_n dX7_checks_66 rfl ?_
    refine VS.sgetR 6 dX7_checks_67 uw_X7 rfl (by decide) 0 rfl rfl (by decide) fl_X7_7 rfl ?_
    refine VS.iconst (2) dX7_checks_70 rfl ?_
    refine VS.siald (2) dX7_checks_71 (by decide) rfl (rfl) (by decide) (by decide) ?_
    refine VS.val (y := M 1 2) rfl ?_
    refine VS.callT (ct_X7_pays l M _ h3 hp) dX7_checks_72 mi_X7_pays im_X7_pays sel_X7_pays ml_X7_111 (by decide) rfl rfl (rmOk_D (by decide) (by decide)) (Nat.le_of_ble_eq_true rfl) rfl ?_
    refine VS.aload_n dX7_checks_75 rfl ?_
    refine VS.sgetR 6 dX7_checks_76 uw_X7 rfl (by decide) 0 rfl rfl (by decide) fl_X7_7 rfl ?_
    refine VS.bipush (17) dX7_checks_79 rfl ?_
    refine VS.dup2 dX7_checks_81 rfl rfl ?_
    refine VS.siald (17) dX7_checks_82 (by decide) rfl (rfl) (by decide) (by decide) ?_
    refine VS.iload dX7_checks_83 rfl ?_
    refine VS.ior dX7_checks_85 ?_
    refine VS.siast (17) dX7_checks_86 (by decide) rfl (rfl) (by decide) (by decide) ?_
    refine VS.stt (S2 := upC M 1 (rC1 (M 1) t p (bitE a b))) (by rw [up2, upC_upC, upC_at]; rfl) ?_
    refine VS.aload_n dX7_checks_87 rfl ?_
    refine VS.sgetR 6 dX7_checks_88 uw_X7 rfl (by decide) 0 rfl rfl (by decide) fl_X7_7 rfl ?_
    refine VS.bipush (21) dX7_checks_91 rfl ?_
    refine VS.iload dX7_checks_93 rfl ?_
    refine VS.iadd dX7_checks_95 ?_
    refine VS.dup2 dX7_checks_96 rfl rfl ?_
    refine VS.siald (21 + t) dX7_checks_97 (by decide) rfl (ix_add) (by omega) (by decide) ?_
    refine VS.iconst (1) dX7_checks_98 rfl ?_
    refine VS.iadd dX7_checks_99 ?_
    refine VS.siast (21 + t) dX7_checks_100 (by decide) rfl (ix_add) (by omega) (by decide) ?_
    refine VS.stt (S2 := upC M 1 (rC2 (M 1) t p (bitE a b))) (by rw [up2, upC_upC, upC_at]; rfl) ?_
    refine VS.iload dX7_checks_101 rfl ?_
    refine VS.if_eq 146 dX7_checks_103 (by decide) (fun h_103 => ?_) (fun h_103 => ?_)
    · refine VS.aload_n dX7_checks_146 rfl ?_
      refine VS.callT (ct_X7_ends l _) dX7_checks_147 mi_X7_ends im_X7_ends sel_X7_ends ml_X7_91 (by decide) rfl rfl (rmOk_D (by decide) (by decide)) (Nat.le_of_ble_eq_true rfl) rfl ?_
      refine VS.iload dX7_checks_150 rfl ?_
      refine VS.if_eq 159 dX7_checks_152 (by decide) (fun _ => ?_) (fun hh => absurd (h_103) hh)
      refine VS.iconst (0) dX7_checks_159 rfl ?_
      exact VS.iret dX7_checks_160 (by first | rw [h_103] | rw [lieI_n h_103]) (shk (by unfold rChecks; rw [upC_upC, upC_at]; first | rw [if_pos h_103] | rw [if_neg h_103]))
    · refine VS.aload_n dX7_checks_106 rfl ?_
      refine VS.iload_n dX7_checks_107 rfl ?_
      refine VS.iload dX7_checks_108 rfl ?_
      refine VS.aload_n dX7_checks_110 rfl ?_
      refine VS.sgetR 6 dX7_checks_111 uw_X7 rfl (by decide) 0 rfl rfl (by decide) fl_X7_7 rfl ?_
      refine VS.iconst (3) dX7_checks_114 rfl ?_
      refine VS.siald (3) dX7_checks_115 (by decide) rfl (rfl) (by decide) (by decide) ?_
      refine VS.val (y := rC2 (M 1) t p (bitE a b) 3) rfl ?_
      refine VS.callT (ct_X7_pays l _ _ hp h3) dX7_checks_116 mi_X7_pays im_X7_pays sel_X7_pays ml_X7_111 (by decide) rfl rfl (rmOk_D (by decide) (by decide)) (Nat.le_of_ble_eq_true rfl) rfl ?_
      refine VS.stt (S2 := upC M 1 (rC3 (M 1) t p (bitE a b))) (by rw [upC_upC, upC_at]; rfl) ?_
      refine VS.aload_n dX7_checks_119 rfl ?_
      refine VS.sgetR 6 dX7_checks_120 uw_X7 rfl (by decide) 0 rfl rfl (by decide) fl_X7_7 rfl ?_
      refine VS.bipush (18) dX7_checks_123 rfl ?_
      refine VS.iload_n dX7_checks_125 rfl ?_
      refine VS.iadd dX7_checks_126 ?_
      refine VS.dup2 dX7_checks_127 rfl rfl ?_
      refine VS.siald (18 + p) dX7_checks_128 (by decide) rfl (ix_add) (by omega) (by decide) ?_
      refine VS.iconst (1) dX7_checks_129 rfl ?_
      refine VS.iadd dX7_checks_130 ?_
      refine VS.siast (18 + p) dX7_checks_131 (by decide) rfl (ix_add) (by omega) (by decide) ?_
      refine VS.stt (S2 := upC M 1 (rC4 (M 1) t p (bitE a b))) (by rw [up2, upC_upC, upC_at]; rfl) ?_
      refine VS.aload_n dX7_checks_132 rfl ?_
      refine VS.sgetR 6 dX7_checks_133 uw_X7 rfl (by decide) 0 rfl rfl (by decide) fl_X7_7 rfl ?_
      refine VS.bipush (24) dX7_checks_136 rfl ?_
      refine VS.iload dX7_checks_138 rfl ?_
      refine VS.iadd dX7_checks_140 ?_
      refine VS.dup2 dX7_checks_141 rfl rfl ?_
      refine VS.siald (24 + t) dX7_checks_142 (by decide) rfl (ix_add) (by omega) (by decide) ?_
      refine VS.iconst (1) dX7_checks_143 rfl ?_
      refine VS.iadd dX7_checks_144 ?_
      refine VS.siast (24 + t) dX7_checks_145 (by decide) rfl (ix_add) (by omega) (by decide) ?_
      refine VS.stt (S2 := upC M 1 (rC5 (M 1) t p (bitE a b))) (by rw [up2, upC_upC, upC_at]; rfl) ?_
      refine VS.aload_n dX7_checks_146 rfl ?_
      refine VS.callT (ct_X7_ends l _) dX7_checks_147 mi_X7_ends im_X7_ends sel_X7_ends ml_X7_91 (by decide) rfl rfl (rmOk_D (by decide) (by decide)) (Nat.le_of_ble_eq_true rfl) rfl ?_
      refine VS.iload dX7_checks_150 rfl ?_
      refine VS.if_eq 159 dX7_checks_152 (by decide) (fun hh => absurd hh (h_103)) (fun _ => ?_)
      refine VS.iconst (1) dX7_checks_155 rfl ?_
      refine VS.goto 160 dX7_checks_156 (by decide) ?_
      exact VS.iret dX7_checks_160 (by first | rw [h_103] | rw [lieI_n h_103]) (shk (by unfold rChecks; rw [upC_upC, upC_at]; first | rw [if_pos h_103] | rw [if_neg h_103]))
  refine VS.iconst (1) dX7_checks_0 rfl ?_
  refine VS.iload_n dX7_checks_1 rfl ?_
  refine VS.iload_n dX7_checks_2 rfl ?_
  refine VS.callN (ct_X7_edge l _ _) dX7_checks_3 mi_X7_edge st_X7_edge ml_X7_37 (rmOk_D (by decide) (by decide)) (Nat.le_of_ble_eq_true rfl) rfl ?_
  refine VS.ishl dX7_checks_6 ?_
  refine VS.val (y := bitE a b) rfl ?_
  refine VS.istore dX7_checks_7 (by decide) rfl ?_
  refine VS.aload_n dX7_checks_9 rfl ?_
  refine VS.callT (ct_X7_turn l _) dX7_checks_10 mi_X7_turn im_X7_turn sel_X7_turn ml_X7_87 (by decide) rfl rfl (rmOk_D (by decide) (by decide)) (Nat.le_of_ble_eq_true rfl) rfl ?_
  refine VS.val (y := nI t) ht ?_
  refine VS.istore dX7_checks_13 (by decide) rfl ?_
  refine VS.aload_n dX7_checks_15 rfl ?_
  refine VS.sgetR 6 dX7_checks_16 uw_X7 rfl (by decide) 0 rfl rfl (by decide) fl_X7_7 rfl ?_
  refine VS.bipush (11) dX7_checks_19 rfl ?_
  refine VS.iload_n dX7_checks_21 rfl ?_
  refine VS.iadd dX7_checks_22 ?_
  refine VS.siald (11 + p) dX7_checks_23 (by decide) rfl (ix_add) (by omega) (by decide) ?_
  refine VS.iload dX7_checks_24 rfl ?_
  refine VS.iand dX7_checks_26 ?_
  refine VS.if_eq 34 dX7_checks_27 (by decide) (fun h_27 => ?_) (fun h_27 => ?_)
  · refine VS.iconst (0) dX7_checks_34 rfl ?_
    refine VS.aload_n dX7_checks_35 rfl ?_
    refine VS.sgetR 6 dX7_checks_36 uw_X7 rfl (by decide) 0 rfl rfl (by decide) fl_X7_7 rfl ?_
    refine VS.iconst (0) dX7_checks_39 rfl ?_
    refine VS.siald (0) dX7_checks_40 (by decide) rfl (rfl) (by decide) (by decide) ?_
    refine VS.iload dX7_checks_41 rfl ?_
    refine VS.iand dX7_checks_43 ?_
    refine VS.if_eq 51 dX7_checks_44 (by decide) (fun h_44 => ?_) (fun h_44 => ?_)
    · refine VS.iconst (0) dX7_checks_51 rfl ?_
      refine VS.icmp_eq 59 dX7_checks_52 (by decide) (fun _ => ?_) (fun hh => absurd (rfl) hh)
      refine VS.iconst (0) dX7_checks_59 rfl ?_
      refine VS.val (y := lieI (M 1) p (bitE a b)) (lieI_0 ⟨fun _ => h_44, fun _ => h_27⟩) ?_
      refine VS.istore dX7_checks_60 (by decide) rfl ?_
      exact j62
    · refine VS.iconst (1) dX7_checks_47 rfl ?_
      refine VS.goto 52 dX7_checks_48 (by decide) ?_
      refine VS.icmp_eq 59 dX7_checks_52 (by decide) (fun hh => absurd hh (by decide)) (fun _ => ?_)
      refine VS.iconst (1) dX7_checks_55 rfl ?_
      refine VS.goto 60 dX7_checks_56 (by decide) ?_
      refine VS.val (y := lieI (M 1) p (bitE a b)) (lieI_1 (fun q => h_44 (q.mp h_27))) ?_
      refine VS.istore dX7_checks_60 (by decide) rfl ?_
      exact j62
  · refine VS.iconst (1) dX7_checks_30 rfl ?_
    refine VS.goto 35 dX7_checks_31 (by decide) ?_
    refine VS.aload_n dX7_checks_35 rfl ?_
    refine VS.sgetR 6 dX7_checks_36 uw_X7 rfl (by decide) 0 rfl rfl (by decide) fl_X7_7 rfl ?_
    refine VS.iconst (0) dX7_checks_39 rfl ?_
    refine VS.siald (0) dX7_checks_40 (by decide) rfl (rfl) (by decide) (by decide) ?_
    refine VS.iload dX7_checks_41 rfl ?_
    refine VS.iand dX7_checks_43 ?_
    refine VS.if_eq 51 dX7_checks_44 (by decide) (fun h_44 => ?_) (fun h_44 => ?_)
    · refine VS.iconst (0) dX7_checks_51 rfl ?_
      refine VS.icmp_eq 59 dX7_checks_52 (by decide) (fun hh => absurd hh (by decide)) (fun _ => ?_)
      refine VS.iconst (1) dX7_checks_55 rfl ?_
      refine VS.goto 60 dX7_checks_56 (by decide) ?_
      refine VS.val (y := lieI (M 1) p (bitE a b)) (lieI_1 (fun q => h_27 (q.mpr h_44))) ?_
      refine VS.istore dX7_checks_60 (by decide) rfl ?_
      exact j62
    · refine VS.iconst (1) dX7_checks_47 rfl ?_
      refine VS.goto 52 dX7_checks_48 (by decide) ?_
      refine VS.icmp_eq 59 dX7_checks_52 (by decide) (fun _ => ?_) (fun hh => absurd (rfl) hh)
      refine VS.iconst (0) dX7_checks_59 rfl ?_
      refine VS.val (y := lieI (M 1) p (bitE a b)) (lieI_0 ⟨fun q => absurd q h_27, fun q => absurd q h_44⟩) ?_
      refine VS.istore dX7_checks_60 (by decide) rfl ?_
      exact j62
set_option maxRecDepth 100000 in
set_option maxHeartbeats 4000000 in
theorem ct_X7_digs (l : Launch) (M : SS)  {t d a tr : Nat} (ht : rem3 (M 1 7) = nI t) (h3 : t < 3) (hd : M 1 31 = nI d) (hd2 : d < 150) (htr : M 1 1 = nI tr) (htr2 : tr < 8) (ha : a < 8) : CtS l yX7_digs cX7_digs 4 (some FieldType.int) (rmD 2) [.ref 0, .int (nI a)] 7 shM M (some (.int (md (M 1 0) a (M 6) tr))) (upC (upC M 6 (md (M 1 0) a (M 6))) 1 (rDigs (M 1) t d a (md (M 1 0) a (M 6) tr))) := by
  refine CtF.of (own := RX7) [some (.ref 0), some (.int (nI a)), none, none] (by decide +kernel) rfl (fun _ => Nat.le_of_ble_eq_true rfl) (fun _ => rfl) ?_
  refine VS.aload_n dX7_digs_0 rfl ?_
  refine VS.callT (ct_X7_turn l _) dX7_digs_1 mi_X7_turn im_X7_turn sel_X7_turn ml_X7_87 (by decide) rfl rfl (rmOk_D (by decide) (by decide)) (Nat.le_of_ble_eq_true rfl) rfl ?_
  refine VS.val (y := nI t) ht ?_
  refine VS.istore_n dX7_digs_4 (by decide) rfl ?_
  refine VS.aload_n dX7_digs_5 rfl ?_
  refine VS.sgetR 6 dX7_digs_6 uw_X7 rfl (by decide) 0 rfl rfl (by decide) fl_X7_7 rfl ?_
  refine VS.bipush (8) dX7_digs_9 rfl ?_
  refine VS.iload_n dX7_digs_11 rfl ?_
  refine VS.iadd dX7_digs_12 ?_
  refine VS.dup2 dX7_digs_13 rfl rfl ?_
  refine VS.siald (8 + t) dX7_digs_14 (by decide) rfl (ix_add) (by omega) (by decide) ?_
  refine VS.aload_n dX7_digs_15 rfl ?_
  refine VS.sgetR 6 dX7_digs_16 uw_X7 rfl (by decide) 0 rfl rfl (by decide) fl_X7_7 rfl ?_
  refine VS.iconst (4) dX7_digs_19 rfl ?_
  refine VS.siald (4) dX7_digs_20 (by decide) rfl (rfl) (by decide) (by decide) ?_
  refine VS.isub dX7_digs_21 ?_
  refine VS.siast (8 + t) dX7_digs_22 (by decide) rfl (ix_add) (by omega) (by decide) ?_
  refine VS.stt (S2 := upC M 1 (rD1 (M 1) t)) (rfl) ?_
  refine VS.aload_n dX7_digs_23 rfl ?_
  refine VS.sgetR 6 dX7_digs_24 uw_X7 rfl (by decide) 0 rfl rfl (by decide) fl_X7_7 rfl ?_
  refine VS.bipush (27) dX7_digs_27 rfl ?_
  refine VS.iload_n dX7_digs_29 rfl ?_
  refine VS.iadd dX7_digs_30 ?_
  refine VS.dup2 dX7_digs_31 rfl rfl ?_
  refine VS.siald (27 + t) dX7_digs_32 (by decide) rfl (ix_add) (by omega) (by decide) ?_
  refine VS.iconst (1) dX7_digs_33 rfl ?_
  refine VS.iadd dX7_digs_34 ?_
  refine VS.siast (27 + t) dX7_digs_35 (by decide) rfl (ix_add) (by omega) (by decide) ?_
  refine VS.stt (S2 := upC M 1 (rD2 (M 1) t)) (by rw [up2, upC_upC, upC_at]; rfl) ?_
  refine VS.aload_n dX7_digs_36 rfl ?_
  refine VS.sgetR 6 dX7_digs_37 uw_X7 rfl (by decide) 0 rfl rfl (by decide) fl_X7_7 rfl ?_
  refine VS.bipush (32) dX7_digs_40 rfl ?_
  refine VS.aload_n dX7_digs_42 rfl ?_
  refine VS.sgetR 6 dX7_digs_43 uw_X7 rfl (by decide) 0 rfl rfl (by decide) fl_X7_7 rfl ?_
  refine VS.bipush (31) dX7_digs_46 rfl ?_
  refine VS.siald (31) dX7_digs_48 (by decide) rfl (rfl) (by decide) (by decide) ?_
  refine VS.val (y := nI d) ((show rD2 (M 1) t 31 = M 1 31 from rD2_at (by omega) (by omega)).trans hd) ?_
  refine VS.iadd dX7_digs_49 ?_
  refine VS.iload_n dX7_digs_50 rfl ?_
  refine VS.siast (32 + d) dX7_digs_51 (by decide) rfl (ix_add) (by omega) (by decide) ?_
  refine VS.stt (S2 := upC M 1 (rD3 (M 1) t d a)) (by rw [up2, upC_upC, upC_at]; rfl) ?_
  refine VS.aload_n dX7_digs_52 rfl ?_
  refine VS.sgetR 6 dX7_digs_53 uw_X7 rfl (by decide) 0 rfl rfl (by decide) fl_X7_7 rfl ?_
  refine VS.bipush (31) dX7_digs_56 rfl ?_
  refine VS.dup2 dX7_digs_58 rfl rfl ?_
  refine VS.siald (31) dX7_digs_59 (by decide) rfl (rfl) (by decide) (by decide) ?_
  refine VS.iconst (1) dX7_digs_60 rfl ?_
  refine VS.iadd dX7_digs_61 ?_
  refine VS.siast (31) dX7_digs_62 (by decide) rfl (rfl) (by decide) (by decide) ?_
  refine VS.stt (S2 := upC M 1 (rD4 (M 1) t d a)) (by rw [up2, upC_upC, upC_at]; rfl) ?_
  refine VS.aload_n dX7_digs_63 rfl ?_
  refine VS.iload_n dX7_digs_64 rfl ?_
  refine VS.aload_n dX7_digs_65 rfl ?_
  refine VS.sgetR 6 dX7_digs_66 uw_X7 rfl (by decide) 0 rfl rfl (by decide) fl_X7_7 rfl ?_
  refine VS.iconst (0) dX7_digs_69 rfl ?_
  refine VS.siald (0) dX7_digs_70 (by decide) rfl (rfl) (by decide) (by decide) ?_
  refine VS.val (y := M 1 0) (show rD4 (M 1) t d a 0 = M 1 0 from rD4_at (by omega) (by omega) (by omega) (by omega)) ?_
  refine VS.callT (ct_X7_measures l _ _ ha) dX7_digs_71 mi_X7_measures im_X7_measures sel_X7_measures ml_X7_121 (by decide) rfl rfl (rmOk_D (by decide) (by decide)) (Nat.le_of_ble_eq_true rfl) rfl ?_
  refine VS.stt (S2 := upC (upC M 6 (md (M 1 0) a (M 6))) 1 (rD4 (M 1) t d a)) (upC_comm _ _ _ (by decide)) ?_
  refine VS.aload_n dX7_digs_74 rfl ?_
  refine VS.sgetR 6 dX7_digs_75 uw_X7 rfl (by decide) 9 rfl rfl (by decide) fl_X7_26 rfl ?_
  refine VS.aload_n dX7_digs_78 rfl ?_
  refine VS.sgetR 6 dX7_digs_79 uw_X7 rfl (by decide) 0 rfl rfl (by decide) fl_X7_7 rfl ?_
  refine VS.iconst (1) dX7_digs_82 rfl ?_
  refine VS.siald (1) dX7_digs_83 (by decide) rfl (rfl) (by decide) (by decide) ?_
  refine VS.siald (tr) dX7_digs_84 (by decide) rfl ((show rD4 (M 1) t d a 1 = M 1 1 from rD4_at (by omega) (by omega) (by omega) (by omega)).trans htr) (htr2) (by decide) ?_
  refine VS.val (y := md (M 1 0) a (M 6) tr) rfl ?_
  refine VS.istore_n dX7_digs_85 (by decide) rfl ?_
  refine VS.aload_n dX7_digs_86 rfl ?_
  refine VS.callT (ct_X7_ends l _) dX7_digs_87 mi_X7_ends im_X7_ends sel_X7_ends ml_X7_91 (by decide) rfl rfl (rmOk_D (by decide) (by decide)) (Nat.le_of_ble_eq_true rfl) rfl ?_
  refine VS.stt (S2 := upC (upC M 6 (md (M 1 0) a (M 6))) 1 (rD5 (M 1) t d a)) (by rw [upC_upC, upC_at]; rfl) ?_
  refine VS.iload_n dX7_digs_90 rfl ?_
  refine VS.if_ne 121 dX7_digs_91 (by decide) (fun h_91 => ?_) (fun h_91 => ?_)
  · refine VS.iload_n dX7_digs_121 rfl ?_
    exact VS.iret dX7_digs_122 (rfl) (shk (by unfold rDigs; first | rw [if_pos h_91] | rw [if_neg h_91]))
  · refine VS.aload_n dX7_digs_94 rfl ?_
    refine VS.iload_n dX7_digs_95 rfl ?_
    refine VS.aload_n dX7_digs_96 rfl ?_
    refine VS.sgetR 6 dX7_digs_97 uw_X7 rfl (by decide) 0 rfl rfl (by decide) fl_X7_7 rfl ?_
    refine VS.iconst (5) dX7_digs_100 rfl ?_
    refine VS.siald (5) dX7_digs_101 (by decide) rfl (rfl) (by decide) (by decide) ?_
    refine VS.val (y := rD5 (M 1) t d a 5) rfl ?_
    refine VS.callT (ct_X7_gets l _ _ h3) dX7_digs_102 mi_X7_gets im_X7_gets sel_X7_gets ml_X7_107 (by decide) rfl rfl (rmOk_D (by decide) (by decide)) (Nat.le_of_ble_eq_true rfl) rfl ?_
    refine VS.stt (S2 := upC (upC M 6 (md (M 1 0) a (M 6))) 1 (rD6 (M 1) t d a)) (by rw [upC_upC, upC_at]; rfl) ?_
    refine VS.aload_n dX7_digs_105 rfl ?_
    refine VS.sgetR 6 dX7_digs_106 uw_X7 rfl (by decide) 0 rfl rfl (by decide) fl_X7_7 rfl ?_
    refine VS.bipush (30) dX7_digs_109 rfl ?_
    refine VS.iload_n dX7_digs_111 rfl ?_
    refine VS.siast (30) dX7_digs_112 (by decide) rfl (rfl) (by decide) (by decide) ?_
    refine VS.stt (S2 := upC (upC M 6 (md (M 1 0) a (M 6))) 1 (rD7 (M 1) t d a)) (by rw [up2, upC_upC, upC_at]; rfl) ?_
    refine VS.aload_n dX7_digs_113 rfl ?_
    refine VS.sgetR 6 dX7_digs_114 uw_X7 rfl (by decide) 0 rfl rfl (by decide) fl_X7_7 rfl ?_
    refine VS.bipush (6) dX7_digs_117 rfl ?_
    refine VS.iconst (2) dX7_digs_119 rfl ?_
    refine VS.siast (6) dX7_digs_120 (by decide) rfl (rfl) (by decide) (by decide) ?_
    refine VS.stt (S2 := upC (upC M 6 (md (M 1 0) a (M 6))) 1 (upd (rD7 (M 1) t d a) 6 2)) (by rw [up2, upC_upC, upC_at]) ?_
    refine VS.iload_n dX7_digs_121 rfl ?_
    exact VS.iret dX7_digs_122 (rfl) (shk (by unfold rDigs; first | rw [if_pos h_91] | rw [if_neg h_91]))
theorem ite1n {c : Prop} [Decidable c] (h : c) : ¬ (if c then (1 : Int32) else 0) = 0 := by rw [if_pos h]; decide
def loS (k : Int32) : Int32 := if k = 1 ∨ k = 3 then 1 else 0
def hiS (k : Int32) : Int32 := if k = 0 then 20 else if k = 3 then 200 else 50
theorem k3_v {k : Nat} (h : k < 4) : ¬ (if 0 ≤ nI k ∧ nI k ≤ 3 then (1 : Int32) else 0) = 0 := by revert k; decide +kernel
set_option maxRecDepth 100000 in
set_option maxHeartbeats 4000000 in
theorem ct_X7_set (l : Launch) (M : SS) (v : Int32) {np : Nat} (hp6 : M 0 2 = nI np) (h6 : np ≤ 6) {k : Nat} (hk : k < 4) (hv : loS (nI k) ≤ v ∧ v ≤ hiS (nI k)) : CtS l yX7_set cX7_set 4 (some FieldType.int) (rmD 2) [.ref 0, .int (nI k), .int v] 7 shM M (some (.int (M 1 (2 + k)))) (up2 (rRec M np) 1 (2 + k) v) := by
  refine CtF.of (own := RX7) [some (.ref 0), some (.int (nI k)), some (.int v), none] (by decide +kernel) rfl (fun _ => Nat.le_of_ble_eq_true rfl) (fun _ => rfl) ?_
  refine VS.iload_n dX7_set_0 rfl ?_
  refine VS.iconst (0) dX7_set_1 rfl ?_
  refine VS.iconst (3) dX7_set_2 rfl ?_
  refine VS.callN (ct_X7_in l _ _ _) dX7_set_3 mi_X7_in st_X7_in ml_X7_29 (rmOk_D (by decide) (by decide)) (Nat.le_of_ble_eq_true rfl) rfl ?_
  refine VS.if_eq 24 dX7_set_6 (by decide) (fun hh => absurd hh (k3_v hk)) (fun _ => ?_)
  refine VS.iload_n dX7_set_9 rfl ?_
  refine VS.iload_n dX7_set_10 rfl ?_
  refine VS.callN (ct_X7_least l _) dX7_set_11 mi_X7_least st_X7_least ml_X7_58 (rmOk_D (by decide) (by decide)) (Nat.le_of_ble_eq_true rfl) rfl ?_
  refine VS.iload_n dX7_set_14 rfl ?_
  refine VS.callN (ct_X7_most l _) dX7_set_15 mi_X7_most st_X7_most ml_X7_61 (rmOk_D (by decide) (by decide)) (Nat.le_of_ble_eq_true rfl) rfl ?_
  refine VS.callN (ct_X7_in l _ _ _) dX7_set_18 mi_X7_in st_X7_in ml_X7_29 (rmOk_D (by decide) (by decide)) (Nat.le_of_ble_eq_true rfl) rfl ?_
  refine VS.if_ne 27 dX7_set_21 (by decide) (fun _ => ?_) (fun hh => absurd hh (ite1n hv))
  refine VS.aload_n dX7_set_27 rfl ?_
  refine VS.callT (ct_X7_records l _ hp6 h6) dX7_set_28 mi_X7_records im_X7_records sel_X7_records ml_X7_64 (by decide) rfl rfl (rmOk_D (by decide) (by decide)) (Nat.le_of_ble_eq_true rfl) rfl ?_
  refine VS.aload_n dX7_set_31 rfl ?_
  refine VS.sgetR 6 dX7_set_32 uw_X7 rfl (by decide) 0 rfl rfl (by decide) fl_X7_7 rfl ?_
  refine VS.iconst (2) dX7_set_35 rfl ?_
  refine VS.iload_n dX7_set_36 rfl ?_
  refine VS.iadd dX7_set_37 ?_
  refine VS.siald (2 + k) dX7_set_38 (by decide) rfl (ix_add) (by omega) (by decide) ?_
  refine VS.val (y := M 1 (2 + k)) rfl ?_
  refine VS.istore_n dX7_set_39 (by decide) rfl ?_
  refine VS.aload_n dX7_set_40 rfl ?_
  refine VS.sgetR 6 dX7_set_41 uw_X7 rfl (by decide) 0 rfl rfl (by decide) fl_X7_7 rfl ?_
  refine VS.iconst (2) dX7_set_44 rfl ?_
  refine VS.iload_n dX7_set_45 rfl ?_
  refine VS.iadd dX7_set_46 ?_
  refine VS.iload_n dX7_set_47 rfl ?_
  refine VS.siast (2 + k) dX7_set_48 (by decide) rfl (ix_add) (by omega) (by decide) ?_
  refine VS.iload_n dX7_set_49 rfl ?_
  exact VS.iret dX7_set_50 (rfl) (fun _ _ => rfl)
set_option maxRecDepth 100000 in
set_option maxHeartbeats 4000000 in
theorem ct_X7_set_no (l : Launch) (M : SS) (k : Int32) (v : Int32) (hn : ¬ ((0 ≤ k ∧ k ≤ 3) ∧ loS k ≤ v ∧ v ≤ hiS k)) : CtS l yX7_set cX7_set 4 (some FieldType.int) (rmD 2) [.ref 0, .int k, .int v] 7 shM M (some (.int (-2))) (M) := by
  refine CtF.of (own := RX7) [some (.ref 0), some (.int k), some (.int v), none] (by decide +kernel) rfl (fun _ => Nat.le_of_ble_eq_true rfl) (fun _ => rfl) ?_
  refine VS.iload_n dX7_set_0 rfl ?_
  refine VS.iconst (0) dX7_set_1 rfl ?_
  refine VS.iconst (3) dX7_set_2 rfl ?_
  refine VS.callN (ct_X7_in l _ _ _) dX7_set_3 mi_X7_in st_X7_in ml_X7_29 (rmOk_D (by decide) (by decide)) (Nat.le_of_ble_eq_true rfl) rfl ?_
  refine VS.if_eq 24 dX7_set_6 (by decide) (fun h_6 => ?_) (fun h_6 => ?_)
  · refine VS.bipush (-2) dX7_set_24 rfl ?_
    exact VS.iret dX7_set_26 (rfl) (fun _ _ => rfl)
  · refine VS.iload_n dX7_set_9 rfl ?_
    refine VS.iload_n dX7_set_10 rfl ?_
    refine VS.callN (ct_X7_least l _) dX7_set_11 mi_X7_least st_X7_least ml_X7_58 (rmOk_D (by decide) (by decide)) (Nat.le_of_ble_eq_true rfl) rfl ?_
    refine VS.iload_n dX7_set_14 rfl ?_
    refine VS.callN (ct_X7_most l _) dX7_set_15 mi_X7_most st_X7_most ml_X7_61 (rmOk_D (by decide) (by decide)) (Nat.le_of_ble_eq_true rfl) rfl ?_
    refine VS.callN (ct_X7_in l _ _ _) dX7_set_18 mi_X7_in st_X7_in ml_X7_29 (rmOk_D (by decide) (by decide)) (Nat.le_of_ble_eq_true rfl) rfl ?_
    refine VS.if_ne 27 dX7_set_21 (by decide) (fun hh => absurd (if_neg (fun q => hn ⟨ite11 h_6, q⟩)) hh) (fun _ => ?_)
    refine VS.bipush (-2) dX7_set_24 rfl ?_
    exact VS.iret dX7_set_26 (rfl) (fun _ _ => rfl)
set_option maxRecDepth 100000 in
set_option maxHeartbeats 4000000 in
theorem ct_X7_road (l : Launch) (M : SS) (a : Int32) (b : Int32) {np : Nat} (hp6 : M 0 2 = nI np) (h6 : np ≤ 6)  (hb : rBarRoad (M 1) a b = 0) : CtS l yX7_road cX7_road 4 (some FieldType.int) (rmD 3) [.ref 0, .int a, .int b] 7 shM M (some (.int (pcI (M 1 0 ^^^ bitE a b)))) (upC (rRec M np) 1 (rLays (M 1) a b)) := by
  refine CtF.of (own := RX7) [some (.ref 0), some (.int a), some (.int b), none] (by decide +kernel) rfl (fun _ => Nat.le_of_ble_eq_true rfl) (fun _ => rfl) ?_
  refine VS.aload_n dX7_road_0 rfl ?_
  refine VS.iload_n dX7_road_1 rfl ?_
  refine VS.iload_n dX7_road_2 rfl ?_
  refine VS.callT (ct_X7_barRoad l _ _ _) dX7_road_3 mi_X7_barRoad im_X7_barRoad sel_X7_barRoad ml_X7_71 (by decide) rfl rfl (rmOk_D (by decide) (by decide)) (Nat.le_of_ble_eq_true rfl) rfl ?_
  refine VS.istore_n dX7_road_6 (by decide) rfl ?_
  refine VS.iload_n dX7_road_7 rfl ?_
  refine VS.if_ge 13 dX7_road_8 (by decide) (fun _ => ?_) (fun hh => absurd (by rw [hb]; decide) hh)
  refine VS.aload_n dX7_road_13 rfl ?_
  refine VS.callT (ct_X7_records l _ hp6 h6) dX7_road_14 mi_X7_records im_X7_records sel_X7_records ml_X7_64 (by decide) rfl rfl (rmOk_D (by decide) (by decide)) (Nat.le_of_ble_eq_true rfl) rfl ?_
  refine VS.aload_n dX7_road_17 rfl ?_
  refine VS.iload_n dX7_road_18 rfl ?_
  refine VS.iload_n dX7_road_19 rfl ?_
  refine VS.callT (ct_X7_lays l _ _ _) dX7_road_20 mi_X7_lays im_X7_lays sel_X7_lays ml_X7_74 (by decide) rfl rfl (rmOk_D (by decide) (by decide)) (Nat.le_of_ble_eq_true rfl) rfl ?_
  exact VS.iret dX7_road_23 (rfl) (fun _ _ => rfl)
set_option maxRecDepth 100000 in
set_option maxHeartbeats 4000000 in
theorem ct_X7_road_no (l : Launch) (M : SS) (a : Int32) (b : Int32) (hb : ¬ 0 ≤ rBarRoad (M 1) a b) : CtS l yX7_road cX7_road 4 (some FieldType.int) (rmD 3) [.ref 0, .int a, .int b] 7 shM M (some (.int (rBarRoad (M 1) a b))) (M) := by
  refine CtF.of (own := RX7) [some (.ref 0), some (.int a), some (.int b), none] (by decide +kernel) rfl (fun _ => Nat.le_of_ble_eq_true rfl) (fun _ => rfl) ?_
  refine VS.aload_n dX7_road_0 rfl ?_
  refine VS.iload_n dX7_road_1 rfl ?_
  refine VS.iload_n dX7_road_2 rfl ?_
  refine VS.callT (ct_X7_barRoad l _ _ _) dX7_road_3 mi_X7_barRoad im_X7_barRoad sel_X7_barRoad ml_X7_71 (by decide) rfl rfl (rmOk_D (by decide) (by decide)) (Nat.le_of_ble_eq_true rfl) rfl ?_
  refine VS.istore_n dX7_road_6 (by decide) rfl ?_
  refine VS.iload_n dX7_road_7 rfl ?_
  refine VS.if_ge 13 dX7_road_8 (by decide) (fun hh => absurd hh (hb)) (fun _ => ?_)
  refine VS.iload_n dX7_road_11 rfl ?_
  exact VS.iret dX7_road_12 (rfl) (fun _ _ => rfl)
set_option maxRecDepth 100000 in
set_option maxHeartbeats 4000000 in
theorem ct_X7_treasure (l : Launch) (M : SS) (a : Int32) {np : Nat} (hp6 : M 0 2 = nI np) (h6 : np ≤ 6)  (hb : rBarTreasure (M 1) a = 0) : CtS l yX7_treasure cX7_treasure 4 (some FieldType.int) (rmD 3) [.ref 0, .int a] 7 shM M (some (.int (M 1 1))) (up2 (rRec M np) 1 1 a) := by
  refine CtF.of (own := RX7) [some (.ref 0), some (.int a), none, none] (by decide +kernel) rfl (fun _ => Nat.le_of_ble_eq_true rfl) (fun _ => rfl) ?_
  refine VS.aload_n dX7_treasure_0 rfl ?_
  refine VS.iload_n dX7_treasure_1 rfl ?_
  refine VS.callT (ct_X7_barTreasure l _ _) dX7_treasure_2 mi_X7_barTreasure im_X7_barTreasure sel_X7_barTreasure ml_X7_77 (by decide) rfl rfl (rmOk_D (by decide) (by decide)) (Nat.le_of_ble_eq_true rfl) rfl ?_
  refine VS.istore_n dX7_treasure_5 (by decide) rfl ?_
  refine VS.iload_n dX7_treasure_6 rfl ?_
  refine VS.if_ge 12 dX7_treasure_7 (by decide) (fun _ => ?_) (fun hh => absurd (by rw [hb]; decide) hh)
  refine VS.aload_n dX7_treasure_12 rfl ?_
  refine VS.callT (ct_X7_records l _ hp6 h6) dX7_treasure_13 mi_X7_records im_X7_records sel_X7_records ml_X7_64 (by decide) rfl rfl (rmOk_D (by decide) (by decide)) (Nat.le_of_ble_eq_true rfl) rfl ?_
  refine VS.aload_n dX7_treasure_16 rfl ?_
  refine VS.sgetR 6 dX7_treasure_17 uw_X7 rfl (by decide) 0 rfl rfl (by decide) fl_X7_7 rfl ?_
  refine VS.iconst (1) dX7_treasure_20 rfl ?_
  refine VS.siald (1) dX7_treasure_21 (by decide) rfl (rfl) (by decide) (by decide) ?_
  refine VS.val (y := M 1 1) rfl ?_
  refine VS.istore_n dX7_treasure_22 (by decide) rfl ?_
  refine VS.aload_n dX7_treasure_23 rfl ?_
  refine VS.sgetR 6 dX7_treasure_24 uw_X7 rfl (by decide) 0 rfl rfl (by decide) fl_X7_7 rfl ?_
  refine VS.iconst (1) dX7_treasure_27 rfl ?_
  refine VS.iload_n dX7_treasure_28 rfl ?_
  refine VS.siast (1) dX7_treasure_29 (by decide) rfl (rfl) (by decide) (by decide) ?_
  refine VS.iload_n dX7_treasure_30 rfl ?_
  exact VS.iret dX7_treasure_31 (rfl) (fun _ _ => rfl)
set_option maxRecDepth 100000 in
set_option maxHeartbeats 4000000 in
theorem ct_X7_treasure_no (l : Launch) (M : SS) (a : Int32) (hb : ¬ 0 ≤ rBarTreasure (M 1) a) : CtS l yX7_treasure cX7_treasure 4 (some FieldType.int) (rmD 3) [.ref 0, .int a] 7 shM M (some (.int (rBarTreasure (M 1) a))) (M) := by
  refine CtF.of (own := RX7) [some (.ref 0), some (.int a), none, none] (by decide +kernel) rfl (fun _ => Nat.le_of_ble_eq_true rfl) (fun _ => rfl) ?_
  refine VS.aload_n dX7_treasure_0 rfl ?_
  refine VS.iload_n dX7_treasure_1 rfl ?_
  refine VS.callT (ct_X7_barTreasure l _ _) dX7_treasure_2 mi_X7_barTreasure im_X7_barTreasure sel_X7_barTreasure ml_X7_77 (by decide) rfl rfl (rmOk_D (by decide) (by decide)) (Nat.le_of_ble_eq_true rfl) rfl ?_
  refine VS.istore_n dX7_treasure_5 (by decide) rfl ?_
  refine VS.iload_n dX7_treasure_6 rfl ?_
  refine VS.if_ge 12 dX7_treasure_7 (by decide) (fun hh => absurd hh (hb)) (fun _ => ?_)
  refine VS.iload_n dX7_treasure_10 rfl ?_
  exact VS.iret dX7_treasure_11 (rfl) (fun _ _ => rfl)
set_option maxRecDepth 100000 in
set_option maxHeartbeats 4000000 in
theorem ct_X7_begin (l : Launch) (M : SS)  {np : Nat} (hp6 : M 0 2 = nI np) (h6 : np ≤ 6) (hb : ¬ 0 < M 1 6) : CtS l yX7_begin cX7_begin 1 (some FieldType.int) (rmD 3) [.ref 0] 7 shM M (some (.int (pcI (rKn (upd (M 1) 6 1) (M 1 17))))) (rFol (upC (rRec M np) 1 (upd (M 1) 6 1)) (M 1 17)) := by
  refine CtF.of (own := RX7) [some (.ref 0)] (by decide +kernel) rfl (fun _ => Nat.le_of_ble_eq_true rfl) (fun _ => rfl) ?_
  refine VS.aload_n dX7_begin_0 rfl ?_
  refine VS.callT (ct_X7_hasBegun l _) dX7_begin_1 mi_X7_hasBegun im_X7_hasBegun sel_X7_hasBegun ml_X7_41 (by decide) rfl rfl (rmOk_D (by decide) (by decide)) (Nat.le_of_ble_eq_true rfl) rfl ?_
  refine VS.if_eq 10 dX7_begin_4 (by decide) (fun _ => ?_) (fun hh => absurd (if_neg hb) hh)
  refine VS.aload_n dX7_begin_10 rfl ?_
  refine VS.callT (ct_X7_records l _ hp6 h6) dX7_begin_11 mi_X7_records im_X7_records sel_X7_records ml_X7_64 (by decide) rfl rfl (rmOk_D (by decide) (by decide)) (Nat.le_of_ble_eq_true rfl) rfl ?_
  refine VS.aload_n dX7_begin_14 rfl ?_
  refine VS.sgetR 6 dX7_begin_15 uw_X7 rfl (by decide) 0 rfl rfl (by decide) fl_X7_7 rfl ?_
  refine VS.bipush (6) dX7_begin_18 rfl ?_
  refine VS.iconst (1) dX7_begin_20 rfl ?_
  refine VS.siast (6) dX7_begin_21 (by decide) rfl (rfl) (by decide) (by decide) ?_
  refine VS.stt (S2 := upC (rRec M np) 1 (upd (M 1) 6 1)) rfl ?_
  refine VS.aload_n dX7_begin_22 rfl ?_
  refine VS.aload_n dX7_begin_23 rfl ?_
  refine VS.sgetR 6 dX7_begin_24 uw_X7 rfl (by decide) 0 rfl rfl (by decide) fl_X7_7 rfl ?_
  refine VS.bipush (17) dX7_begin_27 rfl ?_
  refine VS.siald (17) dX7_begin_29 (by decide) rfl (rfl) (by decide) (by decide) ?_
  refine VS.val (y := M 1 17) rfl ?_
  refine VS.callT (ct_X7_follows l _ _) dX7_begin_30 mi_X7_follows im_X7_follows sel_X7_follows ml_X7_80 (by decide) rfl rfl (rmOk_D (by decide) (by decide)) (Nat.le_of_ble_eq_true rfl) rfl ?_
  refine VS.aload_n dX7_begin_33 rfl ?_
  refine VS.sgetI 6 dX7_begin_34 uw_X7 rfl (by decide) 7 rfl rfl (by decide) fl_X7_45 rfl ?_
  refine VS.val (y := rKn (upd (M 1) 6 1) (M 1 17)) rfl ?_
  refine VS.callN (ct_X7_many l _) dX7_begin_37 mi_X7_many st_X7_many ml_X7_55 (rmOk_D (by decide) (by decide)) (Nat.le_of_ble_eq_true rfl) rfl ?_
  exact VS.iret dX7_begin_40 (rfl) (fun _ _ => rfl)
set_option maxRecDepth 100000 in
set_option maxHeartbeats 4000000 in
theorem ct_X7_begin_no (l : Launch) (M : SS)  (hb : 0 < M 1 6) : CtS l yX7_begin cX7_begin 1 (some FieldType.int) (rmD 3) [.ref 0] 7 shM M (some (.int (-5))) (M) := by
  refine CtF.of (own := RX7) [some (.ref 0)] (by decide +kernel) rfl (fun _ => Nat.le_of_ble_eq_true rfl) (fun _ => rfl) ?_
  refine VS.aload_n dX7_begin_0 rfl ?_
  refine VS.callT (ct_X7_hasBegun l _) dX7_begin_1 mi_X7_hasBegun im_X7_hasBegun sel_X7_hasBegun ml_X7_41 (by decide) rfl rfl (rmOk_D (by decide) (by decide)) (Nat.le_of_ble_eq_true rfl) rfl ?_
  refine VS.if_eq 10 dX7_begin_4 (by decide) (fun hh => absurd hh (by rw [if_pos hb]; decide)) (fun _ => ?_)
  refine VS.bipush (-5) dX7_begin_7 rfl ?_
  exact VS.iret dX7_begin_9 (rfl) (fun _ _ => rfl)
set_option maxRecDepth 100000 in
set_option maxHeartbeats 4000000 in
theorem ct_X7_claim (l : Launch) (M : SS) (a : Int32) (b : Int32) (is : Int32) {np : Nat} (hp6 : M 0 2 = nI np) (h6 : np ≤ 6)  {t : Nat} (ht : rem3 (M 1 7) = nI t) (h3 : t < 3) (hb : rBarClaim (M 1) a b is = 0) : CtS l yX7_claim cX7_claim 5 (some FieldType.int) (rmD 4) [.ref 0, .int a, .int b, .int is] 7 shM M (some (.int (rClaims (rSays (M 1) t (bitE a b) is) t))) (upC (rRec M np) 1 (rSays (M 1) t (bitE a b) is)) := by
  refine CtF.of (own := RX7) [some (.ref 0), some (.int a), some (.int b), some (.int is), none] (by decide +kernel) rfl (fun _ => Nat.le_of_ble_eq_true rfl) (fun _ => rfl) ?_
  refine VS.aload_n dX7_claim_0 rfl ?_
  refine VS.iload_n dX7_claim_1 rfl ?_
  refine VS.iload_n dX7_claim_2 rfl ?_
  refine VS.iload_n dX7_claim_3 rfl ?_
  refine VS.callT (ct_X7_barClaim l _ _ _ _) dX7_claim_4 mi_X7_barClaim im_X7_barClaim sel_X7_barClaim ml_X7_97 (by decide) rfl rfl (rmOk_D (by decide) (by decide)) (Nat.le_of_ble_eq_true rfl) rfl ?_
  refine VS.istore dX7_claim_7 (by decide) rfl ?_
  refine VS.iload dX7_claim_9 rfl ?_
  refine VS.if_ge 17 dX7_claim_11 (by decide) (fun _ => ?_) (fun hh => absurd (by rw [hb]; decide) hh)
  refine VS.aload_n dX7_claim_17 rfl ?_
  refine VS.callT (ct_X7_records l _ hp6 h6) dX7_claim_18 mi_X7_records im_X7_records sel_X7_records ml_X7_64 (by decide) rfl rfl (rmOk_D (by decide) (by decide)) (Nat.le_of_ble_eq_true rfl) rfl ?_
  refine VS.aload_n dX7_claim_21 rfl ?_
  refine VS.iload_n dX7_claim_22 rfl ?_
  refine VS.iload_n dX7_claim_23 rfl ?_
  refine VS.iload_n dX7_claim_24 rfl ?_
  refine VS.callT (ct_X7_says l (rRec M np) _ _ _ ht h3) dX7_claim_25 mi_X7_says im_X7_says sel_X7_says ml_X7_101 (by decide) rfl rfl (rmOk_D (by decide) (by decide)) (Nat.le_of_ble_eq_true rfl) rfl ?_
  exact VS.iret dX7_claim_28 (rfl) (fun _ _ => rfl)
set_option maxRecDepth 100000 in
set_option maxHeartbeats 4000000 in
theorem ct_X7_claim_no (l : Launch) (M : SS) (a : Int32) (b : Int32) (is : Int32) (hb : ¬ 0 ≤ rBarClaim (M 1) a b is) : CtS l yX7_claim cX7_claim 5 (some FieldType.int) (rmD 4) [.ref 0, .int a, .int b, .int is] 7 shM M (some (.int (rBarClaim (M 1) a b is))) (M) := by
  refine CtF.of (own := RX7) [some (.ref 0), some (.int a), some (.int b), some (.int is), none] (by decide +kernel) rfl (fun _ => Nat.le_of_ble_eq_true rfl) (fun _ => rfl) ?_
  refine VS.aload_n dX7_claim_0 rfl ?_
  refine VS.iload_n dX7_claim_1 rfl ?_
  refine VS.iload_n dX7_claim_2 rfl ?_
  refine VS.iload_n dX7_claim_3 rfl ?_
  refine VS.callT (ct_X7_barClaim l _ _ _ _) dX7_claim_4 mi_X7_barClaim im_X7_barClaim sel_X7_barClaim ml_X7_97 (by decide) rfl rfl (rmOk_D (by decide) (by decide)) (Nat.le_of_ble_eq_true rfl) rfl ?_
  refine VS.istore dX7_claim_7 (by decide) rfl ?_
  refine VS.iload dX7_claim_9 rfl ?_
  refine VS.if_ge 17 dX7_claim_11 (by decide) (fun hh => absurd hh (hb)) (fun _ => ?_)
  refine VS.iload dX7_claim_14 rfl ?_
  exact VS.iret dX7_claim_16 (rfl) (fun _ _ => rfl)
set_option maxRecDepth 100000 in
set_option maxHeartbeats 4000000 in
theorem ct_X7_check (l : Launch) (M : SS) (a : Int32) (b : Int32) {np : Nat} (hp6 : M 0 2 = nI np) (h6 : np ≤ 6)  {t : Nat} (ht : rem3 (M 1 7) = nI t) (h3 : t < 3) {p : Nat} (hp : p < 3) (hb : rBarCheck (M 1) (nI p) a b = 0) : CtS l yX7_check cX7_check 5 (some FieldType.int) (rmD 4) [.ref 0, .int (nI p), .int a, .int b] 7 shM M (some (.int (lieI (M 1) p (bitE a b)))) (upC (rRec M np) 1 (rChecks (M 1) t p (bitE a b))) := by
  refine CtF.of (own := RX7) [some (.ref 0), some (.int (nI p)), some (.int a), some (.int b), none] (by decide +kernel) rfl (fun _ => Nat.le_of_ble_eq_true rfl) (fun _ => rfl) ?_
  refine VS.aload_n dX7_check_0 rfl ?_
  refine VS.iload_n dX7_check_1 rfl ?_
  refine VS.iload_n dX7_check_2 rfl ?_
  refine VS.iload_n dX7_check_3 rfl ?_
  refine VS.callT (ct_X7_barCheck l _ _ _ _) dX7_check_4 mi_X7_barCheck im_X7_barCheck sel_X7_barCheck ml_X7_115 (by decide) rfl rfl (rmOk_D (by decide) (by decide)) (Nat.le_of_ble_eq_true rfl) rfl ?_
  refine VS.istore dX7_check_7 (by decide) rfl ?_
  refine VS.iload dX7_check_9 rfl ?_
  refine VS.if_ge 17 dX7_check_11 (by decide) (fun _ => ?_) (fun hh => absurd (by rw [hb]; decide) hh)
  refine VS.aload_n dX7_check_17 rfl ?_
  refine VS.callT (ct_X7_records l _ hp6 h6) dX7_check_18 mi_X7_records im_X7_records sel_X7_records ml_X7_64 (by decide) rfl rfl (rmOk_D (by decide) (by decide)) (Nat.le_of_ble_eq_true rfl) rfl ?_
  refine VS.aload_n dX7_check_21 rfl ?_
  refine VS.iload_n dX7_check_22 rfl ?_
  refine VS.iload_n dX7_check_23 rfl ?_
  refine VS.iload_n dX7_check_24 rfl ?_
  refine VS.callT (ct_X7_checks l (rRec M np) _ _ ht h3 hp) dX7_check_25 mi_X7_checks im_X7_checks sel_X7_checks ml_X7_118 (by decide) rfl rfl (rmOk_D (by decide) (by decide)) (Nat.le_of_ble_eq_true rfl) rfl ?_
  exact VS.iret dX7_check_28 (rfl) (fun _ _ => rfl)
set_option maxRecDepth 100000 in
set_option maxHeartbeats 4000000 in
theorem ct_X7_check_no (l : Launch) (M : SS) (q : Int32) (a : Int32) (b : Int32) (hb : ¬ 0 ≤ rBarCheck (M 1) q a b) : CtS l yX7_check cX7_check 5 (some FieldType.int) (rmD 4) [.ref 0, .int q, .int a, .int b] 7 shM M (some (.int (rBarCheck (M 1) q a b))) (M) := by
  refine CtF.of (own := RX7) [some (.ref 0), some (.int q), some (.int a), some (.int b), none] (by decide +kernel) rfl (fun _ => Nat.le_of_ble_eq_true rfl) (fun _ => rfl) ?_
  refine VS.aload_n dX7_check_0 rfl ?_
  refine VS.iload_n dX7_check_1 rfl ?_
  refine VS.iload_n dX7_check_2 rfl ?_
  refine VS.iload_n dX7_check_3 rfl ?_
  refine VS.callT (ct_X7_barCheck l _ _ _ _) dX7_check_4 mi_X7_barCheck im_X7_barCheck sel_X7_barCheck ml_X7_115 (by decide) rfl rfl (rmOk_D (by decide) (by decide)) (Nat.le_of_ble_eq_true rfl) rfl ?_
  refine VS.istore dX7_check_7 (by decide) rfl ?_
  refine VS.iload dX7_check_9 rfl ?_
  refine VS.if_ge 17 dX7_check_11 (by decide) (fun hh => absurd hh (hb)) (fun _ => ?_)
  refine VS.iload dX7_check_14 rfl ?_
  exact VS.iret dX7_check_16 (rfl) (fun _ _ => rfl)
set_option maxRecDepth 100000 in
set_option maxHeartbeats 4000000 in
theorem ct_X7_dig (l : Launch) (M : SS)  {np : Nat} (hp6 : M 0 2 = nI np) (h6 : np ≤ 6)  {t d a tr : Nat} (ht : rem3 (M 1 7) = nI t) (h3 : t < 3) (hd : M 1 31 = nI d) (hd2 : d < 150) (htr : M 1 1 = nI tr) (htr2 : tr < 8) (ha : a < 8) (hb : rBarDig (M 1) t (nI a) = 0) : CtS l yX7_dig cX7_dig 3 (some FieldType.int) (rmD 4) [.ref 0, .int (nI a)] 7 shM M (some (.int (md (M 1 0) a (M 6) tr))) (upC (upC (rRec M np) 6 (md (M 1 0) a (M 6))) 1 (rDigs (M 1) t d a (md (M 1 0) a (M 6) tr))) := by
  refine CtF.of (own := RX7) [some (.ref 0), some (.int (nI a)), none] (by decide +kernel) rfl (fun _ => Nat.le_of_ble_eq_true rfl) (fun _ => rfl) ?_
  refine VS.aload_n dX7_dig_0 rfl ?_
  refine VS.iload_n dX7_dig_1 rfl ?_
  refine VS.callT (ct_X7_barDig l _ _ ht h3) dX7_dig_2 mi_X7_barDig im_X7_barDig sel_X7_barDig ml_X7_124 (by decide) rfl rfl (rmOk_D (by decide) (by decide)) (Nat.le_of_ble_eq_true rfl) rfl ?_
  refine VS.istore_n dX7_dig_5 (by decide) rfl ?_
  refine VS.iload_n dX7_dig_6 rfl ?_
  refine VS.if_ge 12 dX7_dig_7 (by decide) (fun _ => ?_) (fun hh => absurd (by rw [hb]; decide) hh)
  refine VS.aload_n dX7_dig_12 rfl ?_
  refine VS.callT (ct_X7_records l _ hp6 h6) dX7_dig_13 mi_X7_records im_X7_records sel_X7_records ml_X7_64 (by decide) rfl rfl (rmOk_D (by decide) (by decide)) (Nat.le_of_ble_eq_true rfl) rfl ?_
  refine VS.aload_n dX7_dig_16 rfl ?_
  refine VS.iload_n dX7_dig_17 rfl ?_
  refine VS.callT (ct_X7_digs l (rRec M np) ht h3 hd hd2 htr htr2 ha) dX7_dig_18 mi_X7_digs im_X7_digs sel_X7_digs ml_X7_127 (by decide) rfl rfl (rmOk_D (by decide) (by decide)) (Nat.le_of_ble_eq_true rfl) rfl ?_
  exact VS.iret dX7_dig_21 (rfl) (fun _ _ => rfl)
set_option maxRecDepth 100000 in
set_option maxHeartbeats 4000000 in
theorem ct_X7_dig_no (l : Launch) (M : SS) (a : Int32)  {t : Nat} (ht : rem3 (M 1 7) = nI t) (h3 : t < 3) (hb : ¬ 0 ≤ rBarDig (M 1) t a) : CtS l yX7_dig cX7_dig 3 (some FieldType.int) (rmD 4) [.ref 0, .int a] 7 shM M (some (.int (rBarDig (M 1) t a))) (M) := by
  refine CtF.of (own := RX7) [some (.ref 0), some (.int a), none] (by decide +kernel) rfl (fun _ => Nat.le_of_ble_eq_true rfl) (fun _ => rfl) ?_
  refine VS.aload_n dX7_dig_0 rfl ?_
  refine VS.iload_n dX7_dig_1 rfl ?_
  refine VS.callT (ct_X7_barDig l _ _ ht h3) dX7_dig_2 mi_X7_barDig im_X7_barDig sel_X7_barDig ml_X7_124 (by decide) rfl rfl (rmOk_D (by decide) (by decide)) (Nat.le_of_ble_eq_true rfl) rfl ?_
  refine VS.istore_n dX7_dig_5 (by decide) rfl ?_
  refine VS.iload_n dX7_dig_6 rfl ?_
  refine VS.if_ge 12 dX7_dig_7 (by decide) (fun hh => absurd hh (hb)) (fun _ => ?_)
  refine VS.iload_n dX7_dig_10 rfl ?_
  exact VS.iret dX7_dig_11 (rfl) (fun _ _ => rfl)
set_option maxRecDepth 100000 in
set_option maxHeartbeats 4000000 in
theorem ct_X7_pass (l : Launch) (M : SS)  {np : Nat} (hp6 : M 0 2 = nI np) (h6 : np ≤ 6) (hb : M 1 6 = 1) : CtS l yX7_pass cX7_pass 1 (some FieldType.int) (rmD 3) [.ref 0] 7 shM M (some (.int (rem3 (rEnds (M 1) 7)))) (upC (rRec M np) 1 (rEnds (M 1))) := by
  refine CtF.of (own := RX7) [some (.ref 0)] (by decide +kernel) rfl (fun _ => Nat.le_of_ble_eq_true rfl) (fun _ => rfl) ?_
  refine VS.aload_n dX7_pass_0 rfl ?_
  refine VS.callT (ct_X7_goes l _) dX7_pass_1 mi_X7_goes im_X7_goes sel_X7_goes ml_X7_84 (by decide) rfl rfl (rmOk_D (by decide) (by decide)) (Nat.le_of_ble_eq_true rfl) rfl ?_
  refine VS.if_ne 10 dX7_pass_4 (by decide) (fun _ => ?_) (fun hh => absurd hh (by rw [if_pos hb]; decide))
  refine VS.aload_n dX7_pass_10 rfl ?_
  refine VS.callT (ct_X7_records l _ hp6 h6) dX7_pass_11 mi_X7_records im_X7_records sel_X7_records ml_X7_64 (by decide) rfl rfl (rmOk_D (by decide) (by decide)) (Nat.le_of_ble_eq_true rfl) rfl ?_
  refine VS.aload_n dX7_pass_14 rfl ?_
  refine VS.callT (ct_X7_ends l _) dX7_pass_15 mi_X7_ends im_X7_ends sel_X7_ends ml_X7_91 (by decide) rfl rfl (rmOk_D (by decide) (by decide)) (Nat.le_of_ble_eq_true rfl) rfl ?_
  refine VS.aload_n dX7_pass_18 rfl ?_
  refine VS.callT (ct_X7_turn l _) dX7_pass_19 mi_X7_turn im_X7_turn sel_X7_turn ml_X7_87 (by decide) rfl rfl (rmOk_D (by decide) (by decide)) (Nat.le_of_ble_eq_true rfl) rfl ?_
  exact VS.iret dX7_pass_22 (rfl) (fun _ _ => rfl)
set_option maxRecDepth 100000 in
set_option maxHeartbeats 4000000 in
theorem ct_X7_pass_no (l : Launch) (M : SS)  (hb : ¬ M 1 6 = 1) : CtS l yX7_pass cX7_pass 1 (some FieldType.int) (rmD 3) [.ref 0] 7 shM M (some (.int (-5))) (M) := by
  refine CtF.of (own := RX7) [some (.ref 0)] (by decide +kernel) rfl (fun _ => Nat.le_of_ble_eq_true rfl) (fun _ => rfl) ?_
  refine VS.aload_n dX7_pass_0 rfl ?_
  refine VS.callT (ct_X7_goes l _) dX7_pass_1 mi_X7_goes im_X7_goes sel_X7_goes ml_X7_84 (by decide) rfl rfl (rmOk_D (by decide) (by decide)) (Nat.le_of_ble_eq_true rfl) rfl ?_
  refine VS.if_ne 10 dX7_pass_4 (by decide) (fun hh => absurd (if_neg hb) hh) (fun _ => ?_)
  refine VS.bipush (-5) dX7_pass_7 rfl ?_
  exact VS.iret dX7_pass_9 (rfl) (fun _ _ => rfl)
def mUndo (M : SS) (q : Nat) : SS := upC (up2 M 0 2 (nI q)) 1 (putR (M 1) (fun k => M 2 (182 * q + k)) 0 182)
theorem sub_1 {q : Nat} : nI (q + 1) - 1 = nI q := nI_pred q
set_option maxRecDepth 100000 in
set_option maxHeartbeats 4000000 in
theorem ct_X7_undo (l : Launch) (M : SS)  {q : Nat} (hp6 : M 0 2 = nI (q + 1)) (h6 : q < 6) : CtS l yX7_undo cX7_undo 2 (some FieldType.int) (rmD 0) [.ref 0] 7 shM M (some (.int (nI q))) (mUndo M q) := by
  refine CtF.of (own := RX7) [some (.ref 0), none] (by decide +kernel) rfl (fun _ => Nat.le_of_ble_eq_true rfl) (fun _ => rfl) ?_
  refine VS.aload_n dX7_undo_0 rfl ?_
  refine VS.sgetI 6 dX7_undo_1 uw_X7 rfl (by decide) 2 rfl rfl (by decide) fl_X7_33 rfl ?_
  refine VS.if_ne 10 dX7_undo_4 (by decide) (fun _ => ?_) (fun hh => absurd hh (by rw [hp6]; exact nI_ne0 (by omega) (by omega)))
  refine VS.aload_n dX7_undo_10 rfl ?_
  refine VS.dup dX7_undo_11 rfl ?_
  refine VS.sgetI 6 dX7_undo_12 uw_X7 rfl (by decide) 2 rfl rfl (by decide) fl_X7_33 rfl ?_
  refine VS.val (y := nI (q + 1)) hp6 ?_
  refine VS.iconst (1) dX7_undo_15 rfl ?_
  refine VS.isub dX7_undo_16 ?_
  refine VS.val (y := nI q) sub_1 ?_
  refine VS.sput 6 dX7_undo_17 uw_X7 tyX7 tyX7_ok nmX7 rfl (by decide) 2 rfl rfl (by decide) fl_X7_33 rfl rfl (rfl) (rfl) ?_
  refine VS.iconst (0) dX7_undo_20 rfl ?_
  refine VS.istore_n dX7_undo_21 (by decide) rfl ?_
  refine VS.stt (S2 := upC (up2 M 0 2 (nI q)) 1 (putR (M 1) (fun k => M 2 (182 * q + k)) 0 0)) (upC_self (by rw [putR_0]; rfl)).symm ?_
  refine VS.forS (i0 := 0) (182) (fun i => upC (up2 M 0 2 (nI q)) 1 (putR (M 1) (fun k => M 2 (182 * q + k)) 0 i)) (fun i => [some (.ref 0), some (.int (nI i))]) (by decide) ?_ (fun i hi ih => ?_)
  · refine VS.iload_n dX7_undo_22 rfl ?_
    refine VS.sipush (182) dX7_undo_23 rfl ?_
    refine VS.icmp_ge 56 dX7_undo_26 (by decide) (fun _ => ?_) (fun hh => absurd (by decide) hh)
    refine VS.aload_n dX7_undo_56 rfl ?_
    refine VS.sgetI 6 dX7_undo_57 uw_X7 rfl (by decide) 2 rfl rfl (by decide) fl_X7_33 rfl ?_
    refine VS.val (y := nI q) rfl ?_
    exact VS.iret dX7_undo_60 (rfl) (shk rfl)
  · refine VS.iload_n dX7_undo_22 rfl ?_
    refine VS.sipush (182) dX7_undo_23 rfl ?_
    refine VS.icmp_ge 56 dX7_undo_26 (by decide) (fun hh => absurd hh (nge182 hi)) (fun _ => ?_)
    refine VS.aload_n dX7_undo_29 rfl ?_
    refine VS.sgetR 6 dX7_undo_30 uw_X7 rfl (by decide) 0 rfl rfl (by decide) fl_X7_7 rfl ?_
    refine VS.iload_n dX7_undo_33 rfl ?_
    refine VS.aload_n dX7_undo_34 rfl ?_
    refine VS.sgetR 6 dX7_undo_35 uw_X7 rfl (by decide) 1 rfl rfl (by decide) fl_X7_13 rfl ?_
    refine VS.sipush (182) dX7_undo_38 rfl ?_
    refine VS.aload_n dX7_undo_41 rfl ?_
    refine VS.sgetI 6 dX7_undo_42 uw_X7 rfl (by decide) 2 rfl rfl (by decide) fl_X7_33 rfl ?_
    refine VS.val (y := nI q) rfl ?_
    refine VS.imul dX7_undo_45 ?_
    refine VS.iload_n dX7_undo_46 rfl ?_
    refine VS.iadd dX7_undo_47 ?_
    refine VS.siald (182 * q + i) dX7_undo_48 (by decide) rfl (mul182) (by omega) (by decide) ?_
    refine VS.val (y := M 2 (182 * q + i)) rfl ?_
    refine VS.siast (i) dX7_undo_49 (by decide) rfl (rfl) (by omega) (by decide) ?_
    refine VS.stt (S2 := upC (up2 M 0 2 (nI q)) 1 (putR (M 1) (fun k => M 2 (182 * q + k)) 0 (i + 1))) (by rw [up2, upC_upC, upC_at, ← putR_s, Nat.zero_add]) ?_
    refine VS.iinc (nI (i + 1)) dX7_undo_50 rfl (by decide) ((nI_succ i).symm) rfl ?_
    refine VS.goto 22 dX7_undo_53 (by decide) ?_
    exact ih
set_option maxRecDepth 100000 in
set_option maxHeartbeats 4000000 in
theorem ct_X7_undo_no (l : Launch) (M : SS)  (hp6 : M 0 2 = 0) : CtS l yX7_undo cX7_undo 2 (some FieldType.int) (rmD 0) [.ref 0] 7 shM M (some (.int (-5))) (M) := by
  refine CtF.of (own := RX7) [some (.ref 0), none] (by decide +kernel) rfl (fun _ => Nat.le_of_ble_eq_true rfl) (fun _ => rfl) ?_
  refine VS.aload_n dX7_undo_0 rfl ?_
  refine VS.sgetI 6 dX7_undo_1 uw_X7 rfl (by decide) 2 rfl rfl (by decide) fl_X7_33 rfl ?_
  refine VS.if_ne 10 dX7_undo_4 (by decide) (fun hh => absurd (hp6) hh) (fun _ => ?_)
  refine VS.bipush (-5) dX7_undo_7 rfl ?_
  exact VS.iret dX7_undo_9 (rfl) (fun _ _ => rfl)
def mSave (M : SS) (q : Nat) : SS := upC (upC M 3 (putR (M 3) (M 1) (182 * q) 182)) 4 (upd (M 4) q 1)
theorem q_v {k : Nat} (h : k < 2) : ¬ (if 0 ≤ nI k ∧ nI k ≤ 1 then (1 : Int32) else 0) = 0 := by revert k; decide +kernel
set_option maxRecDepth 100000 in
set_option maxHeartbeats 4000000 in
theorem ct_X7_save (l : Launch) (M : SS)  {q : Nat} (hq : q < 2) : CtS l yX7_save cX7_save 3 (some FieldType.int) (rmD 1) [.ref 0, .int (nI q)] 7 shM M (some (.int (pcI (M 1 0)))) (mSave M q) := by
  refine CtF.of (own := RX7) [some (.ref 0), some (.int (nI q)), none] (by decide +kernel) rfl (fun _ => Nat.le_of_ble_eq_true rfl) (fun _ => rfl) ?_
  refine VS.iload_n dX7_save_0 rfl ?_
  refine VS.iconst (0) dX7_save_1 rfl ?_
  refine VS.iconst (1) dX7_save_2 rfl ?_
  refine VS.callN (ct_X7_in l _ _ _) dX7_save_3 mi_X7_in st_X7_in ml_X7_29 (rmOk_D (by decide) (by decide)) (Nat.le_of_ble_eq_true rfl) rfl ?_
  refine VS.if_ne 12 dX7_save_6 (by decide) (fun _ => ?_) (fun hh => absurd hh (q_v hq))
  refine VS.iconst (0) dX7_save_12 rfl ?_
  refine VS.istore_n dX7_save_13 (by decide) rfl ?_
  refine VS.stt (S2 := upC M 3 (putR (M 3) (M 1) (182 * q) 0)) (upC_self (putR_0 _ _ _)).symm ?_
  refine VS.forS (i0 := 0) (182) (fun i => upC M 3 (putR (M 3) (M 1) (182 * q) i)) (fun i => [some (.ref 0), some (.int (nI q)), some (.int (nI i))]) (by decide) ?_ (fun i hi ih => ?_)
  · refine VS.iload_n dX7_save_14 rfl ?_
    refine VS.sipush (182) dX7_save_15 rfl ?_
    refine VS.icmp_ge 45 dX7_save_18 (by decide) (fun _ => ?_) (fun hh => absurd (by decide) hh)
    refine VS.aload_n dX7_save_45 rfl ?_
    refine VS.sgetR 6 dX7_save_46 uw_X7 rfl (by decide) 4 rfl rfl (by decide) fl_X7_19 rfl ?_
    refine VS.iload_n dX7_save_49 rfl ?_
    refine VS.iconst (1) dX7_save_50 rfl ?_
    refine VS.szast (q) dX7_save_51 (by decide) rfl (rfl) (hq) (by decide) ?_
    refine VS.stt (S2 := mSave M q) (by rw [show vp_nar .boolean (1 : Int32) = 1 from rfl]; rfl) ?_
    refine VS.aload_n dX7_save_52 rfl ?_
    refine VS.sgetR 6 dX7_save_53 uw_X7 rfl (by decide) 0 rfl rfl (by decide) fl_X7_7 rfl ?_
    refine VS.iconst (0) dX7_save_56 rfl ?_
    refine VS.siald (0) dX7_save_57 (by decide) rfl (rfl) (by decide) (by decide) ?_
    refine VS.val (y := M 1 0) rfl ?_
    refine VS.callN (ct_X7_many l _) dX7_save_58 mi_X7_many st_X7_many ml_X7_55 (rmOk_D (by decide) (by decide)) (Nat.le_of_ble_eq_true rfl) rfl ?_
    exact VS.iret dX7_save_61 (rfl) (shk rfl)
  · refine VS.iload_n dX7_save_14 rfl ?_
    refine VS.sipush (182) dX7_save_15 rfl ?_
    refine VS.icmp_ge 45 dX7_save_18 (by decide) (fun hh => absurd hh (nge182 hi)) (fun _ => ?_)
    refine VS.aload_n dX7_save_21 rfl ?_
    refine VS.sgetR 6 dX7_save_22 uw_X7 rfl (by decide) 3 rfl rfl (by decide) fl_X7_16 rfl ?_
    refine VS.sipush (182) dX7_save_25 rfl ?_
    refine VS.iload_n dX7_save_28 rfl ?_
    refine VS.imul dX7_save_29 ?_
    refine VS.iload_n dX7_save_30 rfl ?_
    refine VS.iadd dX7_save_31 ?_
    refine VS.aload_n dX7_save_32 rfl ?_
    refine VS.sgetR 6 dX7_save_33 uw_X7 rfl (by decide) 0 rfl rfl (by decide) fl_X7_7 rfl ?_
    refine VS.iload_n dX7_save_36 rfl ?_
    refine VS.siald (i) dX7_save_37 (by decide) rfl (rfl) (by omega) (by decide) ?_
    refine VS.val (y := M 1 i) rfl ?_
    refine VS.siast (182 * q + i) dX7_save_38 (by decide) rfl (mul182) (by omega) (by decide) ?_
    refine VS.stt (S2 := upC M 3 (putR (M 3) (M 1) (182 * q) (i + 1))) (by rw [up2, upC_upC, upC_at, ← putR_s]) ?_
    refine VS.iinc (nI (i + 1)) dX7_save_39 rfl (by decide) ((nI_succ i).symm) rfl ?_
    refine VS.goto 14 dX7_save_42 (by decide) ?_
    exact ih
set_option maxRecDepth 100000 in
set_option maxHeartbeats 4000000 in
theorem ct_X7_save_no (l : Launch) (M : SS) (q : Int32) (hn : ¬ (0 ≤ q ∧ q ≤ 1)) : CtS l yX7_save cX7_save 3 (some FieldType.int) (rmD 1) [.ref 0, .int q] 7 shM M (some (.int (-2))) (M) := by
  refine CtF.of (own := RX7) [some (.ref 0), some (.int q), none] (by decide +kernel) rfl (fun _ => Nat.le_of_ble_eq_true rfl) (fun _ => rfl) ?_
  refine VS.iload_n dX7_save_0 rfl ?_
  refine VS.iconst (0) dX7_save_1 rfl ?_
  refine VS.iconst (1) dX7_save_2 rfl ?_
  refine VS.callN (ct_X7_in l _ _ _) dX7_save_3 mi_X7_in st_X7_in ml_X7_29 (rmOk_D (by decide) (by decide)) (Nat.le_of_ble_eq_true rfl) rfl ?_
  refine VS.if_ne 12 dX7_save_6 (by decide) (fun hh => absurd (if_neg hn) hh) (fun _ => ?_)
  refine VS.bipush (-2) dX7_save_9 rfl ?_
  exact VS.iret dX7_save_11 (rfl) (fun _ _ => rfl)
def mRest (M : SS) (np q : Nat) : SS := upC (rRec M np) 1 (putR (M 1) (fun k => M 3 (182 * q + k)) 0 182)
set_option maxRecDepth 100000 in
set_option maxHeartbeats 4000000 in
theorem ct_X7_restore (l : Launch) (M : SS)  {np : Nat} (hp6 : M 0 2 = nI np) (h6 : np ≤ 6) {q : Nat} (hq : q < 2) (hk : ¬ M 4 q = 0) : CtS l yX7_restore cX7_restore 3 (some FieldType.int) (rmD 2) [.ref 0, .int (nI q)] 7 shM M (some (.int (pcI (M 3 (182 * q))))) (mRest M np q) := by
  refine CtF.of (own := RX7) [some (.ref 0), some (.int (nI q)), none] (by decide +kernel) rfl (fun _ => Nat.le_of_ble_eq_true rfl) (fun _ => rfl) ?_
  refine VS.iload_n dX7_restore_0 rfl ?_
  refine VS.iconst (0) dX7_restore_1 rfl ?_
  refine VS.iconst (1) dX7_restore_2 rfl ?_
  refine VS.callN (ct_X7_in l _ _ _) dX7_restore_3 mi_X7_in st_X7_in ml_X7_29 (rmOk_D (by decide) (by decide)) (Nat.le_of_ble_eq_true rfl) rfl ?_
  refine VS.if_ne 12 dX7_restore_6 (by decide) (fun _ => ?_) (fun hh => absurd hh (q_v hq))
  refine VS.aload_n dX7_restore_12 rfl ?_
  refine VS.sgetR 6 dX7_restore_13 uw_X7 rfl (by decide) 4 rfl rfl (by decide) fl_X7_19 rfl ?_
  refine VS.iload_n dX7_restore_16 rfl ?_
  refine VS.szald (q) dX7_restore_17 (by decide) rfl (rfl) (hq) (by decide) ?_
  refine VS.val (y := M 4 q) rfl ?_
  refine VS.if_ne 24 dX7_restore_18 (by decide) (fun _ => ?_) (fun hh => absurd hh (hk))
  refine VS.aload_n dX7_restore_24 rfl ?_
  refine VS.callT (ct_X7_records l _ hp6 h6) dX7_restore_25 mi_X7_records im_X7_records sel_X7_records ml_X7_64 (by decide) rfl rfl (rmOk_D (by decide) (by decide)) (Nat.le_of_ble_eq_true rfl) rfl ?_
  refine VS.iconst (0) dX7_restore_28 rfl ?_
  refine VS.istore_n dX7_restore_29 (by decide) rfl ?_
  refine VS.stt (S2 := upC (rRec M np) 1 (putR (M 1) (fun k => M 3 (182 * q + k)) 0 0)) (upC_self (by rw [putR_0]; rfl)).symm ?_
  refine VS.forS (i0 := 0) (182) (fun i => upC (rRec M np) 1 (putR (M 1) (fun k => M 3 (182 * q + k)) 0 i)) (fun i => [some (.ref 0), some (.int (nI q)), some (.int (nI i))]) (by decide) ?_ (fun i hi ih => ?_)
  · refine VS.iload_n dX7_restore_30 rfl ?_
    refine VS.sipush (182) dX7_restore_31 rfl ?_
    refine VS.icmp_ge 61 dX7_restore_34 (by decide) (fun _ => ?_) (fun hh => absurd (by decide) hh)
    refine VS.aload_n dX7_restore_61 rfl ?_
    refine VS.sgetR 6 dX7_restore_62 uw_X7 rfl (by decide) 0 rfl rfl (by decide) fl_X7_7 rfl ?_
    refine VS.iconst (0) dX7_restore_65 rfl ?_
    refine VS.siald (0) dX7_restore_66 (by decide) rfl (rfl) (by decide) (by decide) ?_
    refine VS.val (y := putR (M 1) (fun k => M 3 (182 * q + k)) 0 182 0) rfl ?_
    refine VS.callN (ct_X7_many l _) dX7_restore_67 mi_X7_many st_X7_many ml_X7_55 (rmOk_D (by decide) (by decide)) (Nat.le_of_ble_eq_true rfl) rfl ?_
    exact VS.iret dX7_restore_70 (rfl) (shk rfl)
  · refine VS.iload_n dX7_restore_30 rfl ?_
    refine VS.sipush (182) dX7_restore_31 rfl ?_
    refine VS.icmp_ge 61 dX7_restore_34 (by decide) (fun hh => absurd hh (nge182 hi)) (fun _ => ?_)
    refine VS.aload_n dX7_restore_37 rfl ?_
    refine VS.sgetR 6 dX7_restore_38 uw_X7 rfl (by decide) 0 rfl rfl (by decide) fl_X7_7 rfl ?_
    refine VS.iload_n dX7_restore_41 rfl ?_
    refine VS.aload_n dX7_restore_42 rfl ?_
    refine VS.sgetR 6 dX7_restore_43 uw_X7 rfl (by decide) 3 rfl rfl (by decide) fl_X7_16 rfl ?_
    refine VS.sipush (182) dX7_restore_46 rfl ?_
    refine VS.iload_n dX7_restore_49 rfl ?_
    refine VS.imul dX7_restore_50 ?_
    refine VS.iload_n dX7_restore_51 rfl ?_
    refine VS.iadd dX7_restore_52 ?_
    refine VS.siald (182 * q + i) dX7_restore_53 (by decide) rfl (mul182) (by omega) (by decide) ?_
    refine VS.val (y := M 3 (182 * q + i)) rfl ?_
    refine VS.siast (i) dX7_restore_54 (by decide) rfl (rfl) (by omega) (by decide) ?_
    refine VS.stt (S2 := upC (rRec M np) 1 (putR (M 1) (fun k => M 3 (182 * q + k)) 0 (i + 1))) (by rw [up2, upC_upC, upC_at, ← putR_s, Nat.zero_add]) ?_
    refine VS.iinc (nI (i + 1)) dX7_restore_55 rfl (by decide) ((nI_succ i).symm) rfl ?_
    refine VS.goto 30 dX7_restore_58 (by decide) ?_
    exact ih
set_option maxRecDepth 100000 in
set_option maxHeartbeats 4000000 in
theorem ct_X7_restore_n0 (l : Launch) (M : SS)  {q : Nat} (hq : q < 2) (hk : M 4 q = 0) : CtS l yX7_restore cX7_restore 3 (some FieldType.int) (rmD 2) [.ref 0, .int (nI q)] 7 shM M (some (.int (-5))) (M) := by
  refine CtF.of (own := RX7) [some (.ref 0), some (.int (nI q)), none] (by decide +kernel) rfl (fun _ => Nat.le_of_ble_eq_true rfl) (fun _ => rfl) ?_
  refine VS.iload_n dX7_restore_0 rfl ?_
  refine VS.iconst (0) dX7_restore_1 rfl ?_
  refine VS.iconst (1) dX7_restore_2 rfl ?_
  refine VS.callN (ct_X7_in l _ _ _) dX7_restore_3 mi_X7_in st_X7_in ml_X7_29 (rmOk_D (by decide) (by decide)) (Nat.le_of_ble_eq_true rfl) rfl ?_
  refine VS.if_ne 12 dX7_restore_6 (by decide) (fun _ => ?_) (fun hh => absurd hh (q_v hq))
  refine VS.aload_n dX7_restore_12 rfl ?_
  refine VS.sgetR 6 dX7_restore_13 uw_X7 rfl (by decide) 4 rfl rfl (by decide) fl_X7_19 rfl ?_
  refine VS.iload_n dX7_restore_16 rfl ?_
  refine VS.szald (q) dX7_restore_17 (by decide) rfl (rfl) (hq) (by decide) ?_
  refine VS.val (y := M 4 q) rfl ?_
  refine VS.if_ne 24 dX7_restore_18 (by decide) (fun hh => absurd (hk) hh) (fun _ => ?_)
  refine VS.bipush (-5) dX7_restore_21 rfl ?_
  exact VS.iret dX7_restore_23 (rfl) (fun _ _ => rfl)
set_option maxRecDepth 100000 in
set_option maxHeartbeats 4000000 in
theorem ct_X7_restore_no (l : Launch) (M : SS) (q : Int32) (hn : ¬ (0 ≤ q ∧ q ≤ 1)) : CtS l yX7_restore cX7_restore 3 (some FieldType.int) (rmD 2) [.ref 0, .int q] 7 shM M (some (.int (-2))) (M) := by
  refine CtF.of (own := RX7) [some (.ref 0), some (.int q), none] (by decide +kernel) rfl (fun _ => Nat.le_of_ble_eq_true rfl) (fun _ => rfl) ?_
  refine VS.iload_n dX7_restore_0 rfl ?_
  refine VS.iconst (0) dX7_restore_1 rfl ?_
  refine VS.iconst (1) dX7_restore_2 rfl ?_
  refine VS.callN (ct_X7_in l _ _ _) dX7_restore_3 mi_X7_in st_X7_in ml_X7_29 (rmOk_D (by decide) (by decide)) (Nat.le_of_ble_eq_true rfl) rfl ?_
  refine VS.if_ne 12 dX7_restore_6 (by decide) (fun hh => absurd (if_neg hn) hh) (fun _ => ?_)
  refine VS.bipush (-2) dX7_restore_9 rfl ?_
  exact VS.iret dX7_restore_11 (rfl) (fun _ _ => rfl)
