/-! the reference: its loops over rows -/
def kI (M : SS) (rev : Int32) (i : Nat) : Int32 := itN (swp (M 1 0)) rev i
def kJ (M : SS) (rev : Int32) (i j : Nat) : Int32 := swJ (M 1 0) (kI M rev i) j
def FL0 (M : SS) (rev : Int32) (i : Nat) : Int32 := if i = 0 then 1 else if kI M rev i = kI M rev (i - 1) then 0 else 1
def swF (M : SS) (rev : Int32) (i j : Nat) : Int32 := if kJ M rev i j = kI M rev i then 0 else 1
def kn0 (M : SS) (k : Int32) : SS := upC M 0 (upd (upd (M 0) 7 k) 8 (k &&& M 1 0))
/-- behind follows: known and there -/
def rKn (s : Nat → Int32) (rev : Int32) : Int32 := if 0 < s 6 then KK (s 0) rev else 0
def rFol (M : SS) (rev : Int32) : SS := kn0 M (rKn (M 1) rev)
theorem FL0_0 {M : SS} {rev : Int32} {i : Nat} (hi : i ≤ 29) (h : FL0 M rev i = 0) : kI M rev i = KK (M 1 0) rev := by
  unfold FL0 at h
  by_cases h0 : i = 0
  · rw [if_pos h0] at h; exact absurd h (by decide)
  · rw [if_neg h0] at h
    by_cases h1 : kI M rev i = kI M rev (i - 1)
    · have h2 : itN (swp (M 1 0)) rev (i - 1 + 1) = itN (swp (M 1 0)) rev (i - 1) := by rw [show i - 1 + 1 = i by omega]; exact h1
      rw [h1]
      exact (itN_stop (n := 28) h2 (by omega)).symm
    · rw [if_neg h1] at h; exact absurd h (by decide)
theorem FL0_N (M : SS) (rev : Int32) : FL0 M rev 29 = 0 := (if_neg (by decide)).trans (if_pos (KK_stop _ _))
theorem kn0_put {M : SS} {k k2 o x : Int32} (h1 : k2 = k ||| o) (h2 : k2 &&& M 1 0 = (k &&& M 1 0) ||| x) : up2 (up2 (kn0 M k) 0 8 ((k &&& M 1 0) ||| x)) 0 7 (k ||| o) = kn0 M k2 := by
  unfold kn0 up2
  rw [upC_upC, upC_upC, upC_at, upC_at, ← h2, ← h1, upd_upd, upd_comm _ _ _ (by decide), upd_upd]
theorem kn0_two (M : SS) (k : Int32) : up2 (up2 M 0 7 k) 0 8 (k &&& M 1 0) = kn0 M k := by
  unfold kn0 up2
  rw [upC_upC, upC_at]
theorem kJ_same {M : SS} {rev : Int32} {i j : Nat} (h : folJ (M 1 0) (kJ M rev i j) j = 0) : kJ M rev i (j + 1) = kJ M rev i j := (congrArg (fun z => kJ M rev i j ||| z) h).trans Int32.or_zero
theorem swF_same {M : SS} {rev : Int32} {i j : Nat} (h : kJ M rev i (j + 1) = kJ M rev i j) : swF M rev i (j + 1) = swF M rev i j := by unfold swF; rw [h]
theorem kJ_on {M : SS} {rev : Int32} {i j : Nat} (h : folJ (M 1 0) (kJ M rev i j) j = k_at j &&& (kJ M rev i j ^^^ -1)) : kJ M rev i (j + 1) = kJ M rev i j ||| (k_at j &&& (kJ M rev i j ^^^ -1)) := congrArg (fun z => kJ M rev i j ||| z) h
theorem swF_on {M : SS} {rev : Int32} {i j : Nat} (h : folJ (M 1 0) (kJ M rev i j) j = k_at j &&& (kJ M rev i j ^^^ -1)) (h2 : ¬ k_at j &&& (kJ M rev i j ^^^ -1) = 0) : (1 : Int32) = swF M rev i (j + 1) := by
  unfold swF
  rw [kJ_on h]
  exact (if_neg (swJ_ne (r := M 1 0) (k := kI M rev i) h2)).symm
theorem hb1 {M : SS} (h : 0 < M 1 6) (rev : Int32) : kn0 M (KK (M 1 0) rev) = rFol M rev := by unfold rFol rKn; rw [if_pos h]
theorem hb0 {M : SS} (h : ¬ 0 < M 1 6) (rev : Int32) : kn0 M 0 = rFol M rev := by unfold rFol rKn; rw [if_neg h]

set_option maxRecDepth 100000 in
set_option maxHeartbeats 4000000 in
theorem ct_X7_follows (l : Launch) (M : SS) (rev : Int32) : CtS l yX7_follows cX7_follows 8 none (rmD 2) [.ref 0, .int rev] 7 shM M (none) (rFol M rev) := by
  refine CtF.of (own := RX7) [some (.ref 0), some (.int rev), none, none, none, none, none, none] (by decide +kernel) rfl (fun _ => Nat.le_of_ble_eq_true rfl) (fun _ => rfl) ?_
  by_cases hb : 0 < M 1 6
  · refine VS.aload_n dX7_follows_0 rfl ?_
    refine VS.aload_n dX7_follows_1 rfl ?_
    refine VS.callT (ct_X7_hasBegun l _) dX7_follows_2 mi_X7_hasBegun im_X7_hasBegun sel_X7_hasBegun ml_X7_41 (by decide) rfl rfl (rmOk_D (by decide) (by decide)) (Nat.le_of_ble_eq_true rfl) rfl ?_
    refine VS.val (y := 1) (if_pos hb) ?_
    refine VS.if_eq 12 dX7_follows_5 (by decide) (fun hh => absurd hh (by decide)) (fun _ => ?_)
    refine VS.iload_n dX7_follows_8 rfl ?_
    refine VS.goto 13 dX7_follows_9 (by decide) ?_
    refine VS.sput 6 dX7_follows_13 uw_X7 tyX7 tyX7_ok nmX7 rfl (by decide) 7 rfl rfl (by decide) fl_X7_45 rfl rfl (rfl) (rfl) ?_
    refine VS.aload_n dX7_follows_16 rfl ?_
    refine VS.aload_n dX7_follows_17 rfl ?_
    refine VS.sgetI 6 dX7_follows_18 uw_X7 rfl (by decide) 7 rfl rfl (by decide) fl_X7_45 rfl ?_
    refine VS.val (y := rev) rfl ?_
    refine VS.aload_n dX7_follows_21 rfl ?_
    refine VS.sgetR 6 dX7_follows_22 uw_X7 rfl (by decide) 0 rfl rfl (by decide) fl_X7_7 rfl ?_
    refine VS.iconst (0) dX7_follows_25 rfl ?_
    refine VS.siald (0) dX7_follows_26 (by decide) rfl (rfl) (by decide) (by decide) ?_
    refine VS.val (y := M 1 0) rfl ?_
    refine VS.iand dX7_follows_27 ?_
    refine VS.sput 6 dX7_follows_28 uw_X7 tyX7 tyX7_ok nmX7 rfl (by decide) 8 rfl rfl (by decide) fl_X7_48 rfl rfl (rfl) (rfl) ?_
    refine VS.stt (S2 := kn0 M rev) (kn0_two M rev) ?_
    refine VS.aload_n dX7_follows_31 rfl ?_
    refine VS.callT (ct_X7_hasBegun l _) dX7_follows_32 mi_X7_hasBegun im_X7_hasBegun sel_X7_hasBegun ml_X7_41 (by decide) rfl rfl (rmOk_D (by decide) (by decide)) (Nat.le_of_ble_eq_true rfl) rfl ?_
    refine VS.val (y := 1) (if_pos hb) ?_
    refine VS.istore_n dX7_follows_35 (by decide) rfl ?_
    refine VS.forS (i0 := 0) (29) (fun i => kn0 M (kI M rev i)) (fun i => [some (.ref 0), some (.int rev), some (.int (FL0 M rev i)), none, none, none, none, none]) (by decide) ?_ (fun i hi ih => ?_)
    · refine VS.iload_n dX7_follows_36 rfl ?_
      refine VS.if_eq 162 dX7_follows_37 (by decide) (fun _ => ?_) (fun hh => absurd (FL0_N _ _) hh)
      exact VS.vret dX7_follows_162 rfl (fun k _ => by rw [FL0_0 (by omega) (by first | exact FL0_N _ _ | exact h_37), hb1 hb])
    · refine VS.iload_n dX7_follows_36 rfl ?_
      refine VS.if_eq 162 dX7_follows_37 (by decide) (fun h_37 => ?_) (fun h_37 => ?_)
      · exact VS.vret dX7_follows_162 rfl (fun k _ => by rw [FL0_0 (by omega) (by first | exact FL0_N _ _ | exact h_37), hb1 hb])
      · refine VS.iconst (0) dX7_follows_40 rfl ?_
        refine VS.val (y := swF M rev i 0) (if_pos rfl).symm ?_
        refine VS.istore_n dX7_follows_41 (by decide) rfl ?_
        refine VS.iconst (0) dX7_follows_42 rfl ?_
        refine VS.istore_n dX7_follows_43 (by decide) rfl ?_
        refine VS.forS (i0 := 0) (8) (fun j => kn0 M (kJ M rev i j)) (fun j => [some (.ref 0), some (.int rev), some (.int (swF M rev i j)), some (.int (nI j)), none, none, none, none]) (by decide) ?_ (fun j hj jh => ?_)
        · refine VS.iload_n dX7_follows_44 rfl ?_
          refine VS.bipush (8) dX7_follows_45 rfl ?_
          refine VS.icmp_ge 159 dX7_follows_47 (by decide) (fun _ => ?_) (fun hh => absurd (by decide) hh)
          refine VS.goto 36 dX7_follows_159 (by decide) ?_
          exact VS.forget 3 (VS.forget 4 (VS.forget 5 (VS.forget 6 (VS.forget 7 ih))))
        · refine VS.iload_n dX7_follows_44 rfl ?_
          refine VS.bipush (8) dX7_follows_45 rfl ?_
          refine VS.icmp_ge 159 dX7_follows_47 (by decide) (fun hh => absurd hh (nge8 hj)) (fun _ => ?_)
          refine VS.iload_n dX7_follows_50 rfl ?_
          refine VS.callN (ct_X7_around l hj) dX7_follows_51 mi_X7_around st_X7_around ml_X7_51 (rmOk_D (by decide) (by decide)) (Nat.le_of_ble_eq_true rfl) rfl ?_
          refine VS.istore dX7_follows_54 (by decide) rfl ?_
          refine VS.iload dX7_follows_56 rfl ?_
          refine VS.aload_n dX7_follows_58 rfl ?_
          refine VS.sgetI 6 dX7_follows_59 uw_X7 rfl (by decide) 7 rfl rfl (by decide) fl_X7_45 rfl ?_
          refine VS.val (y := kJ M rev i j) rfl ?_
          refine VS.iconst (-1) dX7_follows_62 rfl ?_
          refine VS.ixor dX7_follows_63 ?_
          refine VS.iand dX7_follows_64 ?_
          refine VS.istore dX7_follows_65 (by decide) rfl ?_
          refine VS.iload dX7_follows_67 rfl ?_
          refine VS.aload_n dX7_follows_69 rfl ?_
          refine VS.sgetR 6 dX7_follows_70 uw_X7 rfl (by decide) 0 rfl rfl (by decide) fl_X7_7 rfl ?_
          refine VS.iconst (0) dX7_follows_73 rfl ?_
          refine VS.siald (0) dX7_follows_74 (by decide) rfl (rfl) (by decide) (by decide) ?_
          refine VS.val (y := M 1 0) rfl ?_
          refine VS.iand dX7_follows_75 ?_
          refine VS.callN (ct_X7_many l _) dX7_follows_76 mi_X7_many st_X7_many ml_X7_55 (rmOk_D (by decide) (by decide)) (Nat.le_of_ble_eq_true rfl) rfl ?_
          refine VS.istore dX7_follows_79 (by decide) rfl ?_
          refine VS.iload dX7_follows_81 rfl ?_
          refine VS.aload_n dX7_follows_83 rfl ?_
          refine VS.sgetI 6 dX7_follows_84 uw_X7 rfl (by decide) 8 rfl rfl (by decide) fl_X7_48 rfl ?_
          refine VS.val (y := kJ M rev i j &&& M 1 0) rfl ?_
          refine VS.iand dX7_follows_87 ?_
          refine VS.callN (ct_X7_many l _) dX7_follows_88 mi_X7_many st_X7_many ml_X7_55 (rmOk_D (by decide) (by decide)) (Nat.le_of_ble_eq_true rfl) rfl ?_
          refine VS.val (y := pcI (k_at j &&& M 1 0 &&& kJ M rev i j)) (by rw [fol_and]) ?_
          refine VS.istore dX7_follows_91 (by decide) rfl ?_
          refine VS.iload dX7_follows_93 rfl ?_
          refine VS.if_eq 153 dX7_follows_95 (by decide) (fun h_95 => ?_) (fun h_95 => ?_)
          · have e1 := kJ_same (fol_0 h_95)
            rw [e1, swF_same e1] at jh
            refine VS.iinc (nI (j + 1)) dX7_follows_153 rfl (by decide) ((nI_succ j).symm) rfl ?_
            refine VS.goto 44 dX7_follows_156 (by decide) ?_
            exact VS.forget 4 (VS.forget 5 (VS.forget 6 (VS.forget 7 jh)))
          · refine VS.iload dX7_follows_98 rfl ?_
            refine VS.iload dX7_follows_100 rfl ?_
            refine VS.icmp_eq 118 dX7_follows_102 (by decide) (fun h_102 => ?_) (fun h_102 => ?_)
            · refine VS.aload_n dX7_follows_118 rfl ?_
              refine VS.dup dX7_follows_119 rfl ?_
              refine VS.sgetI 6 dX7_follows_120 uw_X7 rfl (by decide) 8 rfl rfl (by decide) fl_X7_48 rfl ?_
              refine VS.val (y := kJ M rev i j &&& M 1 0) rfl ?_
              refine VS.iload dX7_follows_123 rfl ?_
              refine VS.iload dX7_follows_125 rfl ?_
              refine VS.icmp_ne 134 dX7_follows_127 (by decide) (fun hh => absurd (h_102) hh) (fun _ => ?_)
              refine VS.iconst (0) dX7_follows_130 rfl ?_
              refine VS.goto 136 dX7_follows_131 (by decide) ?_
              refine VS.ior dX7_follows_136 ?_
              refine VS.sput 6 dX7_follows_137 uw_X7 tyX7 tyX7_ok nmX7 rfl (by decide) 8 rfl rfl (by decide) fl_X7_48 rfl rfl (rfl) (rfl) ?_
              refine VS.aload_n dX7_follows_140 rfl ?_
              refine VS.dup dX7_follows_141 rfl ?_
              refine VS.sgetI 6 dX7_follows_142 uw_X7 rfl (by decide) 7 rfl rfl (by decide) fl_X7_45 rfl ?_
              refine VS.val (y := kJ M rev i j) rfl ?_
              refine VS.iload dX7_follows_145 rfl ?_
              refine VS.ior dX7_follows_147 ?_
              refine VS.sput 6 dX7_follows_148 uw_X7 tyX7 tyX7_ok nmX7 rfl (by decide) 7 rfl rfl (by decide) fl_X7_45 rfl rfl (rfl) (rfl) ?_
              refine VS.stt (S2 := kn0 M (kJ M rev i (j + 1))) (kn0_put (kJ_on (folJ_y h_102)) (by rw [kJ_on (folJ_y h_102)]; exact fol_t1 h_102)) ?_
              refine VS.iconst (1) dX7_follows_151 rfl ?_
              refine VS.val (y := swF M rev i (j + 1)) (swF_on (folJ_y h_102) h_95) ?_
              refine VS.istore_n dX7_follows_152 (by decide) rfl ?_
              refine VS.iinc (nI (j + 1)) dX7_follows_153 rfl (by decide) ((nI_succ j).symm) rfl ?_
              refine VS.goto 44 dX7_follows_156 (by decide) ?_
              exact VS.forget 4 (VS.forget 5 (VS.forget 6 (VS.forget 7 jh)))
            · refine VS.iload dX7_follows_105 rfl ?_
              refine VS.iload dX7_follows_107 rfl ?_
              refine VS.callN (ct_X7_many l _) dX7_follows_109 mi_X7_many st_X7_many ml_X7_55 (rmOk_D (by decide) (by decide)) (Nat.le_of_ble_eq_true rfl) rfl ?_
              refine VS.iadd dX7_follows_112 ?_
              refine VS.iload dX7_follows_113 rfl ?_
              refine VS.icmp_ne 153 dX7_follows_115 (by decide) (fun h_115 => ?_) (fun h_115 => ?_)
              · have e1 := kJ_same (folJ_n h_102 h_115)
                rw [e1, swF_same e1] at jh
                refine VS.iinc (nI (j + 1)) dX7_follows_153 rfl (by decide) ((nI_succ j).symm) rfl ?_
                refine VS.goto 44 dX7_follows_156 (by decide) ?_
                exact VS.forget 4 (VS.forget 5 (VS.forget 6 (VS.forget 7 jh)))
              · refine VS.aload_n dX7_follows_118 rfl ?_
                refine VS.dup dX7_follows_119 rfl ?_
                refine VS.sgetI 6 dX7_follows_120 uw_X7 rfl (by decide) 8 rfl rfl (by decide) fl_X7_48 rfl ?_
                refine VS.val (y := kJ M rev i j &&& M 1 0) rfl ?_
                refine VS.iload dX7_follows_123 rfl ?_
                refine VS.iload dX7_follows_125 rfl ?_
                refine VS.icmp_ne 134 dX7_follows_127 (by decide) (fun _ => ?_) (fun hh => absurd hh (h_102))
                refine VS.iload dX7_follows_134 rfl ?_
                refine VS.ior dX7_follows_136 ?_
                refine VS.sput 6 dX7_follows_137 uw_X7 tyX7 tyX7_ok nmX7 rfl (by decide) 8 rfl rfl (by decide) fl_X7_48 rfl rfl (rfl) (rfl) ?_
                refine VS.aload_n dX7_follows_140 rfl ?_
                refine VS.dup dX7_follows_141 rfl ?_
                refine VS.sgetI 6 dX7_follows_142 uw_X7 rfl (by decide) 7 rfl rfl (by decide) fl_X7_45 rfl ?_
                refine VS.val (y := kJ M rev i j) rfl ?_
                refine VS.iload dX7_follows_145 rfl ?_
                refine VS.ior dX7_follows_147 ?_
                refine VS.sput 6 dX7_follows_148 uw_X7 tyX7 tyX7_ok nmX7 rfl (by decide) 7 rfl rfl (by decide) fl_X7_45 rfl rfl (rfl) (rfl) ?_
                refine VS.stt (S2 := kn0 M (kJ M rev i (j + 1))) (kn0_put (kJ_on (folJ_z h_115)) (by rw [kJ_on (folJ_z h_115)]; exact fol_t2 h_115)) ?_
                refine VS.iconst (1) dX7_follows_151 rfl ?_
                refine VS.val (y := swF M rev i (j + 1)) (swF_on (folJ_z h_115) h_95) ?_
                refine VS.istore_n dX7_follows_152 (by decide) rfl ?_
                refine VS.iinc (nI (j + 1)) dX7_follows_153 rfl (by decide) ((nI_succ j).symm) rfl ?_
                refine VS.goto 44 dX7_follows_156 (by decide) ?_
                exact VS.forget 4 (VS.forget 5 (VS.forget 6 (VS.forget 7 jh)))
  · refine VS.aload_n dX7_follows_0 rfl ?_
    refine VS.aload_n dX7_follows_1 rfl ?_
    refine VS.callT (ct_X7_hasBegun l _) dX7_follows_2 mi_X7_hasBegun im_X7_hasBegun sel_X7_hasBegun ml_X7_41 (by decide) rfl rfl (rmOk_D (by decide) (by decide)) (Nat.le_of_ble_eq_true rfl) rfl ?_
    refine VS.val (y := 0) (if_neg hb) ?_
    refine VS.if_eq 12 dX7_follows_5 (by decide) (fun _ => ?_) (fun hh => absurd (by decide) hh)
    refine VS.iconst (0) dX7_follows_12 rfl ?_
    refine VS.sput 6 dX7_follows_13 uw_X7 tyX7 tyX7_ok nmX7 rfl (by decide) 7 rfl rfl (by decide) fl_X7_45 rfl rfl (rfl) (rfl) ?_
    refine VS.aload_n dX7_follows_16 rfl ?_
    refine VS.aload_n dX7_follows_17 rfl ?_
    refine VS.sgetI 6 dX7_follows_18 uw_X7 rfl (by decide) 7 rfl rfl (by decide) fl_X7_45 rfl ?_
    refine VS.val (y := 0) rfl ?_
    refine VS.aload_n dX7_follows_21 rfl ?_
    refine VS.sgetR 6 dX7_follows_22 uw_X7 rfl (by decide) 0 rfl rfl (by decide) fl_X7_7 rfl ?_
    refine VS.iconst (0) dX7_follows_25 rfl ?_
    refine VS.siald (0) dX7_follows_26 (by decide) rfl (rfl) (by decide) (by decide) ?_
    refine VS.val (y := M 1 0) rfl ?_
    refine VS.iand dX7_follows_27 ?_
    refine VS.sput 6 dX7_follows_28 uw_X7 tyX7 tyX7_ok nmX7 rfl (by decide) 8 rfl rfl (by decide) fl_X7_48 rfl rfl (rfl) (rfl) ?_
    refine VS.stt (S2 := kn0 M 0) (kn0_two M 0) ?_
    refine VS.aload_n dX7_follows_31 rfl ?_
    refine VS.callT (ct_X7_hasBegun l _) dX7_follows_32 mi_X7_hasBegun im_X7_hasBegun sel_X7_hasBegun ml_X7_41 (by decide) rfl rfl (rmOk_D (by decide) (by decide)) (Nat.le_of_ble_eq_true rfl) rfl ?_
    refine VS.val (y := 0) (if_neg hb) ?_
    refine VS.istore_n dX7_follows_35 (by decide) rfl ?_
    refine VS.iload_n dX7_follows_36 rfl ?_
    refine VS.if_eq 162 dX7_follows_37 (by decide) (fun _ => ?_) (fun hh => absurd (rfl) hh)
    exact VS.vret dX7_follows_162 rfl (fun k _ => by rw [hb0 hb])
theorem upC_self {S : SS} {c : Nat} {f : Nat → Int32} (h : f = S c) : upC S c f = S := by rw [h, upC_id]
/-- the states kept, behind one more -/
def rRecP (M : SS) (p : Nat) : Nat → Int32 := if p = 6 then putR (putR (M 2) (fun k => M 2 (182 + k)) 0 910) (M 1) 910 182 else putR (M 2) (M 1) (182 * p) 182
def rRec (M : SS) (p : Nat) : SS := upC (upC M 2 (rRecP M p)) 0 (upd (M 0) 2 (nI (if p = 6 then 6 else p + 1)))
theorem nge910 {i : Nat} (h : i < 910) : ¬ (910 : Int32) ≤ nI i := nI_ge (b := 910) h (by decide)
theorem nge182 {i : Nat} (h : i < 182) : ¬ (182 : Int32) ≤ nI i := nI_ge (b := 182) h (by decide)
theorem rec_fin6 {M : SS} {z : Int32} (hz : z = nI 5 + 1) : up2 (upC (upC (upC M 2 (putR (M 2) (fun k => M 2 (182 + k)) 0 910)) 0 (upd (M 0) 2 (nI 5))) 2 (putR (putR (M 2) (fun k => M 2 (182 + k)) 0 910) (M 1) 910 182)) 0 2 z = rRec M 6 := by
  subst hz
  unfold rRec rRecP up2
  rw [if_pos rfl, if_pos rfl, upC_ne (by decide), upC_at, upd_upd, upC_comm _ _ _ (by decide : (0 : Nat) ≠ 2), upC_upC, upC_upC]
  rfl
theorem rec_fin {M : SS} {p : Nat} {z : Int32} (hn : ¬ p = 6) (hz : z = nI p + 1) : up2 (upC M 2 (putR (M 2) (M 1) (182 * p) 182)) 0 2 z = rRec M p := by
  subst hz
  unfold rRec rRecP up2
  rw [if_neg hn, if_neg hn, upC_ne (by decide), ← nI_succ]
theorem mul182 {p i : Nat} : (182 : Int32) * nI p + nI i = nI (182 * p + i) := by
  rw [show (182 : Int32) = nI 182 from rfl, pk_mul, nI_add]
set_option maxRecDepth 100000 in
set_option maxHeartbeats 4000000 in
theorem ct_X7_records (l : Launch) (M : SS)  {p : Nat} (hp : M 0 2 = nI p) (h6 : p ≤ 6) : CtS l yX7_records cX7_records 2 none (rmD 0) [.ref 0] 7 shM M (none) (rRec M p) := by
  refine CtF.of (own := RX7) [some (.ref 0), none] (by decide +kernel) rfl (fun _ => Nat.le_of_ble_eq_true rfl) (fun _ => rfl) ?_
  by_cases hn : p = 6
  · subst hn
    refine VS.aload_n dX7_records_0 rfl ?_
    refine VS.sgetI 6 dX7_records_1 uw_X7 rfl (by decide) 2 rfl rfl (by decide) fl_X7_33 rfl ?_
    refine VS.val (y := nI 6) hp ?_
    refine VS.bipush (6) dX7_records_4 rfl ?_
    refine VS.icmp_ne 50 dX7_records_6 (by decide) (fun hh => absurd (rfl) hh) (fun _ => ?_)
    refine VS.iconst (0) dX7_records_9 rfl ?_
    refine VS.istore_n dX7_records_10 (by decide) rfl ?_
    refine VS.stt (S2 := upC M 2 (putR (M 2) (fun k => M 2 (182 + k)) 0 0)) (upC_self (by rw [putR_0])).symm ?_
    refine VS.forS (i0 := 0) (910) (fun i => upC M 2 (putR (M 2) (fun k => M 2 (182 + k)) 0 i)) (fun i => [some (.ref 0), some (.int (nI i))]) (by decide) ?_ (fun i hi ih => ?_)
    · refine VS.iload_n dX7_records_11 rfl ?_
      refine VS.sipush (910) dX7_records_12 rfl ?_
      refine VS.icmp_ge 40 dX7_records_15 (by decide) (fun _ => ?_) (fun hh => absurd (by decide) hh)
      refine VS.aload_n dX7_records_40 rfl ?_
      refine VS.dup dX7_records_41 rfl ?_
      refine VS.sgetI 6 dX7_records_42 uw_X7 rfl (by decide) 2 rfl rfl (by decide) fl_X7_33 rfl ?_
      refine VS.val (y := nI 6) hp ?_
      refine VS.iconst (1) dX7_records_45 rfl ?_
      refine VS.isub dX7_records_46 ?_
      refine VS.sput 6 dX7_records_47 uw_X7 tyX7 tyX7_ok nmX7 rfl (by decide) 2 rfl rfl (by decide) fl_X7_33 rfl rfl (rfl) (rfl) ?_
      refine VS.stt (S2 := upC (upC M 2 (putR (M 2) (fun k => M 2 (182 + k)) 0 910)) 0 (upd (M 0) 2 (nI 5))) rfl ?_
      refine VS.iconst (0) dX7_records_50 rfl ?_
      refine VS.istore_n dX7_records_51 (by decide) rfl ?_
      refine VS.stt (S2 := upC (upC (upC M 2 (putR (M 2) (fun k => M 2 (182 + k)) 0 910)) 0 (upd (M 0) 2 (nI 5))) 2 (putR (putR (M 2) (fun k => M 2 (182 + k)) 0 910) (M 1) 910 0)) (upC_self (by rw [putR_0]; rfl)).symm ?_
      refine VS.forS (i0 := 0) (182) (fun i => upC (upC (upC M 2 (putR (M 2) (fun k => M 2 (182 + k)) 0 910)) 0 (upd (M 0) 2 (nI 5))) 2 (putR (putR (M 2) (fun k => M 2 (182 + k)) 0 910) (M 1) 910 i)) (fun i => [some (.ref 0), some (.int (nI i))]) (by decide) ?_ (fun i hi ih => ?_)
      · refine VS.iload_n dX7_records_52 rfl ?_
        refine VS.sipush (182) dX7_records_53 rfl ?_
        refine VS.icmp_ge 86 dX7_records_56 (by decide) (fun _ => ?_) (fun hh => absurd (by decide) hh)
        refine VS.aload_n dX7_records_86 rfl ?_
        refine VS.dup dX7_records_87 rfl ?_
        refine VS.sgetI 6 dX7_records_88 uw_X7 rfl (by decide) 2 rfl rfl (by decide) fl_X7_33 rfl ?_
        refine VS.val (y := nI 5) rfl ?_
        refine VS.iconst (1) dX7_records_91 rfl ?_
        refine VS.iadd dX7_records_92 ?_
        refine VS.sput 6 dX7_records_93 uw_X7 tyX7 tyX7_ok nmX7 rfl (by decide) 2 rfl rfl (by decide) fl_X7_33 rfl rfl (rfl) (rfl) ?_
        exact VS.vret dX7_records_96 rfl (fun k _ => congrArg (fun S => shW shM S k) (by exact rec_fin6 rfl))
      · refine VS.iload_n dX7_records_52 rfl ?_
        refine VS.sipush (182) dX7_records_53 rfl ?_
        refine VS.icmp_ge 86 dX7_records_56 (by decide) (fun hh => absurd hh (nge182 hi)) (fun _ => ?_)
        refine VS.aload_n dX7_records_59 rfl ?_
        refine VS.sgetR 6 dX7_records_60 uw_X7 rfl (by decide) 1 rfl rfl (by decide) fl_X7_13 rfl ?_
        refine VS.sipush (182) dX7_records_63 rfl ?_
        refine VS.aload_n dX7_records_66 rfl ?_
        refine VS.sgetI 6 dX7_records_67 uw_X7 rfl (by decide) 2 rfl rfl (by decide) fl_X7_33 rfl ?_
        refine VS.val (y := nI 5) rfl ?_
        refine VS.imul dX7_records_70 ?_
        refine VS.iload_n dX7_records_71 rfl ?_
        refine VS.iadd dX7_records_72 ?_
        refine VS.aload_n dX7_records_73 rfl ?_
        refine VS.sgetR 6 dX7_records_74 uw_X7 rfl (by decide) 0 rfl rfl (by decide) fl_X7_7 rfl ?_
        refine VS.iload_n dX7_records_77 rfl ?_
        refine VS.siald (i) dX7_records_78 (by decide) rfl (rfl) (by omega) (by decide) ?_
        refine VS.val (y := M 1 i) rfl ?_
        refine VS.siast (910 + i) dX7_records_79 (by decide) rfl (mul182 (p := 5)) (by omega) (by decide) ?_
        refine VS.stt (S2 := upC (upC (upC M 2 (putR (M 2) (fun k => M 2 (182 + k)) 0 910)) 0 (upd (M 0) 2 (nI 5))) 2 (putR (putR (M 2) (fun k => M 2 (182 + k)) 0 910) (M 1) 910 (i + 1))) (by rw [up2, upC_upC, upC_at]; exact congrArg (upC _ 2) (putR_s _ _ _ i)) ?_
        refine VS.iinc (nI (i + 1)) dX7_records_80 rfl (by decide) ((nI_succ i).symm) rfl ?_
        refine VS.goto 52 dX7_records_83 (by decide) ?_
        exact ih
    · refine VS.iload_n dX7_records_11 rfl ?_
      refine VS.sipush (910) dX7_records_12 rfl ?_
      refine VS.icmp_ge 40 dX7_records_15 (by decide) (fun hh => absurd hh (nge910 hi)) (fun _ => ?_)
      refine VS.aload_n dX7_records_18 rfl ?_
      refine VS.sgetR 6 dX7_records_19 uw_X7 rfl (by decide) 1 rfl rfl (by decide) fl_X7_13 rfl ?_
      refine VS.iload_n dX7_records_22 rfl ?_
      refine VS.aload_n dX7_records_23 rfl ?_
      refine VS.sgetR 6 dX7_records_24 uw_X7 rfl (by decide) 1 rfl rfl (by decide) fl_X7_13 rfl ?_
      refine VS.sipush (182) dX7_records_27 rfl ?_
      refine VS.iload_n dX7_records_30 rfl ?_
      refine VS.iadd dX7_records_31 ?_
      refine VS.siald (182 + i) dX7_records_32 (by decide) rfl (ix_add) (by omega) (by decide) ?_
      refine VS.val (y := M 2 (182 + i)) (by rw [upC_at, putR_out (by omega)]) ?_
      refine VS.siast (i) dX7_records_33 (by decide) rfl (rfl) (by omega) (by decide) ?_
      refine VS.stt (S2 := upC M 2 (putR (M 2) (fun k => M 2 (182 + k)) 0 (i + 1))) (by rw [up2, upC_upC, upC_at, ← putR_s, Nat.zero_add]) ?_
      refine VS.iinc (nI (i + 1)) dX7_records_34 rfl (by decide) ((nI_succ i).symm) rfl ?_
      refine VS.goto 11 dX7_records_37 (by decide) ?_
      exact ih
  · refine VS.aload_n dX7_records_0 rfl ?_
    refine VS.sgetI 6 dX7_records_1 uw_X7 rfl (by decide) 2 rfl rfl (by decide) fl_X7_33 rfl ?_
    refine VS.val (y := nI p) hp ?_
    refine VS.bipush (6) dX7_records_4 rfl ?_
    refine VS.icmp_ne 50 dX7_records_6 (by decide) (fun _ => ?_) (fun hh => absurd hh (fun q => hn ((nI_eq (by omega) (by decide)).mp (show nI p = nI 6 from q))))
    refine VS.iconst (0) dX7_records_50 rfl ?_
    refine VS.istore_n dX7_records_51 (by decide) rfl ?_
    refine VS.stt (S2 := upC (M) 2 (putR (M 2) (M 1) (182 * p) 0)) (upC_self (by rw [putR_0])).symm ?_
    refine VS.forS (i0 := 0) (182) (fun i => upC (M) 2 (putR (M 2) (M 1) (182 * p) i)) (fun i => [some (.ref 0), some (.int (nI i))]) (by decide) ?_ (fun i hi ih => ?_)
    · refine VS.iload_n dX7_records_52 rfl ?_
      refine VS.sipush (182) dX7_records_53 rfl ?_
      refine VS.icmp_ge 86 dX7_records_56 (by decide) (fun _ => ?_) (fun hh => absurd (by decide) hh)
      refine VS.aload_n dX7_records_86 rfl ?_
      refine VS.dup dX7_records_87 rfl ?_
      refine VS.sgetI 6 dX7_records_88 uw_X7 rfl (by decide) 2 rfl rfl (by decide) fl_X7_33 rfl ?_
      refine VS.val (y := nI p) hp ?_
      refine VS.iconst (1) dX7_records_91 rfl ?_
      refine VS.iadd dX7_records_92 ?_
      refine VS.sput 6 dX7_records_93 uw_X7 tyX7 tyX7_ok nmX7 rfl (by decide) 2 rfl rfl (by decide) fl_X7_33 rfl rfl (rfl) (rfl) ?_
      exact VS.vret dX7_records_96 rfl (fun k _ => congrArg (fun S => shW shM S k) (by exact rec_fin hn rfl))
    · refine VS.iload_n dX7_records_52 rfl ?_
      refine VS.sipush (182) dX7_records_53 rfl ?_
      refine VS.icmp_ge 86 dX7_records_56 (by decide) (fun hh => absurd hh (nge182 hi)) (fun _ => ?_)
      refine VS.aload_n dX7_records_59 rfl ?_
      refine VS.sgetR 6 dX7_records_60 uw_X7 rfl (by decide) 1 rfl rfl (by decide) fl_X7_13 rfl ?_
      refine VS.sipush (182) dX7_records_63 rfl ?_
      refine VS.aload_n dX7_records_66 rfl ?_
      refine VS.sgetI 6 dX7_records_67 uw_X7 rfl (by decide) 2 rfl rfl (by decide) fl_X7_33 rfl ?_
      refine VS.val (y := nI p) hp ?_
      refine VS.imul dX7_records_70 ?_
      refine VS.iload_n dX7_records_71 rfl ?_
      refine VS.iadd dX7_records_72 ?_
      refine VS.aload_n dX7_records_73 rfl ?_
      refine VS.sgetR 6 dX7_records_74 uw_X7 rfl (by decide) 0 rfl rfl (by decide) fl_X7_7 rfl ?_
      refine VS.iload_n dX7_records_77 rfl ?_
      refine VS.siald (i) dX7_records_78 (by decide) rfl (rfl) (by omega) (by decide) ?_
      refine VS.val (y := M 1 i) rfl ?_
      refine VS.siast (182 * p + i) dX7_records_79 (by decide) rfl (mul182) (by omega) (by decide) ?_
      refine VS.stt (S2 := upC (M) 2 (putR (M 2) (M 1) (182 * p) (i + 1))) (by rw [up2, upC_upC, upC_at]; exact congrArg (upC _ 2) (putR_s _ _ _ i)) ?_
      refine VS.iinc (nI (i + 1)) dX7_records_80 rfl (by decide) ((nI_succ i).symm) rfl ?_
      refine VS.goto 52 dX7_records_83 (by decide) ?_
      exact ih
