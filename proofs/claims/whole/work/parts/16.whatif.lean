/-! the reference: what if; roads that follow from one more -/
def rMore (s : Nat → Int32) (e : Int32) : Int32 := if sb (rK s) e = 1 then 0 else pcI (rKn s (s 17 ||| (1 : Int32) <<< (e &&& 31))) - pcI (rK s)
def mMore (M : SS) (e : Int32) : SS := if sb (rK (M 1)) e = 1 then rFol M (M 1 17) else rFol M (M 1 17 ||| (1 : Int32) <<< (e &&& 31))
theorem mMore_1 (M : SS) (e : Int32) : mMore M e 1 = M 1 := by
  unfold mMore; split <;> rfl
theorem stt_if {c : Prop} [Decidable c] {a b x : SS} (h : c) (e : x = a) : x = (if c then a else b) := by rw [if_pos h]; exact e
theorem stt_else {c : Prop} [Decidable c] {a b x : SS} (h : ¬ c) (e : x = b) : x = (if c then a else b) := by rw [if_neg h]; exact e
theorem shk {sh : Nat → Shp} {S S2 : SS} (h : S = S2) : ∀ k, k < 7 → shW sh S k = shW sh S2 k := fun k _ => by rw [h]
set_option maxRecDepth 100000 in
set_option maxHeartbeats 4000000 in
theorem ct_X7_more (l : Launch) (M : SS) (e : Int32) : CtS l yX7_more cX7_more 3 (some FieldType.int) (rmD 3) [.ref 0, .int e] 7 shM M (some (.int (rMore (M 1) e))) (mMore M e) := by
  refine CtF.of (own := RX7) [some (.ref 0), some (.int e), none] (by decide +kernel) rfl (fun _ => Nat.le_of_ble_eq_true rfl) (fun _ => rfl) ?_
  refine VS.aload_n dX7_more_0 rfl ?_
  refine VS.aload_n dX7_more_1 rfl ?_
  refine VS.sgetR 6 dX7_more_2 uw_X7 rfl (by decide) 0 rfl rfl (by decide) fl_X7_7 rfl ?_
  refine VS.bipush (17) dX7_more_5 rfl ?_
  refine VS.siald (17) dX7_more_7 (by decide) rfl (rfl) (by decide) (by decide) ?_
  refine VS.val (y := M 1 17) rfl ?_
  refine VS.callT (ct_X7_follows l _ _) dX7_more_8 mi_X7_follows im_X7_follows sel_X7_follows ml_X7_80 (by decide) rfl rfl (rmOk_D (by decide) (by decide)) (Nat.le_of_ble_eq_true rfl) rfl ?_
  refine VS.aload_n dX7_more_11 rfl ?_
  refine VS.sgetI 6 dX7_more_12 uw_X7 rfl (by decide) 7 rfl rfl (by decide) fl_X7_45 rfl ?_
  refine VS.val (y := rK (M 1)) rfl ?_
  refine VS.callN (ct_X7_many l _) dX7_more_15 mi_X7_many st_X7_many ml_X7_55 (rmOk_D (by decide) (by decide)) (Nat.le_of_ble_eq_true rfl) rfl ?_
  refine VS.istore_n dX7_more_18 (by decide) rfl ?_
  refine VS.aload_n dX7_more_19 rfl ?_
  refine VS.sgetI 6 dX7_more_20 uw_X7 rfl (by decide) 7 rfl rfl (by decide) fl_X7_45 rfl ?_
  refine VS.val (y := rK (M 1)) rfl ?_
  refine VS.iload_n dX7_more_23 rfl ?_
  refine VS.ishr dX7_more_24 ?_
  refine VS.iconst (1) dX7_more_25 rfl ?_
  refine VS.iand dX7_more_26 ?_
  refine VS.val (y := sb (rK (M 1)) e) rfl ?_
  refine VS.iconst (1) dX7_more_27 rfl ?_
  refine VS.icmp_ne 33 dX7_more_28 (by decide) (fun h_28 => ?_) (fun h_28 => ?_)
  · refine VS.aload_n dX7_more_33 rfl ?_
    refine VS.aload_n dX7_more_34 rfl ?_
    refine VS.sgetR 6 dX7_more_35 uw_X7 rfl (by decide) 0 rfl rfl (by decide) fl_X7_7 rfl ?_
    refine VS.bipush (17) dX7_more_38 rfl ?_
    refine VS.siald (17) dX7_more_40 (by decide) rfl (rfl) (by decide) (by decide) ?_
    refine VS.val (y := M 1 17) rfl ?_
    refine VS.iconst (1) dX7_more_41 rfl ?_
    refine VS.iload_n dX7_more_42 rfl ?_
    refine VS.ishl dX7_more_43 ?_
    refine VS.ior dX7_more_44 ?_
    refine VS.callT (ct_X7_follows l _ _) dX7_more_45 mi_X7_follows im_X7_follows sel_X7_follows ml_X7_80 (by decide) rfl rfl (rmOk_D (by decide) (by decide)) (Nat.le_of_ble_eq_true rfl) rfl ?_
    refine VS.stt (rFol_rFol M _ _) ?_
    refine VS.aload_n dX7_more_48 rfl ?_
    refine VS.sgetI 6 dX7_more_49 uw_X7 rfl (by decide) 7 rfl rfl (by decide) fl_X7_45 rfl ?_
    refine VS.val (y := rKn (M 1) (M 1 17 ||| (1 : Int32) <<< (e &&& 31))) rfl ?_
    refine VS.callN (ct_X7_many l _) dX7_more_52 mi_X7_many st_X7_many ml_X7_55 (rmOk_D (by decide) (by decide)) (Nat.le_of_ble_eq_true rfl) rfl ?_
    refine VS.iload_n dX7_more_55 rfl ?_
    refine VS.isub dX7_more_56 ?_
    exact VS.iret dX7_more_57 (congrArg (fun z => some (Value.int z)) (if_neg h_28)) (shk (stt_else h_28 rfl))
  · refine VS.iconst (0) dX7_more_31 rfl ?_
    exact VS.iret dX7_more_32 (congrArg (fun z => some (Value.int z)) (if_pos h_28)) (shk (stt_if h_28 rfl))
def rShows (s : Nat → Int32) (a b : Int32) : Int32 := if wrE a b = 0 then (if 0 < s 6 then rMore s (eI a b) else -5) else wrE a b
def mShows (M : SS) (a b : Int32) : SS := if wrE a b = 0 ∧ 0 < M 1 6 then mMore M (eI a b) else M
theorem wr_0 {a b : Int32} (h : 0 ≤ wrE a b) : wrE a b = 0 := Decidable.byContradiction fun q => absurd h (wr_lt q)
set_option maxRecDepth 100000 in
set_option maxHeartbeats 4000000 in
theorem ct_X7_shows (l : Launch) (M : SS) (a : Int32) (b : Int32) : CtS l yX7_shows cX7_shows 4 (some FieldType.int) (rmD 4) [.ref 0, .int a, .int b] 7 shM M (some (.int (rShows (M 1) a b))) (mShows M a b) := by
  refine CtF.of (own := RX7) [some (.ref 0), some (.int a), some (.int b), none] (by decide +kernel) rfl (fun _ => Nat.le_of_ble_eq_true rfl) (fun _ => rfl) ?_
  refine VS.iload_n dX7_shows_0 rfl ?_
  refine VS.iload_n dX7_shows_1 rfl ?_
  refine VS.callN (ct_X7_barPair l _ _) dX7_shows_2 mi_X7_barPair st_X7_barPair ml_X7_130 (rmOk_D (by decide) (by decide)) (Nat.le_of_ble_eq_true rfl) rfl ?_
  refine VS.istore_n dX7_shows_5 (by decide) rfl ?_
  refine VS.iload_n dX7_shows_6 rfl ?_
  refine VS.if_ge 14 dX7_shows_7 (by decide) (fun h_7 => ?_) (fun h_7 => ?_)
  · refine VS.aload_n dX7_shows_14 rfl ?_
    refine VS.callT (ct_X7_hasBegun l _) dX7_shows_15 mi_X7_hasBegun im_X7_hasBegun sel_X7_hasBegun ml_X7_41 (by decide) rfl rfl (rmOk_D (by decide) (by decide)) (Nat.le_of_ble_eq_true rfl) rfl ?_
    refine VS.if_eq 33 dX7_shows_18 (by decide) (fun h_18 => ?_) (fun h_18 => ?_)
    · refine VS.bipush (-5) dX7_shows_33 rfl ?_
      exact VS.iret dX7_shows_35 (by unfold rShows; first | rw [if_neg (fun q => h_7 (wr_ge q))] | rw [if_pos (wr_0 h_7), if_pos (ite11 h_18)] | rw [if_pos (wr_0 h_7), if_neg (ite10.mp h_18)]) (shk (by first | exact stt_else (fun q => h_7 (wr_ge q.1)) rfl | exact stt_if ⟨wr_0 h_7, ite11 h_18⟩ rfl | exact stt_else (fun q => (ite10.mp h_18) q.2) rfl))
    · refine VS.aload_n dX7_shows_21 rfl ?_
      refine VS.iload_n dX7_shows_22 rfl ?_
      refine VS.iload_n dX7_shows_23 rfl ?_
      refine VS.callN (ct_X7_edge l _ _) dX7_shows_24 mi_X7_edge st_X7_edge ml_X7_37 (rmOk_D (by decide) (by decide)) (Nat.le_of_ble_eq_true rfl) rfl ?_
      refine VS.callT (ct_X7_more l _ _) dX7_shows_27 mi_X7_more im_X7_more sel_X7_more ml_X7_154 (by decide) rfl rfl (rmOk_D (by decide) (by decide)) (Nat.le_of_ble_eq_true rfl) rfl ?_
      refine VS.goto 35 dX7_shows_30 (by decide) ?_
      exact VS.iret dX7_shows_35 (by unfold rShows; first | rw [if_neg (fun q => h_7 (wr_ge q))] | rw [if_pos (wr_0 h_7), if_pos (ite11 h_18)] | rw [if_pos (wr_0 h_7), if_neg (ite10.mp h_18)]) (shk (by first | exact stt_else (fun q => h_7 (wr_ge q.1)) rfl | exact stt_if ⟨wr_0 h_7, ite11 h_18⟩ rfl | exact stt_else (fun q => (ite10.mp h_18) q.2) rfl))
  · refine VS.iload_n dX7_shows_10 rfl ?_
    refine VS.goto 35 dX7_shows_11 (by decide) ?_
    exact VS.iret dX7_shows_35 (by unfold rShows; first | rw [if_neg (fun q => h_7 (wr_ge q))] | rw [if_pos (wr_0 h_7), if_pos (ite11 h_18)] | rw [if_pos (wr_0 h_7), if_neg (ite10.mp h_18)]) (shk (by first | exact stt_else (fun q => h_7 (wr_ge q.1)) rfl | exact stt_if ⟨wr_0 h_7, ite11 h_18⟩ rfl | exact stt_else (fun q => (ite10.mp h_18) q.2) rfl))
def bsF (s : Nat → Int32) : Nat → Int32 × Int32
  | 0 => (-6, 0)
  | i + 1 => (if (bsF s i).2 < rMore s (nI i) then nI i else (bsF s i).1, if (bsF s i).2 < rMore s (nI i) then rMore s (nI i) else (bsF s i).2)
def bsS (M : SS) : Nat → SS
  | 0 => M
  | i + 1 => mMore (bsS M i) (nI i)
theorem bsS_1 (M : SS) : ∀ i, bsS M i 1 = M 1
  | 0 => rfl
  | i + 1 => (mMore_1 _ _).trans (bsS_1 M i)
def rBest (s : Nat → Int32) (what : Int32) : Int32 := if (bsF s 28).1 = -6 ∨ what = 0 then (bsF s 28).1 else (bsF s 28).2
def rBestShow (s : Nat → Int32) (what : Int32) : Int32 := if 0 ≤ what ∧ what ≤ 1 then (if 0 < s 6 then rBest s what else -5) else -2
def mBestShow (M : SS) (what : Int32) : SS := if (0 ≤ what ∧ what ≤ 1) ∧ 0 < M 1 6 then bsS M 28 else M
set_option maxRecDepth 100000 in
set_option maxHeartbeats 4000000 in
theorem ct_X7_bestShow (l : Launch) (M : SS) (what : Int32) : CtS l yX7_bestShow cX7_bestShow 6 (some FieldType.int) (rmD 4) [.ref 0, .int what] 7 shM M (some (.int (rBestShow (M 1) what))) (mBestShow M what) := by
  refine CtF.of (own := RX7) [some (.ref 0), some (.int what), none, none, none, none] (by decide +kernel) rfl (fun _ => Nat.le_of_ble_eq_true rfl) (fun _ => rfl) ?_
  refine VS.iload_n dX7_bestShow_0 rfl ?_
  refine VS.iconst (0) dX7_bestShow_1 rfl ?_
  refine VS.iconst (1) dX7_bestShow_2 rfl ?_
  refine VS.callN (ct_X7_in l _ _ _) dX7_bestShow_3 mi_X7_in st_X7_in ml_X7_29 (rmOk_D (by decide) (by decide)) (Nat.le_of_ble_eq_true rfl) rfl ?_
  refine VS.if_ne 12 dX7_bestShow_6 (by decide) (fun h_6 => ?_) (fun h_6 => ?_)
  · refine VS.aload_n dX7_bestShow_12 rfl ?_
    refine VS.callT (ct_X7_hasBegun l _) dX7_bestShow_13 mi_X7_hasBegun im_X7_hasBegun sel_X7_hasBegun ml_X7_41 (by decide) rfl rfl (rmOk_D (by decide) (by decide)) (Nat.le_of_ble_eq_true rfl) rfl ?_
    refine VS.if_ne 22 dX7_bestShow_16 (by decide) (fun h_16 => ?_) (fun h_16 => ?_)
    · refine VS.bipush (-6) dX7_bestShow_22 rfl ?_
      refine VS.istore_n dX7_bestShow_24 (by decide) rfl ?_
      refine VS.iconst (0) dX7_bestShow_25 rfl ?_
      refine VS.istore_n dX7_bestShow_26 (by decide) rfl ?_
      refine VS.iconst (0) dX7_bestShow_27 rfl ?_
      refine VS.istore dX7_bestShow_28 (by decide) rfl ?_
      refine VS.forS (i0 := 0) (28) (fun i => bsS M i) (fun i => [some (.ref 0), some (.int what), some (.int (bsF (M 1) i).1), some (.int (bsF (M 1) i).2), some (.int (nI i)), none]) (by decide) ?_ (fun i hi ih => ?_)
      · refine VS.iload dX7_bestShow_30 rfl ?_
        refine VS.bipush (28) dX7_bestShow_32 rfl ?_
        refine VS.icmp_ge 77 dX7_bestShow_34 (by decide) (fun _ => ?_) (fun hh => absurd (by decide) hh)
        refine VS.iload_n dX7_bestShow_77 rfl ?_
        refine VS.bipush (-6) dX7_bestShow_78 rfl ?_
        refine VS.icmp_eq 87 dX7_bestShow_80 (by decide) (fun h_80 => ?_) (fun h_80 => ?_)
        · refine VS.iload_n dX7_bestShow_87 rfl ?_
          refine VS.goto 92 dX7_bestShow_88 (by decide) ?_
          exact VS.iret dX7_bestShow_92 (by unfold rBestShow rBest; rw [if_pos (ite11 h_6), if_pos (ite11 h_16)]; first | rw [if_pos (Or.inl h_80)] | rw [if_pos (Or.inr h_84)] | rw [if_neg (fun q => q.elim h_80 h_84)]) (shk (stt_if ⟨ite11 h_6, ite11 h_16⟩ rfl))
        · refine VS.iload_n dX7_bestShow_83 rfl ?_
          refine VS.if_ne 91 dX7_bestShow_84 (by decide) (fun h_84 => ?_) (fun h_84 => ?_)
          · refine VS.iload_n dX7_bestShow_91 rfl ?_
            exact VS.iret dX7_bestShow_92 (by unfold rBestShow rBest; rw [if_pos (ite11 h_6), if_pos (ite11 h_16)]; first | rw [if_pos (Or.inl h_80)] | rw [if_pos (Or.inr h_84)] | rw [if_neg (fun q => q.elim h_80 h_84)]) (shk (stt_if ⟨ite11 h_6, ite11 h_16⟩ rfl))
          · refine VS.iload_n dX7_bestShow_87 rfl ?_
            refine VS.goto 92 dX7_bestShow_88 (by decide) ?_
            exact VS.iret dX7_bestShow_92 (by unfold rBestShow rBest; rw [if_pos (ite11 h_6), if_pos (ite11 h_16)]; first | rw [if_pos (Or.inl h_80)] | rw [if_pos (Or.inr h_84)] | rw [if_neg (fun q => q.elim h_80 h_84)]) (shk (stt_if ⟨ite11 h_6, ite11 h_16⟩ rfl))
      · refine VS.iload dX7_bestShow_30 rfl ?_
        refine VS.bipush (28) dX7_bestShow_32 rfl ?_
        refine VS.icmp_ge 77 dX7_bestShow_34 (by decide) (fun hh => absurd hh (nge28 hi)) (fun _ => ?_)
        refine VS.aload_n dX7_bestShow_37 rfl ?_
        refine VS.iload dX7_bestShow_38 rfl ?_
        refine VS.callT (ct_X7_more l _ _) dX7_bestShow_40 mi_X7_more im_X7_more sel_X7_more ml_X7_154 (by decide) rfl rfl (rmOk_D (by decide) (by decide)) (Nat.le_of_ble_eq_true rfl) rfl ?_
        refine VS.val (y := rMore (M 1) (nI i)) (by rw [bsS_1]) ?_
        refine VS.istore dX7_bestShow_43 (by decide) rfl ?_
        refine VS.iload dX7_bestShow_45 rfl ?_
        refine VS.iload_n dX7_bestShow_47 rfl ?_
        refine VS.icmp_le 56 dX7_bestShow_48 (by decide) (fun h_48 => ?_) (fun h_48 => ?_)
        · refine VS.iload_n dX7_bestShow_56 rfl ?_
          refine VS.val (y := (bsF (M 1) (i + 1)).1) (by first | exact (if_pos (Int32.not_le.mp h_48)).symm | exact (if_neg (Int32.not_lt.mpr h_48)).symm) ?_
          refine VS.istore_n dX7_bestShow_57 (by decide) rfl ?_
          refine VS.iload dX7_bestShow_58 rfl ?_
          refine VS.iload_n dX7_bestShow_60 rfl ?_
          refine VS.icmp_le 69 dX7_bestShow_61 (by decide) (fun _ => ?_) (fun hh => absurd (h_48) hh)
          refine VS.iload_n dX7_bestShow_69 rfl ?_
          refine VS.val (y := (bsF (M 1) (i + 1)).2) (by first | exact (if_pos (Int32.not_le.mp h_48)).symm | exact (if_neg (Int32.not_lt.mpr h_48)).symm) ?_
          refine VS.istore_n dX7_bestShow_70 (by decide) rfl ?_
          refine VS.iinc (nI (i + 1)) dX7_bestShow_71 rfl (by decide) ((nI_succ i).symm) rfl ?_
          refine VS.goto 30 dX7_bestShow_74 (by decide) ?_
          exact VS.forget 5 ih
        · refine VS.iload dX7_bestShow_51 rfl ?_
          refine VS.goto 57 dX7_bestShow_53 (by decide) ?_
          refine VS.val (y := (bsF (M 1) (i + 1)).1) (by first | exact (if_pos (Int32.not_le.mp h_48)).symm | exact (if_neg (Int32.not_lt.mpr h_48)).symm) ?_
          refine VS.istore_n dX7_bestShow_57 (by decide) rfl ?_
          refine VS.iload dX7_bestShow_58 rfl ?_
          refine VS.iload_n dX7_bestShow_60 rfl ?_
          refine VS.icmp_le 69 dX7_bestShow_61 (by decide) (fun hh => absurd hh (h_48)) (fun _ => ?_)
          refine VS.iload dX7_bestShow_64 rfl ?_
          refine VS.goto 70 dX7_bestShow_66 (by decide) ?_
          refine VS.val (y := (bsF (M 1) (i + 1)).2) (by first | exact (if_pos (Int32.not_le.mp h_48)).symm | exact (if_neg (Int32.not_lt.mpr h_48)).symm) ?_
          refine VS.istore_n dX7_bestShow_70 (by decide) rfl ?_
          refine VS.iinc (nI (i + 1)) dX7_bestShow_71 rfl (by decide) ((nI_succ i).symm) rfl ?_
          refine VS.goto 30 dX7_bestShow_74 (by decide) ?_
          exact VS.forget 5 ih
    · refine VS.bipush (-5) dX7_bestShow_19 rfl ?_
      exact VS.iret dX7_bestShow_21 (by unfold rBestShow; rw [if_pos (ite11 h_6), if_neg (ite10.mp h_16)]) (shk (stt_else (fun q => (ite10.mp h_16) q.2) rfl))
  · refine VS.bipush (-2) dX7_bestShow_9 rfl ?_
    exact VS.iret dX7_bestShow_11 (by unfold rBestShow; rw [if_neg (ite10.mp h_6)]) (shk (stt_else (fun q => (ite10.mp h_6) q.1) rfl))
def rWay (s F : Nat → Int32) (p q : Nat) : Int32 := if md (rTh s) p F q = 99 then -6 else md (rTh s) p F q
set_option maxRecDepth 100000 in
set_option maxHeartbeats 4000000 in
theorem ct_X7_knownWay (l : Launch) (M : SS)  {p q : Nat} (hp : p < 8) (hq : q < 8) : CtS l yX7_knownWay cX7_knownWay 3 (some FieldType.int) (rmD 3) [.ref 0, .int (nI p), .int (nI q)] 7 shM M (some (.int (rWay (M 1) (M 6) p q))) (upC (rFol M (M 1 17)) 6 (md (rTh (M 1)) p (M 6))) := by
  refine CtF.of (own := RX7) [some (.ref 0), some (.int (nI p)), some (.int (nI q))] (by decide +kernel) rfl (fun _ => Nat.le_of_ble_eq_true rfl) (fun _ => rfl) ?_
  refine VS.iload_n dX7_knownWay_0 rfl ?_
  refine VS.callN (ct_X7_isPlace l _) dX7_knownWay_1 mi_X7_isPlace st_X7_isPlace ml_X7_67 (rmOk_D (by decide) (by decide)) (Nat.le_of_ble_eq_true rfl) rfl ?_
  refine VS.if_eq 14 dX7_knownWay_4 (by decide) (fun hh => absurd hh (pc_y hp)) (fun _ => ?_)
  refine VS.iload_n dX7_knownWay_7 rfl ?_
  refine VS.callN (ct_X7_isPlace l _) dX7_knownWay_8 mi_X7_isPlace st_X7_isPlace ml_X7_67 (rmOk_D (by decide) (by decide)) (Nat.le_of_ble_eq_true rfl) rfl ?_
  refine VS.if_ne 16 dX7_knownWay_11 (by decide) (fun _ => ?_) (fun hh => absurd hh (pc_y hq))
  refine VS.aload_n dX7_knownWay_16 rfl ?_
  refine VS.aload_n dX7_knownWay_17 rfl ?_
  refine VS.sgetR 6 dX7_knownWay_18 uw_X7 rfl (by decide) 0 rfl rfl (by decide) fl_X7_7 rfl ?_
  refine VS.bipush (17) dX7_knownWay_21 rfl ?_
  refine VS.siald (17) dX7_knownWay_23 (by decide) rfl (rfl) (by decide) (by decide) ?_
  refine VS.val (y := M 1 17) rfl ?_
  refine VS.callT (ct_X7_follows l _ _) dX7_knownWay_24 mi_X7_follows im_X7_follows sel_X7_follows ml_X7_80 (by decide) rfl rfl (rmOk_D (by decide) (by decide)) (Nat.le_of_ble_eq_true rfl) rfl ?_
  refine VS.aload_n dX7_knownWay_27 rfl ?_
  refine VS.iload_n dX7_knownWay_28 rfl ?_
  refine VS.aload_n dX7_knownWay_29 rfl ?_
  refine VS.sgetI 6 dX7_knownWay_30 uw_X7 rfl (by decide) 8 rfl rfl (by decide) fl_X7_48 rfl ?_
  refine VS.val (y := rTh (M 1)) rfl ?_
  refine VS.callT (ct_X7_measures l _ _ hp) dX7_knownWay_33 mi_X7_measures im_X7_measures sel_X7_measures ml_X7_121 (by decide) rfl rfl (rmOk_D (by decide) (by decide)) (Nat.le_of_ble_eq_true rfl) rfl ?_
  refine VS.aload_n dX7_knownWay_36 rfl ?_
  refine VS.sgetR 6 dX7_knownWay_37 uw_X7 rfl (by decide) 9 rfl rfl (by decide) fl_X7_26 rfl ?_
  refine VS.iload_n dX7_knownWay_40 rfl ?_
  refine VS.siald (q) dX7_knownWay_41 (by decide) rfl (rfl) (hq) (by decide) ?_
  refine VS.val (y := md (rTh (M 1)) p (M 6) q) rfl ?_
  refine VS.bipush (99) dX7_knownWay_42 rfl ?_
  refine VS.icmp_ne 52 dX7_knownWay_44 (by decide) (fun h_44 => ?_) (fun h_44 => ?_)
  · refine VS.aload_n dX7_knownWay_52 rfl ?_
    refine VS.sgetR 6 dX7_knownWay_53 uw_X7 rfl (by decide) 9 rfl rfl (by decide) fl_X7_26 rfl ?_
    refine VS.iload_n dX7_knownWay_56 rfl ?_
    refine VS.siald (q) dX7_knownWay_57 (by decide) rfl (rfl) (hq) (by decide) ?_
    refine VS.val (y := md (rTh (M 1)) p (M 6) q) rfl ?_
    exact VS.iret dX7_knownWay_58 (by unfold rWay; first | rw [if_neg h_44] | rw [if_pos h_44]) (fun k _ => rfl)
  · refine VS.bipush (-6) dX7_knownWay_47 rfl ?_
    refine VS.goto 58 dX7_knownWay_49 (by decide) ?_
    exact VS.iret dX7_knownWay_58 (by unfold rWay; first | rw [if_neg h_44] | rw [if_pos h_44]) (fun k _ => rfl)
set_option maxRecDepth 100000 in
set_option maxHeartbeats 4000000 in
theorem ct_X7_knownWay_no (l : Launch) (M : SS) (a : Int32) (b : Int32) (hn : ¬ ((0 ≤ a ∧ a < 8) ∧ (0 ≤ b ∧ b < 8))) : CtS l yX7_knownWay cX7_knownWay 3 (some FieldType.int) (rmD 3) [.ref 0, .int a, .int b] 7 shM M (some (.int (-1))) (M) := by
  refine CtF.of (own := RX7) [some (.ref 0), some (.int a), some (.int b)] (by decide +kernel) rfl (fun _ => Nat.le_of_ble_eq_true rfl) (fun _ => rfl) ?_
  refine VS.iload_n dX7_knownWay_0 rfl ?_
  refine VS.callN (ct_X7_isPlace l _) dX7_knownWay_1 mi_X7_isPlace st_X7_isPlace ml_X7_67 (rmOk_D (by decide) (by decide)) (Nat.le_of_ble_eq_true rfl) rfl ?_
  refine VS.if_eq 14 dX7_knownWay_4 (by decide) (fun h_4 => ?_) (fun h_4 => ?_)
  · refine VS.iconst (-1) dX7_knownWay_14 rfl ?_
    exact VS.iret dX7_knownWay_15 (rfl) (fun _ _ => rfl)
  · refine VS.iload_n dX7_knownWay_7 rfl ?_
    refine VS.callN (ct_X7_isPlace l _) dX7_knownWay_8 mi_X7_isPlace st_X7_isPlace ml_X7_67 (rmOk_D (by decide) (by decide)) (Nat.le_of_ble_eq_true rfl) rfl ?_
    refine VS.if_ne 16 dX7_knownWay_11 (by decide) (fun hh => absurd (if_neg (fun z => hn ⟨ite11 h_4, z⟩)) hh) (fun _ => ?_)
    refine VS.iconst (-1) dX7_knownWay_14 rfl ?_
    exact VS.iret dX7_knownWay_15 (rfl) (fun _ _ => rfl)
def cbP (F : Nat → Int32) (tr : Nat) (acc : Int32) : Nat → Int32
  | 0 => acc
  | p + 1 => cbP F tr acc p &&& (if F p = F tr then -1 else (1 : Int32) <<< (nI p &&& 31) ^^^ -1)
def cbF (r : Int32) (q : Nat → Nat) (F : Nat → Int32) : Nat → (Nat → Int32)
  | 0 => F
  | k + 1 => md r (q k) (cbF r q F k)
def cbA (r : Int32) (q : Nat → Nat) (F : Nat → Int32) (tr : Nat) (a : Int32) : Nat → Int32
  | 0 => a
  | k + 1 => cbP (cbF r q F (k + 1)) tr (cbA r q F tr a k) 8
theorem cbP_y {F : Nat → Int32} {tr p : Nat} {a : Int32} (h : F p = F tr) : cbP F tr a p &&& -1 = cbP F tr a (p + 1) := congrArg (fun z => cbP F tr a p &&& z) (if_pos h).symm
theorem cbP_n {F : Nat → Int32} {tr p : Nat} {a : Int32} (h : ¬ F p = F tr) : cbP F tr a p &&& ((1 : Int32) <<< (nI p &&& 31) ^^^ -1) = cbP F tr a (p + 1) := congrArg (fun z => cbP F tr a p &&& z) (if_neg h).symm
set_option maxRecDepth 100000 in
set_option maxHeartbeats 4000000 in
theorem ct_X7_canBe (l : Launch) (M : SS)  {d tr : Nat} {q : Nat → Nat} (hd : M 1 31 = nI d) (hd2 : d ≤ 150) (htr : M 1 1 = nI tr) (htr2 : tr < 8) (hq : ∀ k, k < d → q k < 8 ∧ M 1 (32 + k) = nI (q k)) : CtS l yX7_canBe cX7_canBe 4 (some FieldType.int) (rmD 2) [.ref 0] 7 shM M (some (.int (cbA (M 1 0) q (M 6) tr (if 0 < M 1 6 then 255 else 0) d))) (upC M 6 (cbF (M 1 0) q (M 6) d)) := by
  refine CtF.of (own := RX7) [some (.ref 0), none, none, none] (by decide +kernel) rfl (fun _ => Nat.le_of_ble_eq_true rfl) (fun _ => rfl) ?_
  refine VS.aload_n dX7_canBe_0 rfl ?_
  refine VS.callT (ct_X7_hasBegun l _) dX7_canBe_1 mi_X7_hasBegun im_X7_hasBegun sel_X7_hasBegun ml_X7_41 (by decide) rfl rfl (rmOk_D (by decide) (by decide)) (Nat.le_of_ble_eq_true rfl) rfl ?_
  refine VS.if_eq 13 dX7_canBe_4 (by decide) (fun h_4 => ?_) (fun h_4 => ?_)
  · refine VS.iconst (0) dX7_canBe_13 rfl ?_
    refine VS.val (y := if 0 < M 1 6 then 255 else 0) (by first | exact (if_pos (ite11 h_4)).symm | exact (if_neg (ite10.mp h_4)).symm) ?_
    refine VS.istore_n dX7_canBe_14 (by decide) rfl ?_
    refine VS.iconst (0) dX7_canBe_15 rfl ?_
    refine VS.istore_n dX7_canBe_16 (by decide) rfl ?_
    refine VS.stt (S2 := upC M 6 (cbF (M 1 0) q (M 6) 0)) (upC_id M 6).symm ?_
    refine VS.forS (i0 := 0) (d) (fun k => upC M 6 (cbF (M 1 0) q (M 6) k)) (fun k => [some (.ref 0), some (.int (cbA (M 1 0) q (M 6) tr (if 0 < M 1 6 then 255 else 0) k)), some (.int (nI k)), none]) (Nat.zero_le _) ?_ (fun k hk ik => ?_)
    · refine VS.iload_n dX7_canBe_17 rfl ?_
      refine VS.aload_n dX7_canBe_18 rfl ?_
      refine VS.sgetR 6 dX7_canBe_19 uw_X7 rfl (by decide) 0 rfl rfl (by decide) fl_X7_7 rfl ?_
      refine VS.bipush (31) dX7_canBe_22 rfl ?_
      refine VS.siald (31) dX7_canBe_24 (by decide) rfl (rfl) (by decide) (by decide) ?_
      refine VS.val (y := nI d) hd ?_
      refine VS.icmp_ge 99 dX7_canBe_25 (by decide) (fun _ => ?_) (fun hh => absurd (nI_le (Nat.le_refl _) (by omega)) hh)
      refine VS.iload_n dX7_canBe_99 rfl ?_
      exact VS.iret dX7_canBe_100 (rfl) (fun k _ => rfl)
    · refine VS.iload_n dX7_canBe_17 rfl ?_
      refine VS.aload_n dX7_canBe_18 rfl ?_
      refine VS.sgetR 6 dX7_canBe_19 uw_X7 rfl (by decide) 0 rfl rfl (by decide) fl_X7_7 rfl ?_
      refine VS.bipush (31) dX7_canBe_22 rfl ?_
      refine VS.siald (31) dX7_canBe_24 (by decide) rfl (rfl) (by decide) (by decide) ?_
      refine VS.val (y := nI d) hd ?_
      refine VS.icmp_ge 99 dX7_canBe_25 (by decide) (fun hh => absurd hh (nI_ge hk (by omega))) (fun _ => ?_)
      refine VS.aload_n dX7_canBe_28 rfl ?_
      refine VS.aload_n dX7_canBe_29 rfl ?_
      refine VS.sgetR 6 dX7_canBe_30 uw_X7 rfl (by decide) 0 rfl rfl (by decide) fl_X7_7 rfl ?_
      refine VS.bipush (32) dX7_canBe_33 rfl ?_
      refine VS.iload_n dX7_canBe_35 rfl ?_
      refine VS.iadd dX7_canBe_36 ?_
      refine VS.siald (32 + k) dX7_canBe_37 (by decide) rfl (ix_add) (by omega) (by decide) ?_
      refine VS.val (y := nI (q k)) (hq k hk).2 ?_
      refine VS.aload_n dX7_canBe_38 rfl ?_
      refine VS.sgetR 6 dX7_canBe_39 uw_X7 rfl (by decide) 0 rfl rfl (by decide) fl_X7_7 rfl ?_
      refine VS.iconst (0) dX7_canBe_42 rfl ?_
      refine VS.siald (0) dX7_canBe_43 (by decide) rfl (rfl) (by decide) (by decide) ?_
      refine VS.val (y := M 1 0) rfl ?_
      refine VS.callT (ct_X7_measures l _ _ (hq k hk).1) dX7_canBe_44 mi_X7_measures im_X7_measures sel_X7_measures ml_X7_121 (by decide) rfl rfl (rmOk_D (by decide) (by decide)) (Nat.le_of_ble_eq_true rfl) rfl ?_
      refine VS.stt (S2 := upC M 6 (cbF (M 1 0) q (M 6) (k + 1))) (by rw [upC_upC, upC_at]; rfl) ?_
      refine VS.iconst (0) dX7_canBe_47 rfl ?_
      refine VS.istore_n dX7_canBe_48 (by decide) rfl ?_
      refine VS.forS (i0 := 0) (8) (fun _ => upC M 6 (cbF (M 1 0) q (M 6) (k + 1))) (fun p => [some (.ref 0), some (.int (cbP (cbF (M 1 0) q (M 6) (k + 1)) tr (cbA (M 1 0) q (M 6) tr (if 0 < M 1 6 then 255 else 0) k) p)), some (.int (nI k)), some (.int (nI p))]) (by decide) ?_ (fun p hp ip => ?_)
      · refine VS.iload_n dX7_canBe_49 rfl ?_
        refine VS.bipush (8) dX7_canBe_50 rfl ?_
        refine VS.icmp_ge 93 dX7_canBe_52 (by decide) (fun _ => ?_) (fun hh => absurd (by decide) hh)
        refine VS.iinc (nI (k + 1)) dX7_canBe_93 rfl (by decide) ((nI_succ k).symm) rfl ?_
        refine VS.goto 17 dX7_canBe_96 (by decide) ?_
        exact VS.forget 3 ik
      · refine VS.iload_n dX7_canBe_49 rfl ?_
        refine VS.bipush (8) dX7_canBe_50 rfl ?_
        refine VS.icmp_ge 93 dX7_canBe_52 (by decide) (fun hh => absurd hh (nge8 hp)) (fun _ => ?_)
        refine VS.iload_n dX7_canBe_55 rfl ?_
        refine VS.aload_n dX7_canBe_56 rfl ?_
        refine VS.sgetR 6 dX7_canBe_57 uw_X7 rfl (by decide) 9 rfl rfl (by decide) fl_X7_26 rfl ?_
        refine VS.iload_n dX7_canBe_60 rfl ?_
        refine VS.siald (p) dX7_canBe_61 (by decide) rfl (rfl) (hp) (by decide) ?_
        refine VS.val (y := cbF (M 1 0) q (M 6) (k + 1) p) rfl ?_
        refine VS.aload_n dX7_canBe_62 rfl ?_
        refine VS.sgetR 6 dX7_canBe_63 uw_X7 rfl (by decide) 9 rfl rfl (by decide) fl_X7_26 rfl ?_
        refine VS.aload_n dX7_canBe_66 rfl ?_
        refine VS.sgetR 6 dX7_canBe_67 uw_X7 rfl (by decide) 0 rfl rfl (by decide) fl_X7_7 rfl ?_
        refine VS.iconst (1) dX7_canBe_70 rfl ?_
        refine VS.siald (1) dX7_canBe_71 (by decide) rfl (rfl) (by decide) (by decide) ?_
        refine VS.siald (tr) dX7_canBe_72 (by decide) rfl (htr) (htr2) (by decide) ?_
        refine VS.val (y := cbF (M 1 0) q (M 6) (k + 1) tr) rfl ?_
        refine VS.icmp_ne 80 dX7_canBe_73 (by decide) (fun h_73 => ?_) (fun h_73 => ?_)
        · refine VS.iconst (1) dX7_canBe_80 rfl ?_
          refine VS.iload_n dX7_canBe_81 rfl ?_
          refine VS.ishl dX7_canBe_82 ?_
          refine VS.iconst (-1) dX7_canBe_83 rfl ?_
          refine VS.ixor dX7_canBe_84 ?_
          refine VS.iand dX7_canBe_85 ?_
          refine VS.val (y := cbP (cbF (M 1 0) q (M 6) (k + 1)) tr (cbA (M 1 0) q (M 6) tr (if 0 < M 1 6 then 255 else 0) k) (p + 1)) (by first | exact cbP_y h_73 | exact cbP_n h_73) ?_
          refine VS.istore_n dX7_canBe_86 (by decide) rfl ?_
          refine VS.iinc (nI (p + 1)) dX7_canBe_87 rfl (by decide) ((nI_succ p).symm) rfl ?_
          refine VS.goto 49 dX7_canBe_90 (by decide) ?_
          exact ip
        · refine VS.iconst (-1) dX7_canBe_76 rfl ?_
          refine VS.goto 85 dX7_canBe_77 (by decide) ?_
          refine VS.iand dX7_canBe_85 ?_
          refine VS.val (y := cbP (cbF (M 1 0) q (M 6) (k + 1)) tr (cbA (M 1 0) q (M 6) tr (if 0 < M 1 6 then 255 else 0) k) (p + 1)) (by first | exact cbP_y h_73 | exact cbP_n h_73) ?_
          refine VS.istore_n dX7_canBe_86 (by decide) rfl ?_
          refine VS.iinc (nI (p + 1)) dX7_canBe_87 rfl (by decide) ((nI_succ p).symm) rfl ?_
          refine VS.goto 49 dX7_canBe_90 (by decide) ?_
          exact ip
  · refine VS.sipush (255) dX7_canBe_7 rfl ?_
    refine VS.goto 14 dX7_canBe_10 (by decide) ?_
    refine VS.val (y := if 0 < M 1 6 then 255 else 0) (by first | exact (if_pos (ite11 h_4)).symm | exact (if_neg (ite10.mp h_4)).symm) ?_
    refine VS.istore_n dX7_canBe_14 (by decide) rfl ?_
    refine VS.iconst (0) dX7_canBe_15 rfl ?_
    refine VS.istore_n dX7_canBe_16 (by decide) rfl ?_
    refine VS.stt (S2 := upC M 6 (cbF (M 1 0) q (M 6) 0)) (upC_id M 6).symm ?_
    refine VS.forS (i0 := 0) (d) (fun k => upC M 6 (cbF (M 1 0) q (M 6) k)) (fun k => [some (.ref 0), some (.int (cbA (M 1 0) q (M 6) tr (if 0 < M 1 6 then 255 else 0) k)), some (.int (nI k)), none]) (Nat.zero_le _) ?_ (fun k hk ik => ?_)
    · refine VS.iload_n dX7_canBe_17 rfl ?_
      refine VS.aload_n dX7_canBe_18 rfl ?_
      refine VS.sgetR 6 dX7_canBe_19 uw_X7 rfl (by decide) 0 rfl rfl (by decide) fl_X7_7 rfl ?_
      refine VS.bipush (31) dX7_canBe_22 rfl ?_
      refine VS.siald (31) dX7_canBe_24 (by decide) rfl (rfl) (by decide) (by decide) ?_
      refine VS.val (y := nI d) hd ?_
      refine VS.icmp_ge 99 dX7_canBe_25 (by decide) (fun _ => ?_) (fun hh => absurd (nI_le (Nat.le_refl _) (by omega)) hh)
      refine VS.iload_n dX7_canBe_99 rfl ?_
      exact VS.iret dX7_canBe_100 (rfl) (fun k _ => rfl)
    · refine VS.iload_n dX7_canBe_17 rfl ?_
      refine VS.aload_n dX7_canBe_18 rfl ?_
      refine VS.sgetR 6 dX7_canBe_19 uw_X7 rfl (by decide) 0 rfl rfl (by decide) fl_X7_7 rfl ?_
      refine VS.bipush (31) dX7_canBe_22 rfl ?_
      refine VS.siald (31) dX7_canBe_24 (by decide) rfl (rfl) (by decide) (by decide) ?_
      refine VS.val (y := nI d) hd ?_
      refine VS.icmp_ge 99 dX7_canBe_25 (by decide) (fun hh => absurd hh (nI_ge hk (by omega))) (fun _ => ?_)
      refine VS.aload_n dX7_canBe_28 rfl ?_
      refine VS.aload_n dX7_canBe_29 rfl ?_
      refine VS.sgetR 6 dX7_canBe_30 uw_X7 rfl (by decide) 0 rfl rfl (by decide) fl_X7_7 rfl ?_
      refine VS.bipush (32) dX7_canBe_33 rfl ?_
      refine VS.iload_n dX7_canBe_35 rfl ?_
      refine VS.iadd dX7_canBe_36 ?_
      refine VS.siald (32 + k) dX7_canBe_37 (by decide) rfl (ix_add) (by omega) (by decide) ?_
      refine VS.val (y := nI (q k)) (hq k hk).2 ?_
      refine VS.aload_n dX7_canBe_38 rfl ?_
      refine VS.sgetR 6 dX7_canBe_39 uw_X7 rfl (by decide) 0 rfl rfl (by decide) fl_X7_7 rfl ?_
      refine VS.iconst (0) dX7_canBe_42 rfl ?_
      refine VS.siald (0) dX7_canBe_43 (by decide) rfl (rfl) (by decide) (by decide) ?_
      refine VS.val (y := M 1 0) rfl ?_
      refine VS.callT (ct_X7_measures l _ _ (hq k hk).1) dX7_canBe_44 mi_X7_measures im_X7_measures sel_X7_measures ml_X7_121 (by decide) rfl rfl (rmOk_D (by decide) (by decide)) (Nat.le_of_ble_eq_true rfl) rfl ?_
      refine VS.stt (S2 := upC M 6 (cbF (M 1 0) q (M 6) (k + 1))) (by rw [upC_upC, upC_at]; rfl) ?_
      refine VS.iconst (0) dX7_canBe_47 rfl ?_
      refine VS.istore_n dX7_canBe_48 (by decide) rfl ?_
      refine VS.forS (i0 := 0) (8) (fun _ => upC M 6 (cbF (M 1 0) q (M 6) (k + 1))) (fun p => [some (.ref 0), some (.int (cbP (cbF (M 1 0) q (M 6) (k + 1)) tr (cbA (M 1 0) q (M 6) tr (if 0 < M 1 6 then 255 else 0) k) p)), some (.int (nI k)), some (.int (nI p))]) (by decide) ?_ (fun p hp ip => ?_)
      · refine VS.iload_n dX7_canBe_49 rfl ?_
        refine VS.bipush (8) dX7_canBe_50 rfl ?_
        refine VS.icmp_ge 93 dX7_canBe_52 (by decide) (fun _ => ?_) (fun hh => absurd (by decide) hh)
        refine VS.iinc (nI (k + 1)) dX7_canBe_93 rfl (by decide) ((nI_succ k).symm) rfl ?_
        refine VS.goto 17 dX7_canBe_96 (by decide) ?_
        exact VS.forget 3 ik
      · refine VS.iload_n dX7_canBe_49 rfl ?_
        refine VS.bipush (8) dX7_canBe_50 rfl ?_
        refine VS.icmp_ge 93 dX7_canBe_52 (by decide) (fun hh => absurd hh (nge8 hp)) (fun _ => ?_)
        refine VS.iload_n dX7_canBe_55 rfl ?_
        refine VS.aload_n dX7_canBe_56 rfl ?_
        refine VS.sgetR 6 dX7_canBe_57 uw_X7 rfl (by decide) 9 rfl rfl (by decide) fl_X7_26 rfl ?_
        refine VS.iload_n dX7_canBe_60 rfl ?_
        refine VS.siald (p) dX7_canBe_61 (by decide) rfl (rfl) (hp) (by decide) ?_
        refine VS.val (y := cbF (M 1 0) q (M 6) (k + 1) p) rfl ?_
        refine VS.aload_n dX7_canBe_62 rfl ?_
        refine VS.sgetR 6 dX7_canBe_63 uw_X7 rfl (by decide) 9 rfl rfl (by decide) fl_X7_26 rfl ?_
        refine VS.aload_n dX7_canBe_66 rfl ?_
        refine VS.sgetR 6 dX7_canBe_67 uw_X7 rfl (by decide) 0 rfl rfl (by decide) fl_X7_7 rfl ?_
        refine VS.iconst (1) dX7_canBe_70 rfl ?_
        refine VS.siald (1) dX7_canBe_71 (by decide) rfl (rfl) (by decide) (by decide) ?_
        refine VS.siald (tr) dX7_canBe_72 (by decide) rfl (htr) (htr2) (by decide) ?_
        refine VS.val (y := cbF (M 1 0) q (M 6) (k + 1) tr) rfl ?_
        refine VS.icmp_ne 80 dX7_canBe_73 (by decide) (fun h_73 => ?_) (fun h_73 => ?_)
        · refine VS.iconst (1) dX7_canBe_80 rfl ?_
          refine VS.iload_n dX7_canBe_81 rfl ?_
          refine VS.ishl dX7_canBe_82 ?_
          refine VS.iconst (-1) dX7_canBe_83 rfl ?_
          refine VS.ixor dX7_canBe_84 ?_
          refine VS.iand dX7_canBe_85 ?_
          refine VS.val (y := cbP (cbF (M 1 0) q (M 6) (k + 1)) tr (cbA (M 1 0) q (M 6) tr (if 0 < M 1 6 then 255 else 0) k) (p + 1)) (by first | exact cbP_y h_73 | exact cbP_n h_73) ?_
          refine VS.istore_n dX7_canBe_86 (by decide) rfl ?_
          refine VS.iinc (nI (p + 1)) dX7_canBe_87 rfl (by decide) ((nI_succ p).symm) rfl ?_
          refine VS.goto 49 dX7_canBe_90 (by decide) ?_
          exact ip
        · refine VS.iconst (-1) dX7_canBe_76 rfl ?_
          refine VS.goto 85 dX7_canBe_77 (by decide) ?_
          refine VS.iand dX7_canBe_85 ?_
          refine VS.val (y := cbP (cbF (M 1 0) q (M 6) (k + 1)) tr (cbA (M 1 0) q (M 6) tr (if 0 < M 1 6 then 255 else 0) k) (p + 1)) (by first | exact cbP_y h_73 | exact cbP_n h_73) ?_
          refine VS.istore_n dX7_canBe_86 (by decide) rfl ?_
          refine VS.iinc (nI (p + 1)) dX7_canBe_87 rfl (by decide) ((nI_succ p).symm) rfl ?_
          refine VS.goto 49 dX7_canBe_90 (by decide) ?_
          exact ip
