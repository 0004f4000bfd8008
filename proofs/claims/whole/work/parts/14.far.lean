/-! the reference: distances, questions -/
def iF (f : Nat) (F : Nat → Int32) : Nat → (Nat → Int32)
  | 0 => F
  | j + 1 => upd (iF f F j) j (if j = f then 0 else 99)
def rlx (r : Int32) (a b : Nat) (F : Nat → Int32) : Nat → Int32 := upd F b (if (a ≠ b ∧ sb r (eI (nI a) (nI b)) = 1 ∧ F a < 99) ∧ F a + 1 < F b then F a + 1 else F b)
def mB (r : Int32) (a : Nat) (F : Nat → Int32) : Nat → (Nat → Int32)
  | 0 => F
  | b + 1 => rlx r a b (mB r a F b)
def mA (r : Int32) (F : Nat → Int32) : Nat → (Nat → Int32)
  | 0 => F
  | a + 1 => mB r a (mA r F a) 8
def mR (r : Int32) (F : Nat → Int32) : Nat → (Nat → Int32)
  | 0 => F
  | k + 1 => mA r (mR r F k) 8
/-- how far all places are -/
def md (r : Int32) (f : Nat) (F : Nat → Int32) : Nat → Int32 := mR r (iF f F 8) 8
def mdS (M : SS) (f : Nat) (F : Nat → Int32) : SS := upC M 6 F
theorem iF_y {f : Nat} {F : Nat → Int32} {i : Nat} (h : i = f) : iF f F (i + 1) = upd (iF f F i) i 0 := congrArg (upd (iF f F i) i) (if_pos h)
theorem iF_n {f : Nat} {F : Nat → Int32} {i : Nat} (h : ¬ i = f) : iF f F (i + 1) = upd (iF f F i) i 99 := congrArg (upd (iF f F i) i) (if_neg h)
theorem rlx_n {r : Int32} {a b : Nat} {F : Nat → Int32} (h : ¬ ((a ≠ b ∧ sb r (eI (nI a) (nI b)) = 1 ∧ F a < 99) ∧ F a + 1 < F b)) : rlx r a b F = upd F b (F b) := congrArg (upd F b) (if_neg h)
theorem rlx_y {r : Int32} {a b : Nat} {F : Nat → Int32} (h : (a ≠ b ∧ sb r (eI (nI a) (nI b)) = 1 ∧ F a < 99) ∧ F a + 1 < F b) : rlx r a b F = upd F b (F a + 1) := congrArg (upd F b) (if_pos h)
theorem nIn {i p : Nat} (hi : i < 8) (hp : p < 8) (h : ¬ nI i = nI p) : i ≠ p := fun q => h (by rw [q])

set_option maxRecDepth 100000 in
set_option maxHeartbeats 4000000 in
theorem ct_X7_measures (l : Launch) (M : SS) (r : Int32) {f : Nat} (hf : f < 8) : CtS l yX7_measures cX7_measures 7 none (rmD 1) [.ref 0, .int (nI f), .int r] 7 shM M (none) (upC M 6 (md r f (M 6))) := by
  refine CtF.of (own := RX7) [some (.ref 0), some (.int (nI f)), some (.int r), none, none, none, none] (by decide +kernel) rfl (fun _ => Nat.le_of_ble_eq_true rfl) (fun _ => rfl) ?_
  refine VS.iconst (0) dX7_measures_0 rfl ?_
  refine VS.istore_n dX7_measures_1 (by decide) rfl ?_
  refine VS.stt (S2 := upC M 6 (iF f (M 6) 0)) (upC_id M 6).symm ?_
  refine VS.forS (i0 := 0) (8) (fun i => upC M 6 (iF f (M 6) i)) (fun i => [some (.ref 0), some (.int (nI f)), some (.int r), some (.int (nI i)), none, none, none]) (by decide) ?_ (fun i hi ih => ?_)
  · refine VS.iload_n dX7_measures_2 rfl ?_
    refine VS.bipush (8) dX7_measures_3 rfl ?_
    refine VS.icmp_ge 31 dX7_measures_5 (by decide) (fun _ => ?_) (fun hh => absurd (by decide) hh)
    refine VS.iconst (0) dX7_measures_31 rfl ?_
    refine VS.istore_n dX7_measures_32 (by decide) rfl ?_
    refine VS.forS (i0 := 0) (8) (fun k => upC M 6 (mR r (iF f (M 6) 8) k)) (fun k => [some (.ref 0), some (.int (nI f)), some (.int r), some (.int (nI k)), none, none, none]) (by decide) ?_ (fun k hk ik => ?_)
    · refine VS.iload_n dX7_measures_33 rfl ?_
      refine VS.bipush (8) dX7_measures_34 rfl ?_
      refine VS.icmp_ge 168 dX7_measures_36 (by decide) (fun _ => ?_) (fun hh => absurd (by decide) hh)
      exact VS.vret dX7_measures_168 rfl (fun k _ => rfl)
    · refine VS.iload_n dX7_measures_33 rfl ?_
      refine VS.bipush (8) dX7_measures_34 rfl ?_
      refine VS.icmp_ge 168 dX7_measures_36 (by decide) (fun hh => absurd hh (nge8 hk)) (fun _ => ?_)
      refine VS.iconst (0) dX7_measures_39 rfl ?_
      refine VS.istore dX7_measures_40 (by decide) rfl ?_
      refine VS.forS (i0 := 0) (8) (fun a => upC M 6 (mA r (mR r (iF f (M 6) 8) k) a)) (fun a => [some (.ref 0), some (.int (nI f)), some (.int r), some (.int (nI k)), some (.int (nI a)), none, none]) (by decide) ?_ (fun a ha ia => ?_)
      · refine VS.iload dX7_measures_42 rfl ?_
        refine VS.bipush (8) dX7_measures_44 rfl ?_
        refine VS.icmp_ge 162 dX7_measures_46 (by decide) (fun _ => ?_) (fun hh => absurd (by decide) hh)
        refine VS.iinc (nI (k + 1)) dX7_measures_162 rfl (by decide) ((nI_succ k).symm) rfl ?_
        refine VS.goto 33 dX7_measures_165 (by decide) ?_
        exact VS.forget 4 ik
      · refine VS.iload dX7_measures_42 rfl ?_
        refine VS.bipush (8) dX7_measures_44 rfl ?_
        refine VS.icmp_ge 162 dX7_measures_46 (by decide) (fun hh => absurd hh (nge8 ha)) (fun _ => ?_)
        refine VS.iconst (0) dX7_measures_49 rfl ?_
        refine VS.istore dX7_measures_50 (by decide) rfl ?_
        refine VS.forS (i0 := 0) (8) (fun b => upC M 6 (mB r a (mA r (mR r (iF f (M 6) 8) k) a) b)) (fun b => [some (.ref 0), some (.int (nI f)), some (.int r), some (.int (nI k)), some (.int (nI a)), some (.int (nI b)), none]) (by decide) ?_ (fun b hb2 ib => ?_)
        · refine VS.iload dX7_measures_52 rfl ?_
          refine VS.bipush (8) dX7_measures_54 rfl ?_
          refine VS.icmp_ge 156 dX7_measures_56 (by decide) (fun _ => ?_) (fun hh => absurd (by decide) hh)
          refine VS.iinc (nI (a + 1)) dX7_measures_156 rfl (by decide) ((nI_succ a).symm) rfl ?_
          refine VS.goto 42 dX7_measures_159 (by decide) ?_
          exact VS.forget 5 (VS.forget 6 ia)
        · refine VS.iload dX7_measures_52 rfl ?_
          refine VS.bipush (8) dX7_measures_54 rfl ?_
          refine VS.icmp_ge 156 dX7_measures_56 (by decide) (fun hh => absurd hh (nge8 hb2)) (fun _ => ?_)
          refine VS.iload dX7_measures_59 rfl ?_
          refine VS.iload dX7_measures_61 rfl ?_
          refine VS.icmp_eq 97 dX7_measures_63 (by decide) (fun h_63 => ?_) (fun h_63 => ?_)
          · refine VS.iconst (0) dX7_measures_97 rfl ?_
            refine VS.istore dX7_measures_98 (by decide) rfl ?_
            refine VS.aload_n dX7_measures_100 rfl ?_
            refine VS.sgetR 6 dX7_measures_101 uw_X7 rfl (by decide) 9 rfl rfl (by decide) fl_X7_26 rfl ?_
            refine VS.iload dX7_measures_104 rfl ?_
            refine VS.iload dX7_measures_106 rfl ?_
            refine VS.if_eq 142 dX7_measures_108 (by decide) (fun _ => ?_) (fun hh => absurd (rfl) hh)
            refine VS.aload_n dX7_measures_142 rfl ?_
            refine VS.sgetR 6 dX7_measures_143 uw_X7 rfl (by decide) 9 rfl rfl (by decide) fl_X7_26 rfl ?_
            refine VS.iload dX7_measures_146 rfl ?_
            refine VS.siald (b) dX7_measures_148 (by decide) rfl (rfl) (hb2) (by decide) ?_
            refine VS.val (y := (mB r a (mA r (mR r (iF f (M 6) 8) k) a) b) b) rfl ?_
            refine VS.siast (b) dX7_measures_149 (by decide) rfl (rfl) (hb2) (by decide) ?_
            refine VS.stt (S2 := upC M 6 (mB r a (mA r (mR r (iF f (M 6) 8) k) a) (b + 1))) ((by rw [up2, upC_upC, upC_at]; exact congrArg (upC M 6) (rlx_n (fun q => q.1.1 (nIj ha hb2 h_63))).symm)) ?_
            refine VS.iinc (nI (b + 1)) dX7_measures_150 rfl (by decide) ((nI_succ b).symm) rfl ?_
            refine VS.goto 52 dX7_measures_153 (by decide) ?_
            exact VS.forget 6 ib
          · refine VS.iload_n dX7_measures_66 rfl ?_
            refine VS.iload dX7_measures_67 rfl ?_
            refine VS.iload dX7_measures_69 rfl ?_
            refine VS.callN (ct_X7_edge l _ _) dX7_measures_71 mi_X7_edge st_X7_edge ml_X7_37 (rmOk_D (by decide) (by decide)) (Nat.le_of_ble_eq_true rfl) rfl ?_
            refine VS.ishr dX7_measures_74 ?_
            refine VS.iconst (1) dX7_measures_75 rfl ?_
            refine VS.iand dX7_measures_76 ?_
            refine VS.val (y := sb r (eI (nI a) (nI b))) rfl ?_
            refine VS.iconst (1) dX7_measures_77 rfl ?_
            refine VS.icmp_ne 97 dX7_measures_78 (by decide) (fun h_78 => ?_) (fun h_78 => ?_)
            · refine VS.iconst (0) dX7_measures_97 rfl ?_
              refine VS.istore dX7_measures_98 (by decide) rfl ?_
              refine VS.aload_n dX7_measures_100 rfl ?_
              refine VS.sgetR 6 dX7_measures_101 uw_X7 rfl (by decide) 9 rfl rfl (by decide) fl_X7_26 rfl ?_
              refine VS.iload dX7_measures_104 rfl ?_
              refine VS.iload dX7_measures_106 rfl ?_
              refine VS.if_eq 142 dX7_measures_108 (by decide) (fun _ => ?_) (fun hh => absurd (rfl) hh)
              refine VS.aload_n dX7_measures_142 rfl ?_
              refine VS.sgetR 6 dX7_measures_143 uw_X7 rfl (by decide) 9 rfl rfl (by decide) fl_X7_26 rfl ?_
              refine VS.iload dX7_measures_146 rfl ?_
              refine VS.siald (b) dX7_measures_148 (by decide) rfl (rfl) (hb2) (by decide) ?_
              refine VS.val (y := (mB r a (mA r (mR r (iF f (M 6) 8) k) a) b) b) rfl ?_
              refine VS.siast (b) dX7_measures_149 (by decide) rfl (rfl) (hb2) (by decide) ?_
              refine VS.stt (S2 := upC M 6 (mB r a (mA r (mR r (iF f (M 6) 8) k) a) (b + 1))) ((by rw [up2, upC_upC, upC_at]; exact congrArg (upC M 6) (rlx_n (fun q => h_78 q.1.2.1)).symm)) ?_
              refine VS.iinc (nI (b + 1)) dX7_measures_150 rfl (by decide) ((nI_succ b).symm) rfl ?_
              refine VS.goto 52 dX7_measures_153 (by decide) ?_
              exact VS.forget 6 ib
            · refine VS.aload_n dX7_measures_81 rfl ?_
              refine VS.sgetR 6 dX7_measures_82 uw_X7 rfl (by decide) 9 rfl rfl (by decide) fl_X7_26 rfl ?_
              refine VS.iload dX7_measures_85 rfl ?_
              refine VS.siald (a) dX7_measures_87 (by decide) rfl (rfl) (ha) (by decide) ?_
              refine VS.val (y := (mB r a (mA r (mR r (iF f (M 6) 8) k) a) b) a) rfl ?_
              refine VS.bipush (99) dX7_measures_88 rfl ?_
              refine VS.icmp_ge 97 dX7_measures_90 (by decide) (fun h_90 => ?_) (fun h_90 => ?_)
              · refine VS.iconst (0) dX7_measures_97 rfl ?_
                refine VS.istore dX7_measures_98 (by decide) rfl ?_
                refine VS.aload_n dX7_measures_100 rfl ?_
                refine VS.sgetR 6 dX7_measures_101 uw_X7 rfl (by decide) 9 rfl rfl (by decide) fl_X7_26 rfl ?_
                refine VS.iload dX7_measures_104 rfl ?_
                refine VS.iload dX7_measures_106 rfl ?_
                refine VS.if_eq 142 dX7_measures_108 (by decide) (fun _ => ?_) (fun hh => absurd (rfl) hh)
                refine VS.aload_n dX7_measures_142 rfl ?_
                refine VS.sgetR 6 dX7_measures_143 uw_X7 rfl (by decide) 9 rfl rfl (by decide) fl_X7_26 rfl ?_
                refine VS.iload dX7_measures_146 rfl ?_
                refine VS.siald (b) dX7_measures_148 (by decide) rfl (rfl) (hb2) (by decide) ?_
                refine VS.val (y := (mB r a (mA r (mR r (iF f (M 6) 8) k) a) b) b) rfl ?_
                refine VS.siast (b) dX7_measures_149 (by decide) rfl (rfl) (hb2) (by decide) ?_
                refine VS.stt (S2 := upC M 6 (mB r a (mA r (mR r (iF f (M 6) 8) k) a) (b + 1))) ((by rw [up2, upC_upC, upC_at]; exact congrArg (upC M 6) (rlx_n (fun q => absurd q.1.2.2 (Int32.not_lt.mpr h_90))).symm)) ?_
                refine VS.iinc (nI (b + 1)) dX7_measures_150 rfl (by decide) ((nI_succ b).symm) rfl ?_
                refine VS.goto 52 dX7_measures_153 (by decide) ?_
                exact VS.forget 6 ib
              · refine VS.iconst (1) dX7_measures_93 rfl ?_
                refine VS.goto 98 dX7_measures_94 (by decide) ?_
                refine VS.istore dX7_measures_98 (by decide) rfl ?_
                refine VS.aload_n dX7_measures_100 rfl ?_
                refine VS.sgetR 6 dX7_measures_101 uw_X7 rfl (by decide) 9 rfl rfl (by decide) fl_X7_26 rfl ?_
                refine VS.iload dX7_measures_104 rfl ?_
                refine VS.iload dX7_measures_106 rfl ?_
                refine VS.if_eq 142 dX7_measures_108 (by decide) (fun hh => absurd hh (by decide)) (fun _ => ?_)
                refine VS.aload_n dX7_measures_111 rfl ?_
                refine VS.sgetR 6 dX7_measures_112 uw_X7 rfl (by decide) 9 rfl rfl (by decide) fl_X7_26 rfl ?_
                refine VS.iload dX7_measures_115 rfl ?_
                refine VS.siald (a) dX7_measures_117 (by decide) rfl (rfl) (ha) (by decide) ?_
                refine VS.val (y := (mB r a (mA r (mR r (iF f (M 6) 8) k) a) b) a) rfl ?_
                refine VS.iconst (1) dX7_measures_118 rfl ?_
                refine VS.iadd dX7_measures_119 ?_
                refine VS.aload_n dX7_measures_120 rfl ?_
                refine VS.sgetR 6 dX7_measures_121 uw_X7 rfl (by decide) 9 rfl rfl (by decide) fl_X7_26 rfl ?_
                refine VS.iload dX7_measures_124 rfl ?_
                refine VS.siald (b) dX7_measures_126 (by decide) rfl (rfl) (hb2) (by decide) ?_
                refine VS.val (y := (mB r a (mA r (mR r (iF f (M 6) 8) k) a) b) b) rfl ?_
                refine VS.icmp_ge 142 dX7_measures_127 (by decide) (fun h_127 => ?_) (fun h_127 => ?_)
                · refine VS.aload_n dX7_measures_142 rfl ?_
                  refine VS.sgetR 6 dX7_measures_143 uw_X7 rfl (by decide) 9 rfl rfl (by decide) fl_X7_26 rfl ?_
                  refine VS.iload dX7_measures_146 rfl ?_
                  refine VS.siald (b) dX7_measures_148 (by decide) rfl (rfl) (hb2) (by decide) ?_
                  refine VS.val (y := (mB r a (mA r (mR r (iF f (M 6) 8) k) a) b) b) rfl ?_
                  refine VS.siast (b) dX7_measures_149 (by decide) rfl (rfl) (hb2) (by decide) ?_
                  refine VS.stt (S2 := upC M 6 (mB r a (mA r (mR r (iF f (M 6) 8) k) a) (b + 1))) ((by rw [up2, upC_upC, upC_at]; exact congrArg (upC M 6) (rlx_n (fun q => absurd q.2 (Int32.not_lt.mpr h_127))).symm)) ?_
                  refine VS.iinc (nI (b + 1)) dX7_measures_150 rfl (by decide) ((nI_succ b).symm) rfl ?_
                  refine VS.goto 52 dX7_measures_153 (by decide) ?_
                  exact VS.forget 6 ib
                · refine VS.aload_n dX7_measures_130 rfl ?_
                  refine VS.sgetR 6 dX7_measures_131 uw_X7 rfl (by decide) 9 rfl rfl (by decide) fl_X7_26 rfl ?_
                  refine VS.iload dX7_measures_134 rfl ?_
                  refine VS.siald (a) dX7_measures_136 (by decide) rfl (rfl) (ha) (by decide) ?_
                  refine VS.val (y := (mB r a (mA r (mR r (iF f (M 6) 8) k) a) b) a) rfl ?_
                  refine VS.iconst (1) dX7_measures_137 rfl ?_
                  refine VS.iadd dX7_measures_138 ?_
                  refine VS.goto 149 dX7_measures_139 (by decide) ?_
                  refine VS.siast (b) dX7_measures_149 (by decide) rfl (rfl) (hb2) (by decide) ?_
                  refine VS.stt (S2 := upC M 6 (mB r a (mA r (mR r (iF f (M 6) 8) k) a) (b + 1))) ((by rw [up2, upC_upC, upC_at]; exact congrArg (upC M 6) (rlx_y ⟨⟨nIn ha hb2 h_63, h_78, Int32.not_le.mp h_90⟩, Int32.not_le.mp h_127⟩).symm)) ?_
                  refine VS.iinc (nI (b + 1)) dX7_measures_150 rfl (by decide) ((nI_succ b).symm) rfl ?_
                  refine VS.goto 52 dX7_measures_153 (by decide) ?_
                  exact VS.forget 6 ib
  · refine VS.iload_n dX7_measures_2 rfl ?_
    refine VS.bipush (8) dX7_measures_3 rfl ?_
    refine VS.icmp_ge 31 dX7_measures_5 (by decide) (fun hh => absurd hh (nge8 hi)) (fun _ => ?_)
    refine VS.aload_n dX7_measures_8 rfl ?_
    refine VS.sgetR 6 dX7_measures_9 uw_X7 rfl (by decide) 9 rfl rfl (by decide) fl_X7_26 rfl ?_
    refine VS.iload_n dX7_measures_12 rfl ?_
    refine VS.iload_n dX7_measures_13 rfl ?_
    refine VS.iload_n dX7_measures_14 rfl ?_
    refine VS.icmp_ne 22 dX7_measures_15 (by decide) (fun h_15 => ?_) (fun h_15 => ?_)
    · refine VS.bipush (99) dX7_measures_22 rfl ?_
      refine VS.siast (i) dX7_measures_24 (by decide) rfl (rfl) (hi) (by decide) ?_
      refine VS.stt (S2 := upC M 6 (iF f (M 6) (i + 1))) (by rw [up2, upC_upC, upC_at, iF_n (nIn hi hf h_15)]) ?_
      refine VS.iinc (nI (i + 1)) dX7_measures_25 rfl (by decide) ((nI_succ i).symm) rfl ?_
      refine VS.goto 2 dX7_measures_28 (by decide) ?_
      exact ih
    · refine VS.iconst (0) dX7_measures_18 rfl ?_
      refine VS.goto 24 dX7_measures_19 (by decide) ?_
      refine VS.siast (i) dX7_measures_24 (by decide) rfl (rfl) (hi) (by decide) ?_
      refine VS.stt (S2 := upC M 6 (iF f (M 6) (i + 1))) (by rw [up2, upC_upC, upC_at, iF_y (nIj hi hf h_15)]) ?_
      refine VS.iinc (nI (i + 1)) dX7_measures_25 rfl (by decide) ((nI_succ i).symm) rfl ?_
      refine VS.goto 2 dX7_measures_28 (by decide) ?_
      exact ih
set_option maxRecDepth 100000 in
set_option maxHeartbeats 4000000 in
theorem ct_X7_seen (l : Launch) (M : SS) (e : Int32) : CtS l yX7_seen cX7_seen 2 (some FieldType.int) (rmD 0) [.ref 0, .int e] 7 shM M (some (.int (if sb (M 0 7) e = 0 then -6 else sb (M 0 8) e))) (M) := by
  refine CtF.of (own := RX7) [some (.ref 0), some (.int e)] (by decide +kernel) rfl (fun _ => Nat.le_of_ble_eq_true rfl) (fun _ => rfl) ?_
  refine VS.aload_n dX7_seen_0 rfl ?_
  refine VS.sgetI 6 dX7_seen_1 uw_X7 rfl (by decide) 7 rfl rfl (by decide) fl_X7_45 rfl ?_
  refine VS.iload_n dX7_seen_4 rfl ?_
  refine VS.ishr dX7_seen_5 ?_
  refine VS.iconst (1) dX7_seen_6 rfl ?_
  refine VS.iand dX7_seen_7 ?_
  refine VS.val (y := sb (M 0 7) e) rfl ?_
  refine VS.if_ne 16 dX7_seen_8 (by decide) (fun h_8 => ?_) (fun h_8 => ?_)
  · refine VS.aload_n dX7_seen_16 rfl ?_
    refine VS.sgetI 6 dX7_seen_17 uw_X7 rfl (by decide) 8 rfl rfl (by decide) fl_X7_48 rfl ?_
    refine VS.iload_n dX7_seen_20 rfl ?_
    refine VS.ishr dX7_seen_21 ?_
    refine VS.iconst (1) dX7_seen_22 rfl ?_
    refine VS.iand dX7_seen_23 ?_
    refine VS.val (y := sb (M 0 8) e) rfl ?_
    exact VS.iret dX7_seen_24 (by first | rw [if_neg h_8] | rw [if_pos h_8]) (fun _ _ => rfl)
  · refine VS.bipush (-6) dX7_seen_11 rfl ?_
    refine VS.goto 24 dX7_seen_13 (by decide) ?_
    exact VS.iret dX7_seen_24 (by first | rw [if_neg h_8] | rw [if_pos h_8]) (fun _ _ => rfl)
def clJ (s : Nat → Int32) (c : Nat) (e : Int32) : Nat → Int32
  | 0 => 0
  | p + 1 => clJ s c e p ||| sb (s (c + p)) e <<< (nI p &&& 31)
theorem nge3 {i : Nat} (h : i < 3) : ¬ (3 : Int32) ≤ nI i := nI_ge (b := 3) h (by decide)
set_option maxRecDepth 100000 in
set_option maxHeartbeats 4000000 in
theorem ct_X7_claimers (l : Launch) (M : SS) (e : Int32) {c : Nat} (hc : c < 20) : CtS l yX7_claimers cX7_claimers 5 (some FieldType.int) (rmD 0) [.ref 0, .int (nI c), .int e] 7 shM M (some (.int (clJ (M 1) c e 3))) (M) := by
  refine CtF.of (own := RX7) [some (.ref 0), some (.int (nI c)), some (.int e), none, none] (by decide +kernel) rfl (fun _ => Nat.le_of_ble_eq_true rfl) (fun _ => rfl) ?_
  refine VS.iconst (0) dX7_claimers_0 rfl ?_
  refine VS.istore_n dX7_claimers_1 (by decide) rfl ?_
  refine VS.iconst (0) dX7_claimers_2 rfl ?_
  refine VS.istore dX7_claimers_3 (by decide) rfl ?_
  refine VS.forS (i0 := 0) (3) (fun _ => M) (fun i => [some (.ref 0), some (.int (nI c)), some (.int e), some (.int (clJ (M 1) c e i)), some (.int (nI i))]) (by decide) ?_ (fun i hi ih => ?_)
  · refine VS.iload dX7_claimers_5 rfl ?_
    refine VS.iconst (3) dX7_claimers_7 rfl ?_
    refine VS.icmp_ge 36 dX7_claimers_8 (by decide) (fun _ => ?_) (fun hh => absurd (by decide) hh)
    refine VS.iload_n dX7_claimers_36 rfl ?_
    exact VS.iret dX7_claimers_37 (rfl) (fun _ _ => rfl)
  · refine VS.iload dX7_claimers_5 rfl ?_
    refine VS.iconst (3) dX7_claimers_7 rfl ?_
    refine VS.icmp_ge 36 dX7_claimers_8 (by decide) (fun hh => absurd hh (nge3 hi)) (fun _ => ?_)
    refine VS.iload_n dX7_claimers_11 rfl ?_
    refine VS.aload_n dX7_claimers_12 rfl ?_
    refine VS.sgetR 6 dX7_claimers_13 uw_X7 rfl (by decide) 0 rfl rfl (by decide) fl_X7_7 rfl ?_
    refine VS.iload_n dX7_claimers_16 rfl ?_
    refine VS.iload dX7_claimers_17 rfl ?_
    refine VS.iadd dX7_claimers_19 ?_
    refine VS.siald (c + i) dX7_claimers_20 (by decide) rfl (ix_add) (by omega) (by decide) ?_
    refine VS.iload_n dX7_claimers_21 rfl ?_
    refine VS.ishr dX7_claimers_22 ?_
    refine VS.iconst (1) dX7_claimers_23 rfl ?_
    refine VS.iand dX7_claimers_24 ?_
    refine VS.iload dX7_claimers_25 rfl ?_
    refine VS.ishl dX7_claimers_27 ?_
    refine VS.ior dX7_claimers_28 ?_
    refine VS.istore_n dX7_claimers_29 (by decide) rfl ?_
    refine VS.iinc (nI (i + 1)) dX7_claimers_30 rfl (by decide) ((nI_succ i).symm) rfl ?_
    refine VS.goto 5 dX7_claimers_33 (by decide) ?_
    exact ih
set_option maxRecDepth 100000 in
set_option maxHeartbeats 4000000 in
theorem ct_X7_shown (l : Launch) (M : SS)  {p : Nat} (hp : p < 3) : CtS l yX7_shown cX7_shown 2 (some FieldType.int) (rmD 1) [.ref 0, .int (nI p)] 7 shM M (some (.int (pcI (M 0 7 &&& (M 1 (11 + p) &&& (M 0 8 ^^^ -1) ||| M 1 (14 + p) &&& M 0 8))))) (M) := by
  refine CtF.of (own := RX7) [some (.ref 0), some (.int (nI p))] (by decide +kernel) rfl (fun _ => Nat.le_of_ble_eq_true rfl) (fun _ => rfl) ?_
  refine VS.aload_n dX7_shown_0 rfl ?_
  refine VS.sgetI 6 dX7_shown_1 uw_X7 rfl (by decide) 7 rfl rfl (by decide) fl_X7_45 rfl ?_
  refine VS.aload_n dX7_shown_4 rfl ?_
  refine VS.sgetR 6 dX7_shown_5 uw_X7 rfl (by decide) 0 rfl rfl (by decide) fl_X7_7 rfl ?_
  refine VS.bipush (11) dX7_shown_8 rfl ?_
  refine VS.iload_n dX7_shown_10 rfl ?_
  refine VS.iadd dX7_shown_11 ?_
  refine VS.siald (11 + p) dX7_shown_12 (by decide) rfl (ix_add) (by omega) (by decide) ?_
  refine VS.aload_n dX7_shown_13 rfl ?_
  refine VS.sgetI 6 dX7_shown_14 uw_X7 rfl (by decide) 8 rfl rfl (by decide) fl_X7_48 rfl ?_
  refine VS.iconst (-1) dX7_shown_17 rfl ?_
  refine VS.ixor dX7_shown_18 ?_
  refine VS.iand dX7_shown_19 ?_
  refine VS.aload_n dX7_shown_20 rfl ?_
  refine VS.sgetR 6 dX7_shown_21 uw_X7 rfl (by decide) 0 rfl rfl (by decide) fl_X7_7 rfl ?_
  refine VS.bipush (14) dX7_shown_24 rfl ?_
  refine VS.iload_n dX7_shown_26 rfl ?_
  refine VS.iadd dX7_shown_27 ?_
  refine VS.siald (14 + p) dX7_shown_28 (by decide) rfl (ix_add) (by omega) (by decide) ?_
  refine VS.aload_n dX7_shown_29 rfl ?_
  refine VS.sgetI 6 dX7_shown_30 uw_X7 rfl (by decide) 8 rfl rfl (by decide) fl_X7_48 rfl ?_
  refine VS.iand dX7_shown_33 ?_
  refine VS.ior dX7_shown_34 ?_
  refine VS.iand dX7_shown_35 ?_
  refine VS.callN (ct_X7_many l _) dX7_shown_36 mi_X7_many st_X7_many ml_X7_55 (rmOk_D (by decide) (by decide)) (Nat.le_of_ble_eq_true rfl) rfl ?_
  exact VS.iret dX7_shown_39 (rfl) (fun _ _ => rfl)
def ngJ (t : Int32) (p : Nat) : Nat → Int32
  | 0 => 0
  | j + 1 => ngJ t p j ||| (if nI j ≠ nI p ∧ sb t (eI (nI p) (nI j)) = 1 then (1 : Int32) <<< (nI j &&& 31) else 0)
theorem ngJ_y {t : Int32} {p i : Nat} (h : ¬ nI i = nI p) (h2 : sb t (eI (nI p) (nI i)) = 1) : ngJ t p i ||| ((1 : Int32) <<< (nI i &&& 31)) = ngJ t p (i + 1) := (congrArg (fun z => ngJ t p i ||| z) (if_pos ⟨h, h2⟩)).symm
theorem ngJ_n {t : Int32} {p i : Nat} (h : ¬ (nI i ≠ nI p ∧ sb t (eI (nI p) (nI i)) = 1)) : ngJ t p i ||| 0 = ngJ t p (i + 1) := (congrArg (fun z => ngJ t p i ||| z) (if_neg h)).symm
set_option maxRecDepth 100000 in
set_option maxHeartbeats 4000000 in
theorem ct_X7_neighbours (l : Launch) (M : SS)  {p : Nat} (hp : p < 8) : CtS l yX7_neighbours cX7_neighbours 4 (some FieldType.int) (rmD 1) [.ref 0, .int (nI p)] 7 shM M (some (.int (ngJ (M 0 8) p 8))) (M) := by
  refine CtF.of (own := RX7) [some (.ref 0), some (.int (nI p)), none, none] (by decide +kernel) rfl (fun _ => Nat.le_of_ble_eq_true rfl) (fun _ => rfl) ?_
  refine VS.iconst (0) dX7_neighbours_0 rfl ?_
  refine VS.istore_n dX7_neighbours_1 (by decide) rfl ?_
  refine VS.iconst (0) dX7_neighbours_2 rfl ?_
  refine VS.istore_n dX7_neighbours_3 (by decide) rfl ?_
  refine VS.forS (i0 := 0) (8) (fun _ => M) (fun i => [some (.ref 0), some (.int (nI p)), some (.int (ngJ (M 0 8) p i)), some (.int (nI i))]) (by decide) ?_ (fun i hi ih => ?_)
  · refine VS.iload_n dX7_neighbours_4 rfl ?_
    refine VS.bipush (8) dX7_neighbours_5 rfl ?_
    refine VS.icmp_ge 47 dX7_neighbours_7 (by decide) (fun _ => ?_) (fun hh => absurd (by decide) hh)
    refine VS.iload_n dX7_neighbours_47 rfl ?_
    exact VS.iret dX7_neighbours_48 (rfl) (fun _ _ => rfl)
  · refine VS.iload_n dX7_neighbours_4 rfl ?_
    refine VS.bipush (8) dX7_neighbours_5 rfl ?_
    refine VS.icmp_ge 47 dX7_neighbours_7 (by decide) (fun hh => absurd hh (nge8 hi)) (fun _ => ?_)
    refine VS.iload_n dX7_neighbours_10 rfl ?_
    refine VS.iload_n dX7_neighbours_11 rfl ?_
    refine VS.iload_n dX7_neighbours_12 rfl ?_
    refine VS.icmp_eq 38 dX7_neighbours_13 (by decide) (fun h_13 => ?_) (fun h_13 => ?_)
    · refine VS.iconst (0) dX7_neighbours_38 rfl ?_
      refine VS.ior dX7_neighbours_39 ?_
      refine VS.val (y := ngJ (M 0 8) p (i + 1)) (by first | exact ngJ_y h_13 h_29 | exact ngJ_n (fun q => q.1 h_13) | exact ngJ_n (fun q => h_29 q.2)) ?_
      refine VS.istore_n dX7_neighbours_40 (by decide) rfl ?_
      refine VS.iinc (nI (i + 1)) dX7_neighbours_41 rfl (by decide) ((nI_succ i).symm) rfl ?_
      refine VS.goto 4 dX7_neighbours_44 (by decide) ?_
      exact ih
    · refine VS.aload_n dX7_neighbours_16 rfl ?_
      refine VS.sgetI 6 dX7_neighbours_17 uw_X7 rfl (by decide) 8 rfl rfl (by decide) fl_X7_48 rfl ?_
      refine VS.iload_n dX7_neighbours_20 rfl ?_
      refine VS.iload_n dX7_neighbours_21 rfl ?_
      refine VS.callN (ct_X7_edge l _ _) dX7_neighbours_22 mi_X7_edge st_X7_edge ml_X7_37 (rmOk_D (by decide) (by decide)) (Nat.le_of_ble_eq_true rfl) rfl ?_
      refine VS.ishr dX7_neighbours_25 ?_
      refine VS.iconst (1) dX7_neighbours_26 rfl ?_
      refine VS.iand dX7_neighbours_27 ?_
      refine VS.val (y := sb (M 0 8) (eI (nI p) (nI i))) rfl ?_
      refine VS.iconst (1) dX7_neighbours_28 rfl ?_
      refine VS.icmp_ne 38 dX7_neighbours_29 (by decide) (fun h_29 => ?_) (fun h_29 => ?_)
      · refine VS.iconst (0) dX7_neighbours_38 rfl ?_
        refine VS.ior dX7_neighbours_39 ?_
        refine VS.val (y := ngJ (M 0 8) p (i + 1)) (by first | exact ngJ_y h_13 h_29 | exact ngJ_n (fun q => q.1 h_13) | exact ngJ_n (fun q => h_29 q.2)) ?_
        refine VS.istore_n dX7_neighbours_40 (by decide) rfl ?_
        refine VS.iinc (nI (i + 1)) dX7_neighbours_41 rfl (by decide) ((nI_succ i).symm) rfl ?_
        refine VS.goto 4 dX7_neighbours_44 (by decide) ?_
        exact ih
      · refine VS.iconst (1) dX7_neighbours_32 rfl ?_
        refine VS.iload_n dX7_neighbours_33 rfl ?_
        refine VS.ishl dX7_neighbours_34 ?_
        refine VS.goto 39 dX7_neighbours_35 (by decide) ?_
        refine VS.ior dX7_neighbours_39 ?_
        refine VS.val (y := ngJ (M 0 8) p (i + 1)) (by first | exact ngJ_y h_13 h_29 | exact ngJ_n (fun q => q.1 h_13) | exact ngJ_n (fun q => h_29 q.2)) ?_
        refine VS.istore_n dX7_neighbours_40 (by decide) rfl ?_
        refine VS.iinc (nI (i + 1)) dX7_neighbours_41 rfl (by decide) ((nI_succ i).symm) rfl ?_
        refine VS.goto 4 dX7_neighbours_44 (by decide) ?_
        exact ih
