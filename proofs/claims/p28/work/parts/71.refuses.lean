/-! the law's refuses -/
def RStp (l : Launch) (P : SS → Prop) (pc : Nat) (L : List (Option Value)) (P2 : SS → Prop) (pc2 : Nat) (L2 : List (Option Value)) : Prop := ∀ S, P S → ∃ S2, P2 S2 ∧ ∀ X : XT, VS l (rmD 8) RL cL_refuses 9 X 0 0 77 (shW shK S2) pc2 L2 [] → VS l (rmD 8) RL cL_refuses 9 X 0 0 77 (shW shK S) pc L []
theorem RStp.trans {l : Launch} {P P2 P3 : SS → Prop} {pc pc2 pc3 : Nat} {L L2 L3 : List (Option Value)} (h : RStp l P pc L P2 pc2 L2) (h2 : RStp l P2 pc2 L2 P3 pc3 L3) : RStp l P pc L P3 pc3 L3 := fun S hS => by
  obtain ⟨S2, a1, a2⟩ := h S hS
  obtain ⟨S3, b1, b2⟩ := h2 S2 a1
  exact ⟨S3, b1, fun X k => a2 X (b2 X k)⟩
theorem RStp.still {l : Launch} {P : SS → Prop} {pc pc2 : Nat} {L L2 : List (Option Value)} (h : ∀ (S : SS) (X : XT), P S → VS l (rmD 8) RL cL_refuses 9 X 0 0 77 (shW shK S) pc2 L2 [] → VS l (rmD 8) RL cL_refuses 9 X 0 0 77 (shW shK S) pc L []) : RStp l P pc L P pc2 L2 := fun S hS => ⟨S, hS, fun X => h S X hS⟩
theorem RStp.op {l : Launch} {M : SS} {w : Int32} {y : MethodName} {cc : ByteArray} {nL : Nat} {rm : Room} {as : List Value} {pc pc2 : Nat} {L L2 : List (Option Value)} (hop : OpK l y cc nL rm as M w M) (hw : ∀ (S S2 : SS) (X : XT), CtS l y cc nL (some .int) rm (.ref 0 :: as) 77 shK S (some (.int w)) S2 → VS l (rmD 8) RL cL_refuses 9 X 0 0 77 (shW shK S2) pc2 L2 [] → VS l (rmD 8) RL cL_refuses 9 X 0 0 77 (shW shK S) pc L []) : RStp l (fun S => RelK S M) pc L (fun S => RelK S M) pc2 L2 := fun S hS => by
  obtain ⟨S2, a1, a2⟩ := hop S hS
  exact ⟨S2, a2, fun X => hw S S2 X a1⟩
/-- refused: nothing changes -/
theorem no_of {l : Launch} {M : SS} {bar val w : Int32} {s2 : Nat → Int32} {y : MethodName} {cc : ByteArray} {nL : Nat} {rm : Room} {as : List Value} (h : OpK l y cc nL rm as M (chV bar val) (chM M bar s2)) (hb : bar = w) (hw : ¬ w = 0) : OpK l y cc nL rm as M w M := by
  subst hb
  have e1 : chV bar val = bar := if_neg hw
  have e2 : chM M bar s2 = M := if_neg hw
  rw [e1, e2] at h
  exact h
def rfNo (y : Nat) : Int32 := if y % 2 = 0 then nI (8 + y) else -1 - nI y
def rfWho (y : Nat) : Int32 := if y % 2 = 0 then nI (3 + y) else -1 - nI y
theorem neg_1 {y : Nat} (hy : y < 100000) : (-1 - nI y) < 0 := by
  have e : ∃ z, z < 2 ^ 31 ∧ -1 - nI y = -1 - nI z ∧ z = y := ⟨y, by omega, rfl, rfl⟩
  apply Int32.lt_iff_toInt_lt.mpr
  have h1 : (-1 - nI y : Int32) = Int32.ofInt (-1 - (y : Int)) := by
    rw [Int32.ofInt_sub]
    rfl
  rw [h1, Int32.toInt_ofInt_of_le (by omega) (by omega)]
  show -1 - (y : Int) < 0
  omega
theorem no_bad {y : Nat} (hy : y < 100000) : ¬ (0 ≤ rfNo y ∧ rfNo y < 8) := by
  unfold rfNo
  split
  · exact fun z => absurd z.2 (nI_nlt (b := 8) (by omega) (by omega))
  · exact fun z => absurd z.1 (Int32.not_le.mpr (neg_1 hy))
theorem who_bad {y : Nat} (hy : y < 100000) : ¬ (0 ≤ rfWho y ∧ rfWho y < 3) := by
  unfold rfWho
  split
  · exact fun z => absurd z.2 (nI_nlt (b := 3) (by omega) (by omega))
  · exact fun z => absurd z.1 (Int32.not_le.mpr (neg_1 hy))
theorem wr_no {y : Nat} (hy : y < 100000) (b : Int32) : wrE (rfNo y) b = -1 := if_neg fun z => no_bad hy z.1
theorem big_n {c y : Nat} (hy : y < 100000) (hc : c < 1000) : (nI (c + y)).toInt = c + y := by rw [nI_toInt (by omega)]; omega
set_option maxRecDepth 100000 in
set_option maxHeartbeats 1500000 in
theorem rf_a (l : Launch) {M : SS} {y : Nat} (hy : y < 100000) : RStp l (fun S => RelK S M) 0 [some (.ref 0), some (.int (nI y)), none, none, none, none, none, none, none] (fun S => RelK S M) 71 [some (.ref 0), some (.int (nI y)), some (.int (rfNo y)), some (.int (rfWho y)), some (.int (rem3 (M 1 7))), some (.int (if 0 < M 1 6 then 1 else 0)), some (.int (if M 1 6 = 1 then 1 else 0)), none, none] := by
  refine RStp.still (fun S X h k => ?_)
  refine VS.joinB 16 [.int (rfNo y)] (fun k16 => ?_) ?_
  · by_cases he : y % 2 = 0
    · refine VS.iload_n dL_refuses_0 rfl ?_
      refine VS.iconst (2) dL_refuses_1 rfl ?_
      refine VS.irem dL_refuses_2 (by decide) ?_
      refine VS.val (y := nI (y % 2)) (rem_n (d := 2) (by omega) (by decide) (by decide)) ?_
      refine VS.if_ne 13 dL_refuses_3 (by decide) (fun hh => absurd (by rw [he]; rfl) hh) (fun _ => ?_)
      refine VS.bipush (8) dL_refuses_6 rfl ?_
      refine VS.iload_n dL_refuses_8 rfl ?_
      refine VS.iadd dL_refuses_9 ?_
      refine VS.val (y := rfNo y) ((nI_add 8 y).trans (if_pos he).symm) ?_
      refine VS.goto 16 dL_refuses_10 (by decide) ?_
      exact k16
    · refine VS.iload_n dL_refuses_0 rfl ?_
      refine VS.iconst (2) dL_refuses_1 rfl ?_
      refine VS.irem dL_refuses_2 (by decide) ?_
      refine VS.val (y := nI (y % 2)) (rem_n (d := 2) (by omega) (by decide) (by decide)) ?_
      refine VS.if_ne 13 dL_refuses_3 (by decide) (fun _ => ?_) (fun hh => absurd hh (nI_ne0 (by omega) (by omega)))
      refine VS.iconst (-1) dL_refuses_13 rfl ?_
      refine VS.iload_n dL_refuses_14 rfl ?_
      refine VS.isub dL_refuses_15 ?_
      refine VS.val (y := rfNo y) ((if_neg he).symm) ?_
      exact k16
  refine VS.istore_n dL_refuses_16 (by decide) rfl ?_
  refine VS.joinB 32 [.int (rfWho y)] (fun k32 => ?_) ?_
  · by_cases he : y % 2 = 0
    · refine VS.iload_n dL_refuses_17 rfl ?_
      refine VS.iconst (2) dL_refuses_18 rfl ?_
      refine VS.irem dL_refuses_19 (by decide) ?_
      refine VS.val (y := nI (y % 2)) (rem_n (d := 2) (by omega) (by decide) (by decide)) ?_
      refine VS.if_ne 29 dL_refuses_20 (by decide) (fun hh => absurd (by rw [he]; rfl) hh) (fun _ => ?_)
      refine VS.iconst (3) dL_refuses_23 rfl ?_
      refine VS.iload_n dL_refuses_24 rfl ?_
      refine VS.iadd dL_refuses_25 ?_
      refine VS.val (y := rfWho y) ((nI_add 3 y).trans (if_pos he).symm) ?_
      refine VS.goto 32 dL_refuses_26 (by decide) ?_
      exact k32
    · refine VS.iload_n dL_refuses_17 rfl ?_
      refine VS.iconst (2) dL_refuses_18 rfl ?_
      refine VS.irem dL_refuses_19 (by decide) ?_
      refine VS.val (y := nI (y % 2)) (rem_n (d := 2) (by omega) (by decide) (by decide)) ?_
      refine VS.if_ne 29 dL_refuses_20 (by decide) (fun _ => ?_) (fun hh => absurd hh (nI_ne0 (by omega) (by omega)))
      refine VS.iconst (-1) dL_refuses_29 rfl ?_
      refine VS.iload_n dL_refuses_30 rfl ?_
      refine VS.isub dL_refuses_31 ?_
      refine VS.val (y := rfWho y) ((if_neg he).symm) ?_
      exact k32
  refine VS.istore_n dL_refuses_32 (by decide) rfl ?_
  refine VS.aload_n dL_refuses_33 rfl ?_
  refine VS.iconst (1) dL_refuses_34 rfl ?_
  refine VS.callT (ak_count l (c := 1) (by decide) S h) dL_refuses_35 mi_X6_count im_X6_count sel_X6_count ml_L_23 (by decide) rfl rfl (rmOk_D (by decide) (by decide)) (Nat.le_of_ble_eq_true rfl) rfl ?_
  refine VS.val (y := rem3 (M 1 7)) (rfl) ?_
  refine VS.istore dL_refuses_38 (by decide) rfl ?_
  refine VS.nf [some (.ref 0), some (.int (nI y)), some (.int (rfNo y)), some (.int (rfWho y)), some (.int (rem3 (M 1 7))), none, none, none, none] rfl ?_
  refine VS.joinB 53 [.int (if 0 < M 1 6 then 1 else 0)] (fun k53 => ?_) ?_
  · by_cases he : 0 < M 1 6
    · refine VS.aload_n dL_refuses_40 rfl ?_
      refine VS.iconst (2) dL_refuses_41 rfl ?_
      refine VS.callT (ak_count l (c := 2) (by decide) S h) dL_refuses_42 mi_X6_count im_X6_count sel_X6_count ml_L_23 (by decide) rfl rfl (rmOk_D (by decide) (by decide)) (Nat.le_of_ble_eq_true rfl) rfl ?_
      refine VS.val (y := M 1 6) (rfl) ?_
      refine VS.if_le 52 dL_refuses_45 (by decide) (fun hh => absurd hh (Int32.not_le.mpr he)) (fun _ => ?_)
      refine VS.iconst (1) dL_refuses_48 rfl ?_
      refine VS.val (y := if 0 < M 1 6 then 1 else 0) ((if_pos he).symm) ?_
      refine VS.goto 53 dL_refuses_49 (by decide) ?_
      exact k53
    · refine VS.aload_n dL_refuses_40 rfl ?_
      refine VS.iconst (2) dL_refuses_41 rfl ?_
      refine VS.callT (ak_count l (c := 2) (by decide) S h) dL_refuses_42 mi_X6_count im_X6_count sel_X6_count ml_L_23 (by decide) rfl rfl (rmOk_D (by decide) (by decide)) (Nat.le_of_ble_eq_true rfl) rfl ?_
      refine VS.val (y := M 1 6) (rfl) ?_
      refine VS.if_le 52 dL_refuses_45 (by decide) (fun _ => ?_) (fun hh => absurd (Int32.not_lt.mp he) hh)
      refine VS.iconst (0) dL_refuses_52 rfl ?_
      refine VS.val (y := if 0 < M 1 6 then 1 else 0) ((if_neg he).symm) ?_
      exact k53
  refine VS.istore dL_refuses_53 (by decide) rfl ?_
  refine VS.joinB 69 [.int (if M 1 6 = 1 then 1 else 0)] (fun k69 => ?_) ?_
  · by_cases he : M 1 6 = 1
    · refine VS.aload_n dL_refuses_55 rfl ?_
      refine VS.iconst (2) dL_refuses_56 rfl ?_
      refine VS.callT (ak_count l (c := 2) (by decide) S h) dL_refuses_57 mi_X6_count im_X6_count sel_X6_count ml_L_23 (by decide) rfl rfl (rmOk_D (by decide) (by decide)) (Nat.le_of_ble_eq_true rfl) rfl ?_
      refine VS.val (y := M 1 6) (rfl) ?_
      refine VS.iconst (1) dL_refuses_60 rfl ?_
      refine VS.icmp_ne 68 dL_refuses_61 (by decide) (fun hh => absurd (he) hh) (fun _ => ?_)
      refine VS.iconst (1) dL_refuses_64 rfl ?_
      refine VS.val (y := if M 1 6 = 1 then 1 else 0) ((if_pos he).symm) ?_
      refine VS.goto 69 dL_refuses_65 (by decide) ?_
      exact k69
    · refine VS.aload_n dL_refuses_55 rfl ?_
      refine VS.iconst (2) dL_refuses_56 rfl ?_
      refine VS.callT (ak_count l (c := 2) (by decide) S h) dL_refuses_57 mi_X6_count im_X6_count sel_X6_count ml_L_23 (by decide) rfl rfl (rmOk_D (by decide) (by decide)) (Nat.le_of_ble_eq_true rfl) rfl ?_
      refine VS.val (y := M 1 6) (rfl) ?_
      refine VS.iconst (1) dL_refuses_60 rfl ?_
      refine VS.icmp_ne 68 dL_refuses_61 (by decide) (fun _ => ?_) (fun hh => absurd hh (he))
      refine VS.iconst (0) dL_refuses_68 rfl ?_
      refine VS.val (y := if M 1 6 = 1 then 1 else 0) ((if_neg he).symm) ?_
      exact k69
  refine VS.istore dL_refuses_69 (by decide) rfl ?_
  exact k
set_option maxRecDepth 100000 in
set_option maxHeartbeats 1500000 in
theorem rf_71 (l : Launch) {M : SS} {y : Nat} (hy : y < 100000) (hg : Good (M 1)) : RStp l (fun S => RelK S M) 71 [some (.ref 0), some (.int (nI y)), some (.int (rfNo y)), some (.int (rfWho y)), some (.int (rem3 (M 1 7))), some (.int (if 0 < M 1 6 then 1 else 0)), some (.int (if M 1 6 = 1 then 1 else 0)), none, none] (fun S => RelK S M) 84 [some (.ref 0), some (.int (nI y)), some (.int (rfNo y)), some (.int (rfWho y)), some (.int (rem3 (M 1 7))), some (.int (if 0 < M 1 6 then 1 else 0)), some (.int (if M 1 6 = 1 then 1 else 0)), none, none] := by
  refine RStp.op (no_of (w := -2) (ok_set l (nI (4 + y)) 1) (if_neg (fun z => absurd z.1.2 (nI_ge (b := 4 + y) (a := 3) (by omega) (by omega)))) (by decide)) (fun S S2 X hC k => ?_)
  refine VS.aload_n dL_refuses_71 rfl ?_
  refine VS.iconst (4) dL_refuses_72 rfl ?_
  refine VS.iload_n dL_refuses_73 rfl ?_
  refine VS.iadd dL_refuses_74 ?_
  refine VS.val (y := nI (4 + y)) (nI_add 4 y) ?_
  refine VS.iconst (1) dL_refuses_75 rfl ?_
  refine VS.callT (hC) dL_refuses_76 mi_X6_set im_X6_set sel_X6_set ml_L_9 (by decide) rfl rfl (rmOk_D (by decide) (by decide)) (Nat.le_of_ble_eq_true rfl) rfl ?_
  refine VS.bipush (-2) dL_refuses_79 rfl ?_
  refine VS.icmp_ne 475 dL_refuses_81 (by decide) (fun hh => absurd (rfl) hh) (fun _ => ?_)
  exact k
set_option maxRecDepth 100000 in
set_option maxHeartbeats 1500000 in
theorem rf_84 (l : Launch) {M : SS} {y : Nat} (hy : y < 100000) (hg : Good (M 1)) : RStp l (fun S => RelK S M) 84 [some (.ref 0), some (.int (nI y)), some (.int (rfNo y)), some (.int (rfWho y)), some (.int (rem3 (M 1 7))), some (.int (if 0 < M 1 6 then 1 else 0)), some (.int (if M 1 6 = 1 then 1 else 0)), none, none] (fun S => RelK S M) 98 [some (.ref 0), some (.int (nI y)), some (.int (rfNo y)), some (.int (rfWho y)), some (.int (rem3 (M 1 7))), some (.int (if 0 < M 1 6 then 1 else 0)), some (.int (if M 1 6 = 1 then 1 else 0)), none, none] := by
  refine RStp.op (no_of (w := -2) (ok_set l 0 (nI (21 + y))) (if_neg (fun z => absurd z.2.2 (nI_ge (b := 21 + y) (a := 20) (by omega) (by omega)))) (by decide)) (fun S S2 X hC k => ?_)
  refine VS.aload_n dL_refuses_84 rfl ?_
  refine VS.iconst (0) dL_refuses_85 rfl ?_
  refine VS.bipush (21) dL_refuses_86 rfl ?_
  refine VS.iload_n dL_refuses_88 rfl ?_
  refine VS.iadd dL_refuses_89 ?_
  refine VS.val (y := nI (21 + y)) (nI_add 21 y) ?_
  refine VS.callT (hC) dL_refuses_90 mi_X6_set im_X6_set sel_X6_set ml_L_9 (by decide) rfl rfl (rmOk_D (by decide) (by decide)) (Nat.le_of_ble_eq_true rfl) rfl ?_
  refine VS.bipush (-2) dL_refuses_93 rfl ?_
  refine VS.icmp_ne 475 dL_refuses_95 (by decide) (fun hh => absurd (rfl) hh) (fun _ => ?_)
  exact k
set_option maxRecDepth 100000 in
set_option maxHeartbeats 1500000 in
theorem rf_98 (l : Launch) {M : SS} {y : Nat} (hy : y < 100000) (hg : Good (M 1)) : RStp l (fun S => RelK S M) 98 [some (.ref 0), some (.int (nI y)), some (.int (rfNo y)), some (.int (rfWho y)), some (.int (rem3 (M 1 7))), some (.int (if 0 < M 1 6 then 1 else 0)), some (.int (if M 1 6 = 1 then 1 else 0)), none, none] (fun S => RelK S M) 109 [some (.ref 0), some (.int (nI y)), some (.int (rfNo y)), some (.int (rfWho y)), some (.int (rem3 (M 1 7))), some (.int (if 0 < M 1 6 then 1 else 0)), some (.int (if M 1 6 = 1 then 1 else 0)), none, none] := by
  refine RStp.op (no_of (w := -2) (ok_set l 1 0) (if_neg (fun z => absurd z.2.1 (by decide))) (by decide)) (fun S S2 X hC k => ?_)
  refine VS.aload_n dL_refuses_98 rfl ?_
  refine VS.iconst (1) dL_refuses_99 rfl ?_
  refine VS.iconst (0) dL_refuses_100 rfl ?_
  refine VS.callT (hC) dL_refuses_101 mi_X6_set im_X6_set sel_X6_set ml_L_9 (by decide) rfl rfl (rmOk_D (by decide) (by decide)) (Nat.le_of_ble_eq_true rfl) rfl ?_
  refine VS.bipush (-2) dL_refuses_104 rfl ?_
  refine VS.icmp_ne 475 dL_refuses_106 (by decide) (fun hh => absurd (rfl) hh) (fun _ => ?_)
  exact k
set_option maxRecDepth 100000 in
set_option maxHeartbeats 1500000 in
theorem rf_109 (l : Launch) {M : SS} {y : Nat} (hy : y < 100000) (hg : Good (M 1)) : RStp l (fun S => RelK S M) 109 [some (.ref 0), some (.int (nI y)), some (.int (rfNo y)), some (.int (rfWho y)), some (.int (rem3 (M 1 7))), some (.int (if 0 < M 1 6 then 1 else 0)), some (.int (if M 1 6 = 1 then 1 else 0)), none, none] (fun S => RelK S M) 122 [some (.ref 0), some (.int (nI y)), some (.int (rfNo y)), some (.int (rfWho y)), some (.int (rem3 (M 1 7))), some (.int (if 0 < M 1 6 then 1 else 0)), some (.int (if M 1 6 = 1 then 1 else 0)), none, none] := by
  refine RStp.op (no_of (w := -2) (ok_set l 2 (-1 - nI y)) (if_neg (fun z => absurd z.2.1 (Int32.not_le.mpr (neg_1 hy)))) (by decide)) (fun S S2 X hC k => ?_)
  refine VS.aload_n dL_refuses_109 rfl ?_
  refine VS.iconst (2) dL_refuses_110 rfl ?_
  refine VS.iconst (-1) dL_refuses_111 rfl ?_
  refine VS.iload_n dL_refuses_112 rfl ?_
  refine VS.isub dL_refuses_113 ?_
  refine VS.callT (hC) dL_refuses_114 mi_X6_set im_X6_set sel_X6_set ml_L_9 (by decide) rfl rfl (rmOk_D (by decide) (by decide)) (Nat.le_of_ble_eq_true rfl) rfl ?_
  refine VS.bipush (-2) dL_refuses_117 rfl ?_
  refine VS.icmp_ne 475 dL_refuses_119 (by decide) (fun hh => absurd (rfl) hh) (fun _ => ?_)
  exact k
set_option maxRecDepth 100000 in
set_option maxHeartbeats 1500000 in
theorem rf_122 (l : Launch) {M : SS} {y : Nat} (hy : y < 100000) (hg : Good (M 1)) : RStp l (fun S => RelK S M) 122 [some (.ref 0), some (.int (nI y)), some (.int (rfNo y)), some (.int (rfWho y)), some (.int (rem3 (M 1 7))), some (.int (if 0 < M 1 6 then 1 else 0)), some (.int (if M 1 6 = 1 then 1 else 0)), none, none] (fun S => RelK S M) 137 [some (.ref 0), some (.int (nI y)), some (.int (rfNo y)), some (.int (rfWho y)), some (.int (rem3 (M 1 7))), some (.int (if 0 < M 1 6 then 1 else 0)), some (.int (if M 1 6 = 1 then 1 else 0)), none, none] := by
  refine RStp.op (no_of (w := -2) (ok_set l 3 (nI (201 + y))) (if_neg (fun z => absurd z.2.2 (nI_ge (b := 201 + y) (a := 200) (by omega) (by omega)))) (by decide)) (fun S S2 X hC k => ?_)
  refine VS.aload_n dL_refuses_122 rfl ?_
  refine VS.iconst (3) dL_refuses_123 rfl ?_
  refine VS.sipush (201) dL_refuses_124 rfl ?_
  refine VS.iload_n dL_refuses_127 rfl ?_
  refine VS.iadd dL_refuses_128 ?_
  refine VS.val (y := nI (201 + y)) (nI_add 201 y) ?_
  refine VS.callT (hC) dL_refuses_129 mi_X6_set im_X6_set sel_X6_set ml_L_9 (by decide) rfl rfl (rmOk_D (by decide) (by decide)) (Nat.le_of_ble_eq_true rfl) rfl ?_
  refine VS.bipush (-2) dL_refuses_132 rfl ?_
  refine VS.icmp_ne 475 dL_refuses_134 (by decide) (fun hh => absurd (rfl) hh) (fun _ => ?_)
  exact k
set_option maxRecDepth 100000 in
set_option maxHeartbeats 1500000 in
theorem rf_137 (l : Launch) {M : SS} {y : Nat} (hy : y < 100000) (hg : Good (M 1)) : RStp l (fun S => RelK S M) 137 [some (.ref 0), some (.int (nI y)), some (.int (rfNo y)), some (.int (rfWho y)), some (.int (rem3 (M 1 7))), some (.int (if 0 < M 1 6 then 1 else 0)), some (.int (if M 1 6 = 1 then 1 else 0)), none, none] (fun S => RelK S M) 147 [some (.ref 0), some (.int (nI y)), some (.int (rfNo y)), some (.int (rfWho y)), some (.int (rem3 (M 1 7))), some (.int (if 0 < M 1 6 then 1 else 0)), some (.int (if M 1 6 = 1 then 1 else 0)), none, none] := by
  refine RStp.op (no_of (w := -1) (ok_road l (rfNo y) (rfNo y)) (by unfold rBarRoad; rw [(wr_no hy _)]; rfl) (by decide)) (fun S S2 X hC k => ?_)
  refine VS.aload_n dL_refuses_137 rfl ?_
  refine VS.iload_n dL_refuses_138 rfl ?_
  refine VS.iload_n dL_refuses_139 rfl ?_
  refine VS.callT (hC) dL_refuses_140 mi_X6_road im_X6_road sel_X6_road ml_L_26 (by decide) rfl rfl (rmOk_D (by decide) (by decide)) (Nat.le_of_ble_eq_true rfl) rfl ?_
  refine VS.iconst (-1) dL_refuses_143 rfl ?_
  refine VS.icmp_ne 475 dL_refuses_144 (by decide) (fun hh => absurd (rfl) hh) (fun _ => ?_)
  exact k
set_option maxRecDepth 100000 in
set_option maxHeartbeats 1500000 in
theorem rf_147 (l : Launch) {M : SS} {y : Nat} (hy : y < 100000) (hg : Good (M 1)) : RStp l (fun S => RelK S M) 147 [some (.ref 0), some (.int (nI y)), some (.int (rfNo y)), some (.int (rfWho y)), some (.int (rem3 (M 1 7))), some (.int (if 0 < M 1 6 then 1 else 0)), some (.int (if M 1 6 = 1 then 1 else 0)), none, none] (fun S => RelK S M) 158 [some (.ref 0), some (.int (nI y)), some (.int (rfNo y)), some (.int (rfWho y)), some (.int (rem3 (M 1 7))), some (.int (if 0 < M 1 6 then 1 else 0)), some (.int (if M 1 6 = 1 then 1 else 0)), none, none] := by
  refine RStp.op (no_of (w := -2) (ok_road l 3 3) (rfl) (by decide)) (fun S S2 X hC k => ?_)
  refine VS.aload_n dL_refuses_147 rfl ?_
  refine VS.iconst (3) dL_refuses_148 rfl ?_
  refine VS.iconst (3) dL_refuses_149 rfl ?_
  refine VS.callT (hC) dL_refuses_150 mi_X6_road im_X6_road sel_X6_road ml_L_26 (by decide) rfl rfl (rmOk_D (by decide) (by decide)) (Nat.le_of_ble_eq_true rfl) rfl ?_
  refine VS.bipush (-2) dL_refuses_153 rfl ?_
  refine VS.icmp_ne 475 dL_refuses_155 (by decide) (fun hh => absurd (rfl) hh) (fun _ => ?_)
  exact k
set_option maxRecDepth 100000 in
set_option maxHeartbeats 1500000 in
theorem rf_158 (l : Launch) {M : SS} {y : Nat} (hy : y < 100000) (hg : Good (M 1)) : RStp l (fun S => RelK S M) 158 [some (.ref 0), some (.int (nI y)), some (.int (rfNo y)), some (.int (rfWho y)), some (.int (rem3 (M 1 7))), some (.int (if 0 < M 1 6 then 1 else 0)), some (.int (if M 1 6 = 1 then 1 else 0)), none, none] (fun S => RelK S M) 167 [some (.ref 0), some (.int (nI y)), some (.int (rfNo y)), some (.int (rfWho y)), some (.int (rem3 (M 1 7))), some (.int (if 0 < M 1 6 then 1 else 0)), some (.int (if M 1 6 = 1 then 1 else 0)), none, none] := by
  refine RStp.op (no_of (w := -1) (ok_treasure l (rfNo y)) (if_neg (no_bad hy)) (by decide)) (fun S S2 X hC k => ?_)
  refine VS.aload_n dL_refuses_158 rfl ?_
  refine VS.iload_n dL_refuses_159 rfl ?_
  refine VS.callT (hC) dL_refuses_160 mi_X6_treasure im_X6_treasure sel_X6_treasure ml_L_15 (by decide) rfl rfl (rmOk_D (by decide) (by decide)) (Nat.le_of_ble_eq_true rfl) rfl ?_
  refine VS.iconst (-1) dL_refuses_163 rfl ?_
  refine VS.icmp_ne 475 dL_refuses_164 (by decide) (fun hh => absurd (rfl) hh) (fun _ => ?_)
  exact k
set_option maxRecDepth 100000 in
set_option maxHeartbeats 1500000 in
theorem rf_167 (l : Launch) {M : SS} {y : Nat} (hy : y < 100000) (hg : Good (M 1)) : RStp l (fun S => RelK S M) 167 [some (.ref 0), some (.int (nI y)), some (.int (rfNo y)), some (.int (rfWho y)), some (.int (rem3 (M 1 7))), some (.int (if 0 < M 1 6 then 1 else 0)), some (.int (if M 1 6 = 1 then 1 else 0)), none, none] (fun S => RelK S M) 178 [some (.ref 0), some (.int (nI y)), some (.int (rfNo y)), some (.int (rfWho y)), some (.int (rem3 (M 1 7))), some (.int (if 0 < M 1 6 then 1 else 0)), some (.int (if M 1 6 = 1 then 1 else 0)), none, none] := by
  refine RStp.op (no_of (w := -1) (ok_claim l (rfNo y) 0 5) (by unfold rBarClaim; rw [(wr_no hy _)]; rfl) (by decide)) (fun S S2 X hC k => ?_)
  refine VS.aload_n dL_refuses_167 rfl ?_
  refine VS.iload_n dL_refuses_168 rfl ?_
  refine VS.iconst (0) dL_refuses_169 rfl ?_
  refine VS.iconst (5) dL_refuses_170 rfl ?_
  refine VS.callT (hC) dL_refuses_171 mi_X6_claim im_X6_claim sel_X6_claim ml_L_77 (by decide) rfl rfl (rmOk_D (by decide) (by decide)) (Nat.le_of_ble_eq_true rfl) rfl ?_
  refine VS.iconst (-1) dL_refuses_174 rfl ?_
  refine VS.icmp_ne 475 dL_refuses_175 (by decide) (fun hh => absurd (rfl) hh) (fun _ => ?_)
  exact k
set_option maxRecDepth 100000 in
set_option maxHeartbeats 1500000 in
theorem rf_178 (l : Launch) {M : SS} {y : Nat} (hy : y < 100000) (hg : Good (M 1)) : RStp l (fun S => RelK S M) 178 [some (.ref 0), some (.int (nI y)), some (.int (rfNo y)), some (.int (rfWho y)), some (.int (rem3 (M 1 7))), some (.int (if 0 < M 1 6 then 1 else 0)), some (.int (if M 1 6 = 1 then 1 else 0)), none, none] (fun S => RelK S M) 192 [some (.ref 0), some (.int (nI y)), some (.int (rfNo y)), some (.int (rfWho y)), some (.int (rem3 (M 1 7))), some (.int (if 0 < M 1 6 then 1 else 0)), some (.int (if M 1 6 = 1 then 1 else 0)), none, none] := by
  refine RStp.op (no_of (w := -2) (ok_claim l 0 1 (nI (2 + y))) (by unfold rBarClaim; rw [if_pos (show wrE 0 1 = 0 by decide)]; exact if_neg (fun z => absurd z.2 (nI_ge (b := 2 + y) (a := 1) (by omega) (by omega)))) (by decide)) (fun S S2 X hC k => ?_)
  refine VS.aload_n dL_refuses_178 rfl ?_
  refine VS.iconst (0) dL_refuses_179 rfl ?_
  refine VS.iconst (1) dL_refuses_180 rfl ?_
  refine VS.iconst (2) dL_refuses_181 rfl ?_
  refine VS.iload_n dL_refuses_182 rfl ?_
  refine VS.iadd dL_refuses_183 ?_
  refine VS.val (y := nI (2 + y)) (nI_add 2 y) ?_
  refine VS.callT (hC) dL_refuses_184 mi_X6_claim im_X6_claim sel_X6_claim ml_L_77 (by decide) rfl rfl (rmOk_D (by decide) (by decide)) (Nat.le_of_ble_eq_true rfl) rfl ?_
  refine VS.bipush (-2) dL_refuses_187 rfl ?_
  refine VS.icmp_ne 475 dL_refuses_189 (by decide) (fun hh => absurd (rfl) hh) (fun _ => ?_)
  exact k
set_option maxRecDepth 100000 in
set_option maxHeartbeats 1500000 in
theorem rf_192 (l : Launch) {M : SS} {y : Nat} (hy : y < 100000) (hg : Good (M 1)) : RStp l (fun S => RelK S M) 192 [some (.ref 0), some (.int (nI y)), some (.int (rfNo y)), some (.int (rfWho y)), some (.int (rem3 (M 1 7))), some (.int (if 0 < M 1 6 then 1 else 0)), some (.int (if M 1 6 = 1 then 1 else 0)), none, none] (fun S => RelK S M) 204 [some (.ref 0), some (.int (nI y)), some (.int (rfNo y)), some (.int (rfWho y)), some (.int (rem3 (M 1 7))), some (.int (if 0 < M 1 6 then 1 else 0)), some (.int (if M 1 6 = 1 then 1 else 0)), none, none] := by
  refine RStp.op (no_of (w := -2) (ok_claim l 4 4 1) (rfl) (by decide)) (fun S S2 X hC k => ?_)
  refine VS.aload_n dL_refuses_192 rfl ?_
  refine VS.iconst (4) dL_refuses_193 rfl ?_
  refine VS.iconst (4) dL_refuses_194 rfl ?_
  refine VS.iconst (1) dL_refuses_195 rfl ?_
  refine VS.callT (hC) dL_refuses_196 mi_X6_claim im_X6_claim sel_X6_claim ml_L_77 (by decide) rfl rfl (rmOk_D (by decide) (by decide)) (Nat.le_of_ble_eq_true rfl) rfl ?_
  refine VS.bipush (-2) dL_refuses_199 rfl ?_
  refine VS.icmp_ne 475 dL_refuses_201 (by decide) (fun hh => absurd (rfl) hh) (fun _ => ?_)
  exact k
set_option maxRecDepth 100000 in
set_option maxHeartbeats 1500000 in
theorem rf_204 (l : Launch) {M : SS} {y : Nat} (hy : y < 100000) (hg : Good (M 1)) : RStp l (fun S => RelK S M) 204 [some (.ref 0), some (.int (nI y)), some (.int (rfNo y)), some (.int (rfWho y)), some (.int (rem3 (M 1 7))), some (.int (if 0 < M 1 6 then 1 else 0)), some (.int (if M 1 6 = 1 then 1 else 0)), none, none] (fun S => RelK S M) 215 [some (.ref 0), some (.int (nI y)), some (.int (rfNo y)), some (.int (rfWho y)), some (.int (rem3 (M 1 7))), some (.int (if 0 < M 1 6 then 1 else 0)), some (.int (if M 1 6 = 1 then 1 else 0)), none, none] := by
  refine RStp.op (no_of (w := -1) (ok_check l (rfWho y) 0 1) (if_neg (who_bad hy)) (by decide)) (fun S S2 X hC k => ?_)
  refine VS.aload_n dL_refuses_204 rfl ?_
  refine VS.iload_n dL_refuses_205 rfl ?_
  refine VS.iconst (0) dL_refuses_206 rfl ?_
  refine VS.iconst (1) dL_refuses_207 rfl ?_
  refine VS.callT (hC) dL_refuses_208 mi_X6_check im_X6_check sel_X6_check ml_L_35 (by decide) rfl rfl (rmOk_D (by decide) (by decide)) (Nat.le_of_ble_eq_true rfl) rfl ?_
  refine VS.iconst (-1) dL_refuses_211 rfl ?_
  refine VS.icmp_ne 475 dL_refuses_212 (by decide) (fun hh => absurd (rfl) hh) (fun _ => ?_)
  exact k
set_option maxRecDepth 100000 in
set_option maxHeartbeats 1500000 in
theorem rf_215 (l : Launch) {M : SS} {y : Nat} (hy : y < 100000) (hg : Good (M 1)) : RStp l (fun S => RelK S M) 215 [some (.ref 0), some (.int (nI y)), some (.int (rfNo y)), some (.int (rfWho y)), some (.int (rem3 (M 1 7))), some (.int (if 0 < M 1 6 then 1 else 0)), some (.int (if M 1 6 = 1 then 1 else 0)), none, none] (fun S => RelK S M) 226 [some (.ref 0), some (.int (nI y)), some (.int (rfNo y)), some (.int (rfWho y)), some (.int (rem3 (M 1 7))), some (.int (if 0 < M 1 6 then 1 else 0)), some (.int (if M 1 6 = 1 then 1 else 0)), none, none] := by
  refine RStp.op (no_of (w := -1) (ok_check l 0 (rfNo y) 1) (by unfold rBarCheck; rw [if_pos (by decide), if_neg (no_bad hy)]) (by decide)) (fun S S2 X hC k => ?_)
  refine VS.aload_n dL_refuses_215 rfl ?_
  refine VS.iconst (0) dL_refuses_216 rfl ?_
  refine VS.iload_n dL_refuses_217 rfl ?_
  refine VS.iconst (1) dL_refuses_218 rfl ?_
  refine VS.callT (hC) dL_refuses_219 mi_X6_check im_X6_check sel_X6_check ml_L_35 (by decide) rfl rfl (rmOk_D (by decide) (by decide)) (Nat.le_of_ble_eq_true rfl) rfl ?_
  refine VS.iconst (-1) dL_refuses_222 rfl ?_
  refine VS.icmp_ne 475 dL_refuses_223 (by decide) (fun hh => absurd (rfl) hh) (fun _ => ?_)
  exact k
set_option maxRecDepth 100000 in
set_option maxHeartbeats 1500000 in
theorem rf_226 (l : Launch) {M : SS} {y : Nat} (hy : y < 100000) (hg : Good (M 1)) : RStp l (fun S => RelK S M) 226 [some (.ref 0), some (.int (nI y)), some (.int (rfNo y)), some (.int (rfWho y)), some (.int (rem3 (M 1 7))), some (.int (if 0 < M 1 6 then 1 else 0)), some (.int (if M 1 6 = 1 then 1 else 0)), none, none] (fun S => RelK S M) 239 [some (.ref 0), some (.int (nI y)), some (.int (rfNo y)), some (.int (rfWho y)), some (.int (rem3 (M 1 7))), some (.int (if 0 < M 1 6 then 1 else 0)), some (.int (if M 1 6 = 1 then 1 else 0)), none, none] := by
  refine RStp.op (no_of (w := -2) (ok_check l (rem3 (M 1 7)) 0 1) (by unfold rBarCheck; rw [if_pos (by rw [(good_t hg).1]; exact pl_v (good_t hg).2), if_pos (by decide), if_pos (by decide), if_pos rfl]) (by decide)) (fun S S2 X hC k => ?_)
  refine VS.aload_n dL_refuses_226 rfl ?_
  refine VS.iload dL_refuses_227 rfl ?_
  refine VS.iconst (0) dL_refuses_229 rfl ?_
  refine VS.iconst (1) dL_refuses_230 rfl ?_
  refine VS.callT (hC) dL_refuses_231 mi_X6_check im_X6_check sel_X6_check ml_L_35 (by decide) rfl rfl (rmOk_D (by decide) (by decide)) (Nat.le_of_ble_eq_true rfl) rfl ?_
  refine VS.bipush (-2) dL_refuses_234 rfl ?_
  refine VS.icmp_ne 475 dL_refuses_236 (by decide) (fun hh => absurd (rfl) hh) (fun _ => ?_)
  exact k
set_option maxRecDepth 100000 in
set_option maxHeartbeats 1500000 in
theorem rf_239 (l : Launch) {M : SS} {y : Nat} (hy : y < 100000) (hg : Good (M 1)) : RStp l (fun S => RelK S M) 239 [some (.ref 0), some (.int (nI y)), some (.int (rfNo y)), some (.int (rfWho y)), some (.int (rem3 (M 1 7))), some (.int (if 0 < M 1 6 then 1 else 0)), some (.int (if M 1 6 = 1 then 1 else 0)), none, none] (fun S => RelK S M) 248 [some (.ref 0), some (.int (nI y)), some (.int (rfNo y)), some (.int (rfWho y)), some (.int (rem3 (M 1 7))), some (.int (if 0 < M 1 6 then 1 else 0)), some (.int (if M 1 6 = 1 then 1 else 0)), none, none] := by
  refine RStp.op (no_of (w := -1) (ok_dig l (rfNo y)) (if_neg (no_bad hy)) (by decide)) (fun S S2 X hC k => ?_)
  refine VS.aload_n dL_refuses_239 rfl ?_
  refine VS.iload_n dL_refuses_240 rfl ?_
  refine VS.callT (hC) dL_refuses_241 mi_X6_dig im_X6_dig sel_X6_dig ml_L_29 (by decide) rfl rfl (rmOk_D (by decide) (by decide)) (Nat.le_of_ble_eq_true rfl) rfl ?_
  refine VS.iconst (-1) dL_refuses_244 rfl ?_
  refine VS.icmp_ne 475 dL_refuses_245 (by decide) (fun hh => absurd (rfl) hh) (fun _ => ?_)
  exact k
set_option maxRecDepth 100000 in
set_option maxHeartbeats 1500000 in
theorem rf_248 (l : Launch) {M : SS} {y : Nat} (hy : y < 100000) (hg : Good (M 1)) : RStp l (fun S => RelK S M) 248 [some (.ref 0), some (.int (nI y)), some (.int (rfNo y)), some (.int (rfWho y)), some (.int (rem3 (M 1 7))), some (.int (if 0 < M 1 6 then 1 else 0)), some (.int (if M 1 6 = 1 then 1 else 0)), none, none] (fun S => RelK S M) 286 [some (.ref 0), some (.int (nI y)), some (.int (rfNo y)), some (.int (rfWho y)), some (.int (rem3 (M 1 7))), some (.int (if 0 < M 1 6 then 1 else 0)), some (.int (if M 1 6 = 1 then 1 else 0)), none, none] := by
  refine RStp.still (fun S X h k => ?_)
  refine VS.aload_n dL_refuses_248 rfl ?_
  refine VS.iload_n dL_refuses_249 rfl ?_
  refine VS.iconst (0) dL_refuses_250 rfl ?_
  refine VS.iconst (0) dL_refuses_251 rfl ?_
  refine VS.callT (ak_ofRoad_w l 0 (by rw [(wr_no hy _)]; decide) S h) dL_refuses_252 mi_X6_ofRoad im_X6_ofRoad sel_X6_ofRoad ml_L_80 (by decide) rfl rfl (rmOk_D (by decide) (by decide)) (Nat.le_of_ble_eq_true rfl) rfl ?_
  refine VS.val (y := -1) (wr_no hy 0) ?_
  refine VS.iconst (-1) dL_refuses_255 rfl ?_
  refine VS.icmp_ne 475 dL_refuses_256 (by decide) (fun hh => absurd (rfl) hh) (fun _ => ?_)
  refine VS.aload_n dL_refuses_259 rfl ?_
  refine VS.iconst (2) dL_refuses_260 rfl ?_
  refine VS.iconst (2) dL_refuses_261 rfl ?_
  refine VS.iconst (0) dL_refuses_262 rfl ?_
  refine VS.callT (ak_ofRoad_w l 0 (by decide) S h) dL_refuses_263 mi_X6_ofRoad im_X6_ofRoad sel_X6_ofRoad ml_L_80 (by decide) rfl rfl (rmOk_D (by decide) (by decide)) (Nat.le_of_ble_eq_true rfl) rfl ?_
  refine VS.val (y := -2) (rfl) ?_
  refine VS.bipush (-2) dL_refuses_266 rfl ?_
  refine VS.icmp_ne 475 dL_refuses_268 (by decide) (fun hh => absurd (rfl) hh) (fun _ => ?_)
  refine VS.aload_n dL_refuses_271 rfl ?_
  refine VS.iconst (0) dL_refuses_272 rfl ?_
  refine VS.iconst (1) dL_refuses_273 rfl ?_
  refine VS.bipush (6) dL_refuses_274 rfl ?_
  refine VS.iload_n dL_refuses_276 rfl ?_
  refine VS.iadd dL_refuses_277 ?_
  refine VS.val (y := nI (6 + y)) (nI_add 6 y) ?_
  refine VS.callT (ak_ofRoad l (nI (6 + y)) (by decide) S h) dL_refuses_278 mi_X6_ofRoad im_X6_ofRoad sel_X6_ofRoad ml_L_80 (by decide) rfl rfl (rmOk_D (by decide) (by decide)) (Nat.le_of_ble_eq_true rfl) rfl ?_
  refine VS.val (y := -2) (pick_out (k := 5) (Or.inr (by rw [big_n (c := 6) hy (by decide)]; omega)) rfl) ?_
  refine VS.bipush (-2) dL_refuses_281 rfl ?_
  refine VS.icmp_ne 475 dL_refuses_283 (by decide) (fun hh => absurd (rfl) hh) (fun _ => ?_)
  exact k
set_option maxRecDepth 100000 in
set_option maxHeartbeats 1500000 in
theorem rf_286 (l : Launch) {M : SS} {y : Nat} (hy : y < 100000) (hg : Good (M 1)) : RStp l (fun S => RelK S M) 286 [some (.ref 0), some (.int (nI y)), some (.int (rfNo y)), some (.int (rfWho y)), some (.int (rem3 (M 1 7))), some (.int (if 0 < M 1 6 then 1 else 0)), some (.int (if M 1 6 = 1 then 1 else 0)), none, none] (fun S => RelK S M) 333 [some (.ref 0), some (.int (nI y)), some (.int (rfNo y)), some (.int (rfWho y)), some (.int (rem3 (M 1 7))), some (.int (if 0 < M 1 6 then 1 else 0)), some (.int (if M 1 6 = 1 then 1 else 0)), none, none] := by
  refine RStp.still (fun S X h k => ?_)
  refine VS.aload_n dL_refuses_286 rfl ?_
  refine VS.iload_n dL_refuses_287 rfl ?_
  refine VS.iconst (0) dL_refuses_288 rfl ?_
  refine VS.iconst (1) dL_refuses_289 rfl ?_
  refine VS.callT (ak_knows_no l 0 1 (who_bad hy) S h) dL_refuses_290 mi_X6_knows im_X6_knows sel_X6_knows ml_L_83 (by decide) rfl rfl (rmOk_D (by decide) (by decide)) (Nat.le_of_ble_eq_true rfl) rfl ?_
  refine VS.iconst (-1) dL_refuses_293 rfl ?_
  refine VS.icmp_ne 475 dL_refuses_294 (by decide) (fun hh => absurd (rfl) hh) (fun _ => ?_)
  refine VS.aload_n dL_refuses_297 rfl ?_
  refine VS.iconst (1) dL_refuses_298 rfl ?_
  refine VS.iconst (5) dL_refuses_299 rfl ?_
  refine VS.iconst (5) dL_refuses_300 rfl ?_
  refine VS.callT (ak_knows_w l (by decide) (by decide) S h) dL_refuses_301 mi_X6_knows im_X6_knows sel_X6_knows ml_L_83 (by decide) rfl rfl (rmOk_D (by decide) (by decide)) (Nat.le_of_ble_eq_true rfl) rfl ?_
  refine VS.val (y := -2) (rfl) ?_
  refine VS.bipush (-2) dL_refuses_304 rfl ?_
  refine VS.icmp_ne 475 dL_refuses_306 (by decide) (fun hh => absurd (rfl) hh) (fun _ => ?_)
  refine VS.aload_n dL_refuses_309 rfl ?_
  refine VS.iload_n dL_refuses_310 rfl ?_
  refine VS.iconst (0) dL_refuses_311 rfl ?_
  refine VS.callT (ak_player_no l 0 (who_bad hy) S h) dL_refuses_312 mi_X6_player im_X6_player sel_X6_player ml_L_95 (by decide) rfl rfl (rmOk_D (by decide) (by decide)) (Nat.le_of_ble_eq_true rfl) rfl ?_
  refine VS.iconst (-1) dL_refuses_315 rfl ?_
  refine VS.icmp_ne 475 dL_refuses_316 (by decide) (fun hh => absurd (rfl) hh) (fun _ => ?_)
  refine VS.aload_n dL_refuses_319 rfl ?_
  refine VS.iconst (1) dL_refuses_320 rfl ?_
  refine VS.bipush (8) dL_refuses_321 rfl ?_
  refine VS.iload_n dL_refuses_323 rfl ?_
  refine VS.iadd dL_refuses_324 ?_
  refine VS.val (y := nI (8 + y)) (nI_add 8 y) ?_
  refine VS.callT (ak_player l (p := 1) (nI (8 + y)) (by decide) S h) dL_refuses_325 mi_X6_player im_X6_player sel_X6_player ml_L_95 (by decide) rfl rfl (rmOk_D (by decide) (by decide)) (Nat.le_of_ble_eq_true rfl) rfl ?_
  refine VS.val (y := -2) (pick_out (k := 7) (Or.inr (by rw [big_n (c := 8) hy (by decide)]; omega)) rfl) ?_
  refine VS.bipush (-2) dL_refuses_328 rfl ?_
  refine VS.icmp_ne 475 dL_refuses_330 (by decide) (fun hh => absurd (rfl) hh) (fun _ => ?_)
  exact k
set_option maxRecDepth 100000 in
set_option maxHeartbeats 1500000 in
theorem rf_333 (l : Launch) {M : SS} {y : Nat} (hy : y < 100000) (hg : Good (M 1)) : RStp l (fun S => RelK S M) 333 [some (.ref 0), some (.int (nI y)), some (.int (rfNo y)), some (.int (rfWho y)), some (.int (rem3 (M 1 7))), some (.int (if 0 < M 1 6 then 1 else 0)), some (.int (if M 1 6 = 1 then 1 else 0)), none, none] (fun S => RelK S M) 380 [some (.ref 0), some (.int (nI y)), some (.int (rfNo y)), some (.int (rfWho y)), some (.int (rem3 (M 1 7))), some (.int (if 0 < M 1 6 then 1 else 0)), some (.int (if M 1 6 = 1 then 1 else 0)), none, none] := by
  refine RStp.still (fun S X h k => ?_)
  refine VS.aload_n dL_refuses_333 rfl ?_
  refine VS.iload_n dL_refuses_334 rfl ?_
  refine VS.iconst (0) dL_refuses_335 rfl ?_
  refine VS.callT (ak_place_no l 0 (no_bad hy) S h) dL_refuses_336 mi_X6_place im_X6_place sel_X6_place ml_L_92 (by decide) rfl rfl (rmOk_D (by decide) (by decide)) (Nat.le_of_ble_eq_true rfl) rfl ?_
  refine VS.iconst (-1) dL_refuses_339 rfl ?_
  refine VS.icmp_ne 475 dL_refuses_340 (by decide) (fun hh => absurd (rfl) hh) (fun _ => ?_)
  refine VS.aload_n dL_refuses_343 rfl ?_
  refine VS.iconst (1) dL_refuses_344 rfl ?_
  refine VS.iconst (5) dL_refuses_345 rfl ?_
  refine VS.iload_n dL_refuses_346 rfl ?_
  refine VS.iadd dL_refuses_347 ?_
  refine VS.val (y := nI (5 + y)) (nI_add 5 y) ?_
  refine VS.callT (ak_place l (p := 1) (nI (5 + y)) (by decide) S h) dL_refuses_348 mi_X6_place im_X6_place sel_X6_place ml_L_92 (by decide) rfl rfl (rmOk_D (by decide) (by decide)) (Nat.le_of_ble_eq_true rfl) rfl ?_
  refine VS.val (y := -2) (pick_out (k := 4) (Or.inr (by rw [big_n (c := 5) hy (by decide)]; omega)) rfl) ?_
  refine VS.bipush (-2) dL_refuses_351 rfl ?_
  refine VS.icmp_ne 475 dL_refuses_353 (by decide) (fun hh => absurd (rfl) hh) (fun _ => ?_)
  refine VS.aload_n dL_refuses_356 rfl ?_
  refine VS.iconst (-1) dL_refuses_357 rfl ?_
  refine VS.iload_n dL_refuses_358 rfl ?_
  refine VS.isub dL_refuses_359 ?_
  refine VS.callT (ak_dug_no l (fun z => absurd z.1 (Int32.not_le.mpr (neg_1 hy))) S h) dL_refuses_360 mi_X6_dug im_X6_dug sel_X6_dug ml_L_101 (by decide) rfl rfl (rmOk_D (by decide) (by decide)) (Nat.le_of_ble_eq_true rfl) rfl ?_
  refine VS.iconst (-1) dL_refuses_363 rfl ?_
  refine VS.icmp_ne 475 dL_refuses_364 (by decide) (fun hh => absurd (rfl) hh) (fun _ => ?_)
  refine VS.aload_n dL_refuses_367 rfl ?_
  refine VS.bipush (14) dL_refuses_368 rfl ?_
  refine VS.iload_n dL_refuses_370 rfl ?_
  refine VS.iadd dL_refuses_371 ?_
  refine VS.val (y := nI (14 + y)) (nI_add 14 y) ?_
  refine VS.callT (ak_count l (c := nI (14 + y)) (fun z => absurd ((nI_eq (b := 12) (by omega) (by decide)).mp z) (by omega)) S h) dL_refuses_372 mi_X6_count im_X6_count sel_X6_count ml_L_23 (by decide) rfl rfl (rmOk_D (by decide) (by decide)) (Nat.le_of_ble_eq_true rfl) rfl ?_
  refine VS.val (y := -2) (pick_out (k := 13) (Or.inr (by rw [big_n (c := 14) hy (by decide)]; omega)) rfl) ?_
  refine VS.bipush (-2) dL_refuses_375 rfl ?_
  refine VS.icmp_ne 475 dL_refuses_377 (by decide) (fun hh => absurd (rfl) hh) (fun _ => ?_)
  exact k
set_option maxRecDepth 100000 in
set_option maxHeartbeats 1500000 in
theorem rf_380 (l : Launch) {M : SS} {y : Nat} (hy : y < 100000) (hg : Good (M 1)) : RStp l (fun S => RelK S M) 380 [some (.ref 0), some (.int (nI y)), some (.int (rfNo y)), some (.int (rfWho y)), some (.int (rem3 (M 1 7))), some (.int (if 0 < M 1 6 then 1 else 0)), some (.int (if M 1 6 = 1 then 1 else 0)), none, none] (fun S => RelK S M) 425 [some (.ref 0), some (.int (nI y)), some (.int (rfNo y)), some (.int (rfWho y)), some (.int (rem3 (M 1 7))), some (.int (if 0 < M 1 6 then 1 else 0)), some (.int (if M 1 6 = 1 then 1 else 0)), none, none] := by
  refine RStp.still (fun S X h k => ?_)
  refine VS.aload_n dL_refuses_380 rfl ?_
  refine VS.iload_n dL_refuses_381 rfl ?_
  refine VS.iconst (0) dL_refuses_382 rfl ?_
  refine VS.callT (ak_shows l (rfNo y) 0 S h) dL_refuses_383 mi_X6_shows im_X6_shows sel_X6_shows ml_L_86 (by decide) rfl rfl (rmOk_D (by decide) (by decide)) (Nat.le_of_ble_eq_true rfl) rfl ?_
  refine VS.val (y := -1) (by unfold rShows; rw [(wr_no hy _)]; rfl) ?_
  refine VS.iconst (-1) dL_refuses_386 rfl ?_
  refine VS.icmp_ne 475 dL_refuses_387 (by decide) (fun hh => absurd (rfl) hh) (fun _ => ?_)
  refine VS.aload_n dL_refuses_390 rfl ?_
  refine VS.bipush (6) dL_refuses_391 rfl ?_
  refine VS.bipush (6) dL_refuses_393 rfl ?_
  refine VS.callT (ak_shows l 6 6 S h) dL_refuses_395 mi_X6_shows im_X6_shows sel_X6_shows ml_L_86 (by decide) rfl rfl (rmOk_D (by decide) (by decide)) (Nat.le_of_ble_eq_true rfl) rfl ?_
  refine VS.val (y := -2) (rfl) ?_
  refine VS.bipush (-2) dL_refuses_398 rfl ?_
  refine VS.icmp_ne 475 dL_refuses_400 (by decide) (fun hh => absurd (rfl) hh) (fun _ => ?_)
  refine VS.aload_n dL_refuses_403 rfl ?_
  refine VS.iconst (2) dL_refuses_404 rfl ?_
  refine VS.iload_n dL_refuses_405 rfl ?_
  refine VS.iadd dL_refuses_406 ?_
  refine VS.val (y := nI (2 + y)) (nI_add 2 y) ?_
  refine VS.callT (ak_bestShow_bad l (fun z => z.elim (fun y1 => absurd ((nI_eq (b := 0) (by omega) (by decide)).mp y1) (by omega)) (fun y1 => absurd ((nI_eq (b := 1) (by omega) (by decide)).mp y1) (by omega))) S h) dL_refuses_407 mi_X6_bestShow im_X6_bestShow sel_X6_bestShow ml_L_104 (by decide) rfl rfl (rmOk_D (by decide) (by decide)) (Nat.le_of_ble_eq_true rfl) rfl ?_
  refine VS.bipush (-2) dL_refuses_410 rfl ?_
  refine VS.icmp_ne 475 dL_refuses_412 (by decide) (fun hh => absurd (rfl) hh) (fun _ => ?_)
  refine VS.aload_n dL_refuses_415 rfl ?_
  refine VS.iload_n dL_refuses_416 rfl ?_
  refine VS.iconst (0) dL_refuses_417 rfl ?_
  refine VS.callT (ak_knownWay_no l (fun z => no_bad hy z.1) S h) dL_refuses_418 mi_X6_knownWay im_X6_knownWay sel_X6_knownWay ml_L_89 (by decide) rfl rfl (rmOk_D (by decide) (by decide)) (Nat.le_of_ble_eq_true rfl) rfl ?_
  refine VS.iconst (-1) dL_refuses_421 rfl ?_
  refine VS.icmp_ne 475 dL_refuses_422 (by decide) (fun hh => absurd (rfl) hh) (fun _ => ?_)
  exact k
set_option maxRecDepth 100000 in
set_option maxHeartbeats 1500000 in
theorem rf_425 (l : Launch) {M : SS} {y : Nat} (hy : y < 100000) (hg : Good (M 1)) : RStp l (fun S => RelK S M) 425 [some (.ref 0), some (.int (nI y)), some (.int (rfNo y)), some (.int (rfWho y)), some (.int (rem3 (M 1 7))), some (.int (if 0 < M 1 6 then 1 else 0)), some (.int (if M 1 6 = 1 then 1 else 0)), none, none] (fun S => RelK S M) 471 [some (.ref 0), some (.int (nI y)), some (.int (rfNo y)), some (.int (rfWho y)), some (.int (rem3 (M 1 7))), some (.int (if 0 < M 1 6 then 1 else 0)), some (.int (if M 1 6 = 1 then 1 else 0)), none, none] := by
  refine RStp.still (fun S X h k => ?_)
  refine VS.aload_n dL_refuses_425 rfl ?_
  refine VS.lconst 0 dL_refuses_426 rfl ?_
  refine VS.callT (rk_put_bad l (by decide +kernel)) dL_refuses_427 mi_X6_put im_X6_put sel_X6_put ml_L_53 (by decide) rfl rfl (rmOk_D (by decide) (by decide)) (Nat.le_of_ble_eq_true rfl) rfl ?_
  refine VS.bipush (-2) dL_refuses_430 rfl ?_
  refine VS.icmp_ne 475 dL_refuses_432 (by decide) (fun hh => absurd (rfl) hh) (fun _ => ?_)
  refine VS.aload_n dL_refuses_435 rfl ?_
  refine VS.ldc2 dL_refuses_436 kc_L_107 ?_
  refine VS.callT (rk_put_bad l (by decide +kernel)) dL_refuses_439 mi_X6_put im_X6_put sel_X6_put ml_L_53 (by decide) rfl rfl (rmOk_D (by decide) (by decide)) (Nat.le_of_ble_eq_true rfl) rfl ?_
  refine VS.bipush (-2) dL_refuses_442 rfl ?_
  refine VS.icmp_ne 475 dL_refuses_444 (by decide) (fun hh => absurd (rfl) hh) (fun _ => ?_)
  refine VS.aload_n dL_refuses_447 rfl ?_
  refine VS.iconst (2) dL_refuses_448 rfl ?_
  refine VS.iload_n dL_refuses_449 rfl ?_
  refine VS.iadd dL_refuses_450 ?_
  refine VS.val (y := nI (2 + y)) (nI_add 2 y) ?_
  refine VS.callT (ok_save_bad l (fun z => z.elim (fun y1 => absurd ((nI_eq (b := 0) (by omega) (by decide)).mp y1) (by omega)) (fun y1 => absurd ((nI_eq (b := 1) (by omega) (by decide)).mp y1) (by omega))) S h) dL_refuses_451 mi_X6_save im_X6_save sel_X6_save ml_L_42 (by decide) rfl rfl (rmOk_D (by decide) (by decide)) (Nat.le_of_ble_eq_true rfl) rfl ?_
  refine VS.bipush (-2) dL_refuses_454 rfl ?_
  refine VS.icmp_ne 475 dL_refuses_456 (by decide) (fun hh => absurd (rfl) hh) (fun _ => ?_)
  refine VS.aload_n dL_refuses_459 rfl ?_
  refine VS.iconst (-1) dL_refuses_460 rfl ?_
  refine VS.iload_n dL_refuses_461 rfl ?_
  refine VS.isub dL_refuses_462 ?_
  refine VS.callT (ok_restore_bad l (fun z => z.elim (fun y1 => absurd (neg_1 hy) (by rw [y1]; decide)) (fun y1 => absurd (neg_1 hy) (by rw [y1]; decide))) S h) dL_refuses_463 mi_X6_restore im_X6_restore sel_X6_restore ml_L_45 (by decide) rfl rfl (rmOk_D (by decide) (by decide)) (Nat.le_of_ble_eq_true rfl) rfl ?_
  refine VS.bipush (-2) dL_refuses_466 rfl ?_
  refine VS.icmp_ne 475 dL_refuses_468 (by decide) (fun hh => absurd (rfl) hh) (fun _ => ?_)
  exact k
set_option maxRecDepth 100000 in
set_option maxHeartbeats 1500000 in
theorem rf_471 (l : Launch) {M : SS} {y : Nat} (hy : y < 100000) (hg : Good (M 1)) : RStp l (fun S => RelK S M) 471 [some (.ref 0), some (.int (nI y)), some (.int (rfNo y)), some (.int (rfWho y)), some (.int (rem3 (M 1 7))), some (.int (if 0 < M 1 6 then 1 else 0)), some (.int (if M 1 6 = 1 then 1 else 0)), none, none] (fun S => RelK S M) 543 [some (.ref 0), some (.int (nI y)), some (.int (rfNo y)), some (.int (rfWho y)), some (.int (rem3 (M 1 7))), some (.int (if 0 < M 1 6 then 1 else 0)), some (.int (if M 1 6 = 1 then 1 else 0)), some (.int 1), none] := by
  intro S h
  obtain ⟨n, S1, hn, hC1, h1⟩ := rk_wipe l h
  obtain ⟨S2, hC2, h2⟩ := r0_put l (c := 59) (by decide +kernel) h1
  obtain ⟨S3, hC3, h3⟩ := rl_wipe l (by decide) h2
  refine ⟨S3, ⟨0, padR (M 5) 59 0 1 1 0, ?_⟩, fun X k => ?_⟩
  · rw [show upd (M 5) 0 (padR (M 5) 59 0 1 1 0) = padR (M 5) 59 0 1 1 from ?_]
    · exact h3
    · funext j
      by_cases hj : j = 0
      · subst hj; exact upd_at _ _ _
      · rw [upd_ne hj]
        unfold padR
        rw [putR_out (by omega)]
  · refine VS.iconst (1) dL_refuses_471 rfl ?_
    refine VS.goto 476 dL_refuses_472 (by decide) ?_
    refine VS.istore dL_refuses_476 (by decide) rfl ?_
    refine VS.aload_n dL_refuses_478 rfl ?_
    refine VS.callT (hC1) dL_refuses_479 mi_X6_wipe im_X6_wipe sel_X6_wipe ml_L_48 (by decide) rfl rfl (rmOk_D (by decide) (by decide)) (Nat.le_of_ble_eq_true rfl) rfl ?_
    refine VS.istore dL_refuses_482 (by decide) rfl ?_
    refine VS.iload dL_refuses_484 rfl ?_
    refine VS.if_eq 540 dL_refuses_486 (by decide) (fun hh => absurd hh (by decide)) (fun _ => ?_)
    refine VS.iload dL_refuses_489 rfl ?_
    refine VS.if_lt 540 dL_refuses_491 (by decide) (fun hh => absurd hh (nI_pos (by omega))) (fun _ => ?_)
    refine VS.aload_n dL_refuses_494 rfl ?_
    refine VS.callT (r0_fault l h1) dL_refuses_495 mi_X6_fault im_X6_fault sel_X6_fault ml_L_71 (by decide) rfl rfl (rmOk_D (by decide) (by decide)) (Nat.le_of_ble_eq_true rfl) rfl ?_
    refine VS.if_ne 540 dL_refuses_498 (by decide) (fun hh => absurd (rfl) hh) (fun _ => ?_)
    refine VS.aload_n dL_refuses_501 rfl ?_
    refine VS.callT (r0_carry l h1) dL_refuses_502 mi_X6_carryOut im_X6_carryOut sel_X6_carryOut ml_L_74 (by decide) rfl rfl (rmOk_D (by decide) (by decide)) (Nat.le_of_ble_eq_true rfl) rfl ?_
    refine VS.bipush (-3) dL_refuses_505 rfl ?_
    refine VS.icmp_ne 540 dL_refuses_507 (by decide) (fun hh => absurd (rfl) hh) (fun _ => ?_)
    refine VS.aload_n dL_refuses_510 rfl ?_
    refine VS.ldc2 dL_refuses_511 kc_L_51 ?_
    refine VS.callT (hC2) dL_refuses_514 mi_X6_put im_X6_put sel_X6_put ml_L_53 (by decide) rfl rfl (rmOk_D (by decide) (by decide)) (Nat.le_of_ble_eq_true rfl) rfl ?_
    refine VS.iconst (1) dL_refuses_517 rfl ?_
    refine VS.icmp_ne 540 dL_refuses_518 (by decide) (fun hh => absurd (rfl) hh) (fun _ => ?_)
    refine VS.aload_n dL_refuses_521 rfl ?_
    refine VS.callT (r1_fault l h2) dL_refuses_522 mi_X6_fault im_X6_fault sel_X6_fault ml_L_71 (by decide) rfl rfl (rmOk_D (by decide) (by decide)) (Nat.le_of_ble_eq_true rfl) rfl ?_
    refine VS.if_ne 540 dL_refuses_525 (by decide) (fun hh => absurd (rfl) hh) (fun _ => ?_)
    refine VS.aload_n dL_refuses_528 rfl ?_
    refine VS.callT (hC3) dL_refuses_529 mi_X6_wipe im_X6_wipe sel_X6_wipe ml_L_48 (by decide) rfl rfl (rmOk_D (by decide) (by decide)) (Nat.le_of_ble_eq_true rfl) rfl ?_
    refine VS.iconst (1) dL_refuses_532 rfl ?_
    refine VS.icmp_ne 540 dL_refuses_533 (by decide) (fun hh => absurd (rfl) hh) (fun _ => ?_)
    refine VS.iconst (1) dL_refuses_536 rfl ?_
    refine VS.goto 541 dL_refuses_537 (by decide) ?_
    refine VS.istore dL_refuses_541 (by decide) rfl ?_
    refine VS.forget 8 ?_
    exact k
set_option maxRecDepth 100000 in
set_option maxHeartbeats 1500000 in
theorem rf_553 (l : Launch) {M : SS} {y : Nat} (hy : y < 100000) (hb : 0 < M 1 6) : RStp l (fun S => RelK S M) 553 [some (.ref 0), some (.int (nI y)), some (.int (rfNo y)), some (.int (rfWho y)), some (.int (rem3 (M 1 7))), some (.int (if 0 < M 1 6 then 1 else 0)), some (.int (if M 1 6 = 1 then 1 else 0)), some (.int 1), none] (fun S => RelK S M) 564 [some (.ref 0), some (.int (nI y)), some (.int (rfNo y)), some (.int (rfWho y)), some (.int (rem3 (M 1 7))), some (.int (if 0 < M 1 6 then 1 else 0)), some (.int (if M 1 6 = 1 then 1 else 0)), some (.int 1), none] := by
  refine RStp.op (no_of (w := -5) (ok_road l 0 1) (by unfold rBarRoad; rw [if_pos (show wrE 0 1 = 0 by decide), if_pos hb]) (by decide)) (fun S S2 X hC k => ?_)
  refine VS.aload_n dL_refuses_553 rfl ?_
  refine VS.iconst (0) dL_refuses_554 rfl ?_
  refine VS.iconst (1) dL_refuses_555 rfl ?_
  refine VS.callT (hC) dL_refuses_556 mi_X6_road im_X6_road sel_X6_road ml_L_26 (by decide) rfl rfl (rmOk_D (by decide) (by decide)) (Nat.le_of_ble_eq_true rfl) rfl ?_
  refine VS.bipush (-5) dL_refuses_559 rfl ?_
  refine VS.icmp_ne 647 dL_refuses_561 (by decide) (fun hh => absurd (rfl) hh) (fun _ => ?_)
  exact k
set_option maxRecDepth 100000 in
set_option maxHeartbeats 1500000 in
theorem rf_564 (l : Launch) {M : SS} {y : Nat} (hy : y < 100000) (hb : 0 < M 1 6) : RStp l (fun S => RelK S M) 564 [some (.ref 0), some (.int (nI y)), some (.int (rfNo y)), some (.int (rfWho y)), some (.int (rem3 (M 1 7))), some (.int (if 0 < M 1 6 then 1 else 0)), some (.int (if M 1 6 = 1 then 1 else 0)), some (.int 1), none] (fun S => RelK S M) 574 [some (.ref 0), some (.int (nI y)), some (.int (rfNo y)), some (.int (rfWho y)), some (.int (rem3 (M 1 7))), some (.int (if 0 < M 1 6 then 1 else 0)), some (.int (if M 1 6 = 1 then 1 else 0)), some (.int 1), none] := by
  refine RStp.op (no_of (w := -5) (ok_treasure l 0) (by unfold rBarTreasure; rw [if_pos (by decide), if_pos hb]) (by decide)) (fun S S2 X hC k => ?_)
  refine VS.aload_n dL_refuses_564 rfl ?_
  refine VS.iconst (0) dL_refuses_565 rfl ?_
  refine VS.callT (hC) dL_refuses_566 mi_X6_treasure im_X6_treasure sel_X6_treasure ml_L_15 (by decide) rfl rfl (rmOk_D (by decide) (by decide)) (Nat.le_of_ble_eq_true rfl) rfl ?_
  refine VS.bipush (-5) dL_refuses_569 rfl ?_
  refine VS.icmp_ne 647 dL_refuses_571 (by decide) (fun hh => absurd (rfl) hh) (fun _ => ?_)
  exact k
set_option maxRecDepth 100000 in
set_option maxHeartbeats 1500000 in
theorem rf_574 (l : Launch) {M : SS} {y : Nat} (hy : y < 100000) (hb : 0 < M 1 6) : RStp l (fun S => RelK S M) 574 [some (.ref 0), some (.int (nI y)), some (.int (rfNo y)), some (.int (rfWho y)), some (.int (rem3 (M 1 7))), some (.int (if 0 < M 1 6 then 1 else 0)), some (.int (if M 1 6 = 1 then 1 else 0)), some (.int 1), none] (fun S => RelK S M) 607 [some (.ref 0), some (.int (nI y)), some (.int (rfNo y)), some (.int (rfWho y)), some (.int (rem3 (M 1 7))), some (.int (if 0 < M 1 6 then 1 else 0)), some (.int (if M 1 6 = 1 then 1 else 0)), some (.int 1), none] := by
  refine RStp.op (no_of (w := -5) (ok_begin l) (if_pos hb) (by decide)) (fun S S2 X hC k => ?_)
  refine VS.aload_n dL_refuses_574 rfl ?_
  refine VS.callT (hC) dL_refuses_575 mi_X6_begin im_X6_begin sel_X6_begin ml_L_19 (by decide) rfl rfl (rmOk_D (by decide) (by decide)) (Nat.le_of_ble_eq_true rfl) rfl ?_
  refine VS.bipush (-5) dL_refuses_578 rfl ?_
  refine VS.icmp_ne 647 dL_refuses_580 (by decide) (fun hh => absurd (rfl) hh) (fun _ => ?_)
  refine VS.goto 607 dL_refuses_583 (by decide) ?_
  exact k
set_option maxRecDepth 100000 in
set_option maxHeartbeats 1500000 in
theorem rf_612 (l : Launch) {M : SS} {y : Nat} (hy : y < 100000) (hb : ¬ M 1 6 = 1) : RStp l (fun S => RelK S M) 612 [some (.ref 0), some (.int (nI y)), some (.int (rfNo y)), some (.int (rfWho y)), some (.int (rem3 (M 1 7))), some (.int (if 0 < M 1 6 then 1 else 0)), some (.int (if M 1 6 = 1 then 1 else 0)), some (.int 1), none] (fun S => RelK S M) 624 [some (.ref 0), some (.int (nI y)), some (.int (rfNo y)), some (.int (rfWho y)), some (.int (rem3 (M 1 7))), some (.int (if 0 < M 1 6 then 1 else 0)), some (.int (if M 1 6 = 1 then 1 else 0)), some (.int 1), none] := by
  refine RStp.op (no_of (w := -5) (ok_claim l 0 1 1) (by unfold rBarClaim; rw [if_pos (show wrE 0 1 = 0 by decide), if_pos (by decide), if_neg hb]) (by decide)) (fun S S2 X hC k => ?_)
  refine VS.aload_n dL_refuses_612 rfl ?_
  refine VS.iconst (0) dL_refuses_613 rfl ?_
  refine VS.iconst (1) dL_refuses_614 rfl ?_
  refine VS.iconst (1) dL_refuses_615 rfl ?_
  refine VS.callT (hC) dL_refuses_616 mi_X6_claim im_X6_claim sel_X6_claim ml_L_77 (by decide) rfl rfl (rmOk_D (by decide) (by decide)) (Nat.le_of_ble_eq_true rfl) rfl ?_
  refine VS.bipush (-5) dL_refuses_619 rfl ?_
  refine VS.icmp_ne 647 dL_refuses_621 (by decide) (fun hh => absurd (rfl) hh) (fun _ => ?_)
  exact k
set_option maxRecDepth 100000 in
set_option maxHeartbeats 1500000 in
theorem rf_624 (l : Launch) {M : SS} {y : Nat} (hy : y < 100000) (hb : ¬ M 1 6 = 1) : RStp l (fun S => RelK S M) 624 [some (.ref 0), some (.int (nI y)), some (.int (rfNo y)), some (.int (rfWho y)), some (.int (rem3 (M 1 7))), some (.int (if 0 < M 1 6 then 1 else 0)), some (.int (if M 1 6 = 1 then 1 else 0)), some (.int 1), none] (fun S => RelK S M) 634 [some (.ref 0), some (.int (nI y)), some (.int (rfNo y)), some (.int (rfWho y)), some (.int (rem3 (M 1 7))), some (.int (if 0 < M 1 6 then 1 else 0)), some (.int (if M 1 6 = 1 then 1 else 0)), some (.int 1), none] := by
  refine RStp.op (no_of (w := -5) (ok_dig l 0) (by unfold rBarDig; rw [if_pos (by decide), if_neg hb]) (by decide)) (fun S S2 X hC k => ?_)
  refine VS.aload_n dL_refuses_624 rfl ?_
  refine VS.iconst (0) dL_refuses_625 rfl ?_
  refine VS.callT (hC) dL_refuses_626 mi_X6_dig im_X6_dig sel_X6_dig ml_L_29 (by decide) rfl rfl (rmOk_D (by decide) (by decide)) (Nat.le_of_ble_eq_true rfl) rfl ?_
  refine VS.bipush (-5) dL_refuses_629 rfl ?_
  refine VS.icmp_ne 647 dL_refuses_631 (by decide) (fun hh => absurd (rfl) hh) (fun _ => ?_)
  exact k
set_option maxRecDepth 100000 in
set_option maxHeartbeats 1500000 in
theorem rf_634 (l : Launch) {M : SS} {y : Nat} (hy : y < 100000) (hb : ¬ M 1 6 = 1) : RStp l (fun S => RelK S M) 634 [some (.ref 0), some (.int (nI y)), some (.int (rfNo y)), some (.int (rfWho y)), some (.int (rem3 (M 1 7))), some (.int (if 0 < M 1 6 then 1 else 0)), some (.int (if M 1 6 = 1 then 1 else 0)), some (.int 1), none] (fun S => RelK S M) 643 [some (.ref 0), some (.int (nI y)), some (.int (rfNo y)), some (.int (rfWho y)), some (.int (rem3 (M 1 7))), some (.int (if 0 < M 1 6 then 1 else 0)), some (.int (if M 1 6 = 1 then 1 else 0)), some (.int 1), none] := by
  refine RStp.op (no_of (w := -5) (ok_pass l) (if_neg hb) (by decide)) (fun S S2 X hC k => ?_)
  refine VS.aload_n dL_refuses_634 rfl ?_
  refine VS.callT (hC) dL_refuses_635 mi_X6_pass im_X6_pass sel_X6_pass ml_L_32 (by decide) rfl rfl (rmOk_D (by decide) (by decide)) (Nat.le_of_ble_eq_true rfl) rfl ?_
  refine VS.bipush (-5) dL_refuses_638 rfl ?_
  refine VS.icmp_ne 647 dL_refuses_640 (by decide) (fun hh => absurd (rfl) hh) (fun _ => ?_)
  exact k
set_option maxRecDepth 100000 in
set_option maxHeartbeats 1500000 in
theorem rf_586 (l : Launch) {M : SS} {y : Nat} (hy : y < 100000) (hb : ¬ 0 < M 1 6) : RStp l (fun S => RelK S M) 586 [some (.ref 0), some (.int (nI y)), some (.int (rfNo y)), some (.int (rfWho y)), some (.int (rem3 (M 1 7))), some (.int (if 0 < M 1 6 then 1 else 0)), some (.int (if M 1 6 = 1 then 1 else 0)), some (.int 1), none] (fun S => RelK S M) 607 [some (.ref 0), some (.int (nI y)), some (.int (rfNo y)), some (.int (rfWho y)), some (.int (rem3 (M 1 7))), some (.int (if 0 < M 1 6 then 1 else 0)), some (.int (if M 1 6 = 1 then 1 else 0)), some (.int 1), none] := by
  refine RStp.still (fun S X h k => ?_)
  refine VS.aload_n dL_refuses_586 rfl ?_
  refine VS.iconst (0) dL_refuses_587 rfl ?_
  refine VS.iconst (1) dL_refuses_588 rfl ?_
  refine VS.callT (ak_shows l 0 1 S h) dL_refuses_589 mi_X6_shows im_X6_shows sel_X6_shows ml_L_86 (by decide) rfl rfl (rmOk_D (by decide) (by decide)) (Nat.le_of_ble_eq_true rfl) rfl ?_
  refine VS.val (y := -5) (by unfold rShows; rw [if_pos (show wrE 0 1 = 0 by decide), if_neg hb]) ?_
  refine VS.bipush (-5) dL_refuses_592 rfl ?_
  refine VS.icmp_ne 647 dL_refuses_594 (by decide) (fun hh => absurd (rfl) hh) (fun _ => ?_)
  refine VS.aload_n dL_refuses_597 rfl ?_
  refine VS.iconst (0) dL_refuses_598 rfl ?_
  refine VS.callT (ak_bestShow l (Or.inl rfl) S h) dL_refuses_599 mi_X6_bestShow im_X6_bestShow sel_X6_bestShow ml_L_104 (by decide) rfl rfl (rmOk_D (by decide) (by decide)) (Nat.le_of_ble_eq_true rfl) rfl ?_
  refine VS.val (y := -5) (if_neg hb) ?_
  refine VS.bipush (-5) dL_refuses_602 rfl ?_
  refine VS.icmp_ne 647 dL_refuses_604 (by decide) (fun hh => absurd (rfl) hh) (fun _ => ?_)
  exact k
set_option maxRecDepth 100000 in
set_option maxHeartbeats 1500000 in
theorem rf_543 (l : Launch) {M : SS} {y : Nat} (hy : y < 100000) : RStp l (fun S => RelK S M) 543 [some (.ref 0), some (.int (nI y)), some (.int (rfNo y)), some (.int (rfWho y)), some (.int (rem3 (M 1 7))), some (.int (if 0 < M 1 6 then 1 else 0)), some (.int (if M 1 6 = 1 then 1 else 0)), some (.int 1), none] (fun S => RelK S M) 607 [some (.ref 0), some (.int (nI y)), some (.int (rfNo y)), some (.int (rfWho y)), some (.int (rem3 (M 1 7))), some (.int (if 0 < M 1 6 then 1 else 0)), some (.int (if M 1 6 = 1 then 1 else 0)), some (.int 1), none] := by
  by_cases hb : 0 < M 1 6
  · refine RStp.trans (RStp.still (fun S X h k => ?_)) ((rf_553 l hy hb).trans ((rf_564 l hy hb).trans (rf_574 l hy hb)))
    refine VS.iload dL_refuses_543 rfl ?_
    refine VS.if_eq 647 dL_refuses_545 (by decide) (fun hh => absurd hh (by decide)) (fun _ => ?_)
    refine VS.iload dL_refuses_548 rfl ?_
    refine VS.if_eq 586 dL_refuses_550 (by decide) (fun hh => absurd hh (by rw [if_pos hb]; decide)) (fun _ => ?_)
    exact k
  · refine RStp.trans (RStp.still (fun S X h k => ?_)) (rf_586 l hy hb)
    refine VS.iload dL_refuses_543 rfl ?_
    refine VS.if_eq 647 dL_refuses_545 (by decide) (fun hh => absurd hh (by decide)) (fun _ => ?_)
    refine VS.iload dL_refuses_548 rfl ?_
    refine VS.if_eq 586 dL_refuses_550 (by decide) (fun _ => ?_) (fun hh => absurd (if_neg hb) hh)
    exact k
set_option maxRecDepth 100000 in
set_option maxHeartbeats 1500000 in
theorem rf_607 (l : Launch) {M : SS} {y : Nat} (hy : y < 100000) : RStp l (fun S => RelK S M) 607 [some (.ref 0), some (.int (nI y)), some (.int (rfNo y)), some (.int (rfWho y)), some (.int (rem3 (M 1 7))), some (.int (if 0 < M 1 6 then 1 else 0)), some (.int (if M 1 6 = 1 then 1 else 0)), some (.int 1), none] (fun S => RelK S M) 643 [some (.ref 0), some (.int (nI y)), some (.int (rfNo y)), some (.int (rfWho y)), some (.int (rem3 (M 1 7))), some (.int (if 0 < M 1 6 then 1 else 0)), some (.int (if M 1 6 = 1 then 1 else 0)), some (.int 1), none] := by
  by_cases hb : M 1 6 = 1
  · refine RStp.still (fun S X h k => ?_)
    refine VS.iload dL_refuses_607 rfl ?_
    refine VS.if_ne 643 dL_refuses_609 (by decide) (fun _ => ?_) (fun hh => absurd hh (by rw [if_pos hb]; decide))
    exact k
  · refine RStp.trans (RStp.still (fun S X h k => ?_)) ((rf_612 l hy hb).trans ((rf_624 l hy hb).trans (rf_634 l hy hb)))
    refine VS.iload dL_refuses_607 rfl ?_
    refine VS.if_ne 643 dL_refuses_609 (by decide) (fun hh => absurd (if_neg hb) hh) (fun _ => ?_)
    exact k
set_option maxRecDepth 100000 in
set_option maxHeartbeats 1500000 in
theorem ct_refuses (l : Launch) {M : SS} {y : Nat} (hy : y < 100000) (hg : Good (M 1)) {S : SS} (h : RelK S M) : ∃ S2 : SS, CtS l yL_refuses cL_refuses 9 (some .boolean) (rmD 8) [.ref 0, .int (nI y)] 77 shK S (some (.int 1)) S2 ∧ RelK S2 M := by
  obtain ⟨S2, a1, a2⟩ := ((rf_a l hy).trans ((rf_71 l hy hg).trans ((rf_84 l hy hg).trans ((rf_98 l hy hg).trans ((rf_109 l hy hg).trans ((rf_122 l hy hg).trans ((rf_137 l hy hg).trans ((rf_147 l hy hg).trans ((rf_158 l hy hg).trans ((rf_167 l hy hg).trans ((rf_178 l hy hg).trans ((rf_192 l hy hg).trans ((rf_204 l hy hg).trans ((rf_215 l hy hg).trans ((rf_226 l hy hg).trans ((rf_239 l hy hg).trans ((rf_248 l hy hg).trans ((rf_286 l hy hg).trans ((rf_333 l hy hg).trans ((rf_380 l hy hg).trans ((rf_425 l hy hg).trans ((rf_471 l hy hg).trans ((rf_543 l hy).trans (rf_607 l hy)))))))))))))))))))))))) S h
  refine ⟨S2, ?_, a1⟩
  refine CtF.of (own := RL) [some (.ref 0), some (.int (nI y)), none, none, none, none, none, none, none] (by decide +kernel) rfl (fun _ => Nat.le_of_ble_eq_true rfl) (fun _ => rfl) ?_
  refine a2 _ ?_
  refine VS.iconst (1) dL_refuses_643 rfl ?_
  refine VS.goto 648 dL_refuses_644 (by decide) ?_
  exact VS.zret dL_refuses_648 (by first | rfl | exact nb_ite) (rfl) (fun _ _ => rfl)
