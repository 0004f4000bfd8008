/-! the class: turns of a game -/
def G3 (S : SS) (t p : Nat) (c a b : Nat → Int32) : SS := upC (upC (upC S 0 c) (2 + t) a) (2 + p) b
theorem G3_ini (S : SS) (t p : Nat) : S = G3 S t p (S 0) (S (2 + t)) (S (2 + p)) := by
  unfold G3
  have h1 : upC (upC S 0 (S 0)) (2 + t) (S (2 + t)) = S := by rw [upC_id, upC_id]
  rw [h1, upC_id]
theorem G3_0 {S : SS} {t p : Nat} {c a b : Nat → Int32} : G3 S t p c a b 0 = c := by
  unfold G3; rw [upC_ne (by omega), upC_ne (by omega), upC_at]
theorem G3_1 {S : SS} {t p : Nat} {c a b : Nat → Int32} : G3 S t p c a b 1 = S 1 := by
  unfold G3; rw [upC_ne (by omega), upC_ne (by omega), upC_ne (by omega)]
theorem G3_t {S : SS} {t p : Nat} {c a b : Nat → Int32} (h : t ≠ p) : G3 S t p c a b (2 + t) = a := by
  unfold G3; rw [upC_ne (by omega), upC_at]
theorem G3_p {S : SS} {t p : Nat} {c a b : Nat → Int32} : G3 S t p c a b (2 + p) = b := by
  unfold G3; rw [upC_at]
theorem G3_u0 {S : SS} {t p : Nat} {c a b c2 : Nat → Int32} : upC (G3 S t p c a b) 0 c2 = G3 S t p c2 a b := by
  unfold G3
  rw [upC_comm _ _ _ (by omega : 2 + p ≠ 0), upC_comm _ _ _ (by omega : 2 + t ≠ 0), upC_upC]
theorem G3_ut {S : SS} {t p : Nat} {c a b a2 : Nat → Int32} (h : t ≠ p) : upC (G3 S t p c a b) (2 + t) a2 = G3 S t p c a2 b := by
  unfold G3
  rw [upC_comm _ _ _ (by omega : 2 + p ≠ 2 + t), upC_upC]
theorem G3_up {S : SS} {t p : Nat} {c a b b2 : Nat → Int32} : upC (G3 S t p c a b) (2 + p) b2 = G3 S t p c a b2 := by
  unfold G3
  rw [upC_upC]
theorem G3_s0 {S : SS} {t p : Nat} {c a b : Nat → Int32} {j : Nat} {v : Int32} : up2 (G3 S t p c a b) 0 j v = G3 S t p (upd c j v) a b := by
  unfold up2; rw [G3_0, G3_u0]
theorem G3_st {S : SS} {t p : Nat} {c a b : Nat → Int32} {j : Nat} {v : Int32} (h : t ≠ p) : up2 (G3 S t p c a b) (2 + t) j v = G3 S t p c (upd a j v) b := by
  unfold up2; rw [G3_t h, G3_ut h]
theorem G3_sp {S : SS} {t p : Nat} {c a b : Nat → Int32} {j : Nat} {v : Int32} : up2 (G3 S t p c a b) (2 + p) j v = G3 S t p c a (upd b j v) := by
  unfold up2; rw [G3_p, G3_up]
theorem G3_tp {S : SS} {t p : Nat} {c a b : Nat → Int32} {S2 : SS} (h : t ≠ p) : mg (two2 (2 + t) (2 + p)) 2 S2 (G3 S t p c a b) = G3 S t p c (S2 0) (S2 1) := by
  rw [mg_two (by omega), G3_ut h, G3_up]
theorem G3_pt {S : SS} {t p : Nat} {c a b : Nat → Int32} {S2 : SS} (h : t ≠ p) : mg (two2 (2 + p) (2 + t)) 2 S2 (G3 S t p c a b) = G3 S t p c (S2 1) (S2 0) := by
  rw [mg_two (by omega), G3_up, G3_ut h]
/-- rows of two players, behind a payment -/
def pyA (a : Nat → Int32) (k : Int32) : Nat → Int32 := upd a 0 (a 0 - paI (a 0) k)
def pyB (a b : Nat → Int32) (k : Int32) : Nat → Int32 := upd b 0 (tkI (b 0) (paI (a 0) k))
theorem pay_S2 {S : SS} {k : Int32} {a b : Nat → Int32} (ha : S 0 = a) (hb : S 1 = b) : (up2 (up2 S 0 0 (S 0 0 - paI (S 0 0) k)) 1 0 (tkI (S 1 0) (paI (S 0 0) k))) 0 = pyA a k ∧ (up2 (up2 S 0 0 (S 0 0 - paI (S 0 0) k)) 1 0 (tkI (S 1 0) (paI (S 0 0) k))) 1 = pyB a b k := by
  subst ha; subst hb
  exact ⟨rfl, rfl⟩
theorem G3_pay1 {S : SS} {t p : Nat} {c a b : Nat → Int32} {k : Int32} (h : t ≠ p) : mg (two2 (2 + t) (2 + p)) 2 (up2 (up2 (fun i => G3 S t p c a b (two2 (2 + t) (2 + p) i)) 0 0 ((fun i => G3 S t p c a b (two2 (2 + t) (2 + p) i)) 0 0 - paI ((fun i => G3 S t p c a b (two2 (2 + t) (2 + p) i)) 0 0) k)) 1 0 (tkI ((fun i => G3 S t p c a b (two2 (2 + t) (2 + p) i)) 1 0) (paI ((fun i => G3 S t p c a b (two2 (2 + t) (2 + p) i)) 0 0) k))) (G3 S t p c a b) = G3 S t p c (pyA a k) (pyB a b k) := by
  rw [G3_tp h]
  have e := pay_S2 (S := fun i => G3 S t p c a b (two2 (2 + t) (2 + p) i)) (k := k) (a := a) (b := b) (G3_t h) G3_p
  rw [e.1, e.2]
theorem G3_pay2 {S : SS} {t p : Nat} {c a b : Nat → Int32} {k : Int32} (h : t ≠ p) : mg (two2 (2 + p) (2 + t)) 2 (up2 (up2 (fun i => G3 S t p c a b (two2 (2 + p) (2 + t) i)) 0 0 ((fun i => G3 S t p c a b (two2 (2 + p) (2 + t) i)) 0 0 - paI ((fun i => G3 S t p c a b (two2 (2 + p) (2 + t) i)) 0 0) k)) 1 0 (tkI ((fun i => G3 S t p c a b (two2 (2 + p) (2 + t) i)) 1 0) (paI ((fun i => G3 S t p c a b (two2 (2 + p) (2 + t) i)) 0 0) k))) (G3 S t p c a b) = G3 S t p c (pyB b a k) (pyA b k) := by
  rw [G3_pt h]
  have e := pay_S2 (S := fun i => G3 S t p c a b (two2 (2 + p) (2 + t) i)) (k := k) (a := b) (b := a) G3_p (G3_t h)
  rw [e.1, e.2]
/-- a check is settled -/
def sA0 (S : SS) (t : Nat) : Nat → Int32 := upd (S (2 + t)) 4 (S (2 + t) 4 + 1)
def sA1 (S : SS) (t : Nat) : Nat → Int32 := pyA (sA0 S t) (S 1 0)
def sB1 (S : SS) (t p : Nat) : Nat → Int32 := pyB (sA0 S t) (S (2 + p)) (S 1 0)
def sC1 (S : SS) (r : Int32) : Nat → Int32 := upd (upd (S 0) 4 (S 0 4 ||| r)) 5 (KK (S 0 1) (S 0 4 ||| r))
def sLie (S : SS) (t p : Nat) (r : Int32) : Prop := ¬ lieF (sB1 S t p) (S 0 1) &&& r = 0
def sA2 (S : SS) (t : Nat) : Nat → Int32 := upd (sA1 S t) 5 (sA1 S t 5 + 1)
def sB2 (S : SS) (t p : Nat) : Nat → Int32 := upd (sB1 S t p) 3 (sB1 S t p 3 + 1)
def sC2 (S : SS) (r : Int32) : Nat → Int32 := upd (sC1 S r) 6 (S 0 6 + 1)
def seV (S : SS) (t p : Nat) (r : Int32) : Int32 := if lieF (sB1 S t p) (S 0 1) &&& r = 0 then 0 else 1
def seS (S : SS) (t p : Nat) (r : Int32) : SS := if lieF (sB1 S t p) (S 0 1) &&& r = 0 then G3 S t p (sC2 S r) (sA1 S t) (sB1 S t p) else G3 S t p (sC2 S r) (pyB (sB2 S t p) (sA2 S t) (S 1 1)) (pyA (sB2 S t p) (S 1 1))
set_option maxRecDepth 100000 in
set_option maxHeartbeats 4000000 in
theorem ct_X0_settleCheck (l : Launch) (S : SS) (r : Int32) {t p : Nat} (h3 : t < 3) (hp : p < 3) (htp : t ≠ p) : CtS l yX0_settleCheck cX0_settleCheck 5 (some FieldType.int) (rmD 4) [.ref 0, .ref (2 + t), .ref (2 + p), .int r] 7 shG S (some (.int (seV S t p r))) (seS S t p r) := by
  refine CtF.of (own := RX0) [some (.ref 0), some (.ref (2 + t)), some (.ref (2 + p)), some (.int r), none] (by decide +kernel) rfl (fun _ => Nat.le_of_ble_eq_true rfl) (fun _ => rfl) ?_
  refine VS.stt (S2 := G3 S t p (S 0) (S (2 + t)) (S (2 + p))) (G3_ini S t p) ?_
  refine VS.aload_n dX0_settleCheck_0 rfl ?_
  refine VS.dup dX0_settleCheck_1 rfl ?_
  refine VS.sgetI 3 dX0_settleCheck_2 uw_X4 rfl (inG_p h3) 4 (shG_p h3) rfl (by decide) fl_X0_131 rfl ?_
  refine VS.val (y := S (2 + t) 4) (by rw [G3_t htp]) ?_
  refine VS.iconst (1) dX0_settleCheck_5 rfl ?_
  refine VS.iadd dX0_settleCheck_6 ?_
  refine VS.sput 3 dX0_settleCheck_7 uw_X4 tyX4 tyX4_ok nmX4 rfl (inG_p h3) 4 (shG_p h3) rfl (by decide) fl_X0_131 rfl rfl (rfl) (rfl) ?_
  refine VS.stt (S2 := G3 S t p (S 0) (sA0 S t) (S (2 + p))) (by rw [G3_st htp]; rfl) ?_
  refine VS.aload_n dX0_settleCheck_10 rfl ?_
  refine VS.aload_n dX0_settleCheck_11 rfl ?_
  refine VS.aload_n dX0_settleCheck_12 rfl ?_
  refine VS.iconst (0) dX0_settleCheck_13 rfl ?_
  refine VS.callT (ct_X0_setting l _ (k := 0) (by decide)) dX0_settleCheck_14 mi_X0_setting im_X0_setting sel_X0_setting ml_X0_134 (by decide) rfl rfl (rmOk_D (by decide) (by decide)) (Nat.le_of_ble_eq_true rfl) rfl ?_
  refine VS.val (y := S 1 0) (by rw [G3_1]) ?_
  refine VS.callR (two2 (2 + t) (2 + p)) (shi_pp h3 hp htp) (ct_X4_pay l _ _) dX0_settleCheck_17 mi_X4_pay im_X4_pay sel_X4_pay ml_X0_137 (by decide) rfl rfl (rmOk_D (by decide) (by decide)) (Nat.le_of_ble_eq_true rfl) rfl ?_
  refine VS.stt (S2 := G3 S t p (S 0) (sA1 S t) (sB1 S t p)) (G3_pay1 htp) ?_
  refine VS.aload_n dX0_settleCheck_20 rfl ?_
  refine VS.dup dX0_settleCheck_21 rfl ?_
  refine VS.sgetI 0 dX0_settleCheck_22 uw_X0 rfl (by decide) 4 (rfl) rfl (by decide) fl_X0_57 rfl ?_
  refine VS.val (y := S 0 4) (by rw [G3_0]) ?_
  refine VS.iload_n dX0_settleCheck_25 rfl ?_
  refine VS.ior dX0_settleCheck_26 ?_
  refine VS.sput 0 dX0_settleCheck_27 uw_X0 tyX0 tyX0_ok nmX0 rfl (by decide) 4 (rfl) rfl (by decide) fl_X0_57 rfl rfl (rfl) (rfl) ?_
  refine VS.stt (S2 := G3 S t p (upd (S 0) 4 (S 0 4 ||| r)) (sA1 S t) (sB1 S t p)) (G3_s0) ?_
  refine VS.aload_n dX0_settleCheck_30 rfl ?_
  refine VS.aload_n dX0_settleCheck_31 rfl ?_
  refine VS.sgetI 0 dX0_settleCheck_32 uw_X0 rfl (by decide) 1 (rfl) rfl (by decide) fl_X0_47 rfl ?_
  refine VS.val (y := S 0 1) (by rw [G3_0]; rfl) ?_
  refine VS.aload_n dX0_settleCheck_35 rfl ?_
  refine VS.sgetI 0 dX0_settleCheck_36 uw_X0 rfl (by decide) 4 (rfl) rfl (by decide) fl_X0_57 rfl ?_
  refine VS.val (y := S 0 4 ||| r) (by rw [G3_0]; rfl) ?_
  refine VS.callN (ct_X1_withWhatFollows l _ _) dX0_settleCheck_39 mi_X1_withWhatFollows st_X1_withWhatFollows ml_X0_96 (rmOk_D (by decide) (by decide)) (Nat.le_of_ble_eq_true rfl) rfl ?_
  refine VS.sput 0 dX0_settleCheck_42 uw_X0 tyX0 tyX0_ok nmX0 rfl (by decide) 5 (rfl) rfl (by decide) fl_X0_60 rfl rfl (rfl) (rfl) ?_
  refine VS.stt (S2 := G3 S t p (sC1 S r) (sA1 S t) (sB1 S t p)) (G3_s0) ?_
  refine VS.aload_n dX0_settleCheck_45 rfl ?_
  refine VS.aload_n dX0_settleCheck_46 rfl ?_
  refine VS.sgetI 0 dX0_settleCheck_47 uw_X0 rfl (by decide) 1 (rfl) rfl (by decide) fl_X0_47 rfl ?_
  refine VS.val (y := S 0 1) (by rw [G3_0]; rfl) ?_
  refine VS.callR (fun _ => 2 + p) (shi_p hp) (ct_X4_lies l _ _) dX0_settleCheck_50 mi_X4_lies im_X4_lies sel_X4_lies ml_X0_141 (by decide) rfl rfl (rmOk_D (by decide) (by decide)) (Nat.le_of_ble_eq_true rfl) rfl ?_
  refine VS.stt (S2 := G3 S t p (sC1 S r) (sA1 S t) (sB1 S t p)) ((mg_one _ _ _).trans (by rw [G3_up, G3_p])) ?_
  refine VS.val (y := lieF (sB1 S t p) (S 0 1)) (by rw [G3_p]) ?_
  refine VS.iload_n dX0_settleCheck_53 rfl ?_
  refine VS.iand dX0_settleCheck_54 ?_
  refine VS.if_eq 62 dX0_settleCheck_55 (by decide) (fun h_55 => ?_) (fun h_55 => ?_)
  · refine VS.iconst (0) dX0_settleCheck_62 rfl ?_
    refine VS.istore dX0_settleCheck_63 (by decide) rfl ?_
    refine VS.iload dX0_settleCheck_65 rfl ?_
    refine VS.if_eq 100 dX0_settleCheck_67 (by decide) (fun _ => ?_) (fun hh => absurd (rfl) hh)
    refine VS.aload_n dX0_settleCheck_100 rfl ?_
    refine VS.dup dX0_settleCheck_101 rfl ?_
    refine VS.sgetI 0 dX0_settleCheck_102 uw_X0 rfl (by decide) 6 (rfl) rfl (by decide) fl_X0_63 rfl ?_
    refine VS.val (y := S 0 6) (by rw [G3_0]; rfl) ?_
    refine VS.iconst (1) dX0_settleCheck_105 rfl ?_
    refine VS.iadd dX0_settleCheck_106 ?_
    refine VS.sput 0 dX0_settleCheck_107 uw_X0 tyX0 tyX0_ok nmX0 rfl (by decide) 6 (rfl) rfl (by decide) fl_X0_63 rfl rfl (rfl) (rfl) ?_
    refine VS.stt (S2 := G3 S t p (sC2 S r) (sA1 S t) (sB1 S t p)) (G3_s0) ?_
    refine VS.iload dX0_settleCheck_110 rfl ?_
    refine VS.if_eq 119 dX0_settleCheck_112 (by decide) (fun _ => ?_) (fun hh => absurd (rfl) hh)
    refine VS.iconst (0) dX0_settleCheck_119 rfl ?_
    exact VS.iret dX0_settleCheck_120 (by unfold seV; first | rw [if_pos h_55] | rw [if_neg h_55]) (shk1 (by unfold seS; first | rw [if_pos h_55] | rw [if_neg h_55]))
  · refine VS.iconst (1) dX0_settleCheck_58 rfl ?_
    refine VS.goto 63 dX0_settleCheck_59 (by decide) ?_
    refine VS.istore dX0_settleCheck_63 (by decide) rfl ?_
    refine VS.iload dX0_settleCheck_65 rfl ?_
    refine VS.if_eq 100 dX0_settleCheck_67 (by decide) (fun hh => absurd hh (by decide)) (fun _ => ?_)
    refine VS.aload_n dX0_settleCheck_70 rfl ?_
    refine VS.dup dX0_settleCheck_71 rfl ?_
    refine VS.sgetI 3 dX0_settleCheck_72 uw_X4 rfl (inG_p h3) 5 (shG_p h3) rfl (by decide) fl_X0_144 rfl ?_
    refine VS.val (y := sA1 S t 5) (by rw [G3_t htp]) ?_
    refine VS.iconst (1) dX0_settleCheck_75 rfl ?_
    refine VS.iadd dX0_settleCheck_76 ?_
    refine VS.sput 3 dX0_settleCheck_77 uw_X4 tyX4 tyX4_ok nmX4 rfl (inG_p h3) 5 (shG_p h3) rfl (by decide) fl_X0_144 rfl rfl (rfl) (rfl) ?_
    refine VS.stt (S2 := G3 S t p (sC1 S r) (sA2 S t) (sB1 S t p)) (G3_st htp) ?_
    refine VS.aload_n dX0_settleCheck_80 rfl ?_
    refine VS.dup dX0_settleCheck_81 rfl ?_
    refine VS.sgetI 3 dX0_settleCheck_82 uw_X4 rfl (inG_p hp) 3 (shG_p hp) rfl (by decide) fl_X0_147 rfl ?_
    refine VS.val (y := sB1 S t p 3) (by rw [G3_p]) ?_
    refine VS.iconst (1) dX0_settleCheck_85 rfl ?_
    refine VS.iadd dX0_settleCheck_86 ?_
    refine VS.sput 3 dX0_settleCheck_87 uw_X4 tyX4 tyX4_ok nmX4 rfl (inG_p hp) 3 (shG_p hp) rfl (by decide) fl_X0_147 rfl rfl (rfl) (rfl) ?_
    refine VS.stt (S2 := G3 S t p (sC1 S r) (sA2 S t) (sB2 S t p)) (G3_sp) ?_
    refine VS.aload_n dX0_settleCheck_90 rfl ?_
    refine VS.aload_n dX0_settleCheck_91 rfl ?_
    refine VS.aload_n dX0_settleCheck_92 rfl ?_
    refine VS.iconst (1) dX0_settleCheck_93 rfl ?_
    refine VS.callT (ct_X0_setting l _ (k := 1) (by decide)) dX0_settleCheck_94 mi_X0_setting im_X0_setting sel_X0_setting ml_X0_134 (by decide) rfl rfl (rmOk_D (by decide) (by decide)) (Nat.le_of_ble_eq_true rfl) rfl ?_
    refine VS.val (y := S 1 1) (by rw [G3_1]) ?_
    refine VS.callR (two2 (2 + p) (2 + t)) (shi_pp hp h3 (Ne.symm htp)) (ct_X4_pay l _ _) dX0_settleCheck_97 mi_X4_pay im_X4_pay sel_X4_pay ml_X0_137 (by decide) rfl rfl (rmOk_D (by decide) (by decide)) (Nat.le_of_ble_eq_true rfl) rfl ?_
    refine VS.stt (S2 := G3 S t p (sC1 S r) (pyB (sB2 S t p) (sA2 S t) (S 1 1)) (pyA (sB2 S t p) (S 1 1))) (G3_pay2 htp) ?_
    refine VS.aload_n dX0_settleCheck_100 rfl ?_
    refine VS.dup dX0_settleCheck_101 rfl ?_
    refine VS.sgetI 0 dX0_settleCheck_102 uw_X0 rfl (by decide) 6 (rfl) rfl (by decide) fl_X0_63 rfl ?_
    refine VS.val (y := S 0 6) (by rw [G3_0]; rfl) ?_
    refine VS.iconst (1) dX0_settleCheck_105 rfl ?_
    refine VS.iadd dX0_settleCheck_106 ?_
    refine VS.sput 0 dX0_settleCheck_107 uw_X0 tyX0 tyX0_ok nmX0 rfl (by decide) 6 (rfl) rfl (by decide) fl_X0_63 rfl rfl (rfl) (rfl) ?_
    refine VS.stt (S2 := G3 S t p (sC2 S r) (pyB (sB2 S t p) (sA2 S t) (S 1 1)) (pyA (sB2 S t p) (S 1 1))) (G3_s0) ?_
    refine VS.iload dX0_settleCheck_110 rfl ?_
    refine VS.if_eq 119 dX0_settleCheck_112 (by decide) (fun hh => absurd hh (by decide)) (fun _ => ?_)
    refine VS.iconst (1) dX0_settleCheck_115 rfl ?_
    refine VS.goto 120 dX0_settleCheck_116 (by decide) ?_
    exact VS.iret dX0_settleCheck_120 (by unfold seV; first | rw [if_pos h_55] | rw [if_neg h_55]) (shk1 (by unfold seS; first | rw [if_pos h_55] | rw [if_neg h_55]))
def ckV (S : SS) (t : Nat) (q a b : Int32) : Int32 := if 0 ≤ q ∧ q < 3 then (if wrE a b = 0 then (if q = nI t then -2 else if stI S = 1 then (if (S (2 + q.toNatClampNeg) 1 ||| S (2 + q.toNatClampNeg) 2) &&& bitE a b = 0 then -5 else if S 0 4 &&& bitE a b = 0 then seV S t q.toNatClampNeg (bitE a b) else -5) else -5) else wrE a b) else -1
def ckOK (S : SS) (t : Nat) (q a b : Int32) : Prop := (0 ≤ q ∧ q < 3) ∧ wrE a b = 0 ∧ ¬ q = nI t ∧ stI S = 1 ∧ ¬ (S (2 + q.toNatClampNeg) 1 ||| S (2 + q.toNatClampNeg) 2) &&& bitE a b = 0 ∧ S 0 4 &&& bitE a b = 0
set_option maxRecDepth 100000 in
set_option maxHeartbeats 4000000 in
theorem ct_X0_checkClaim_n1 (l : Launch) (S : SS) (q : Int32) (a : Int32) (b : Int32) (hq : ¬ (0 ≤ q ∧ q < 3)) : CtS l yX0_checkClaim cX0_checkClaim 8 (some FieldType.int) (rmD 5) [.ref 0, .int q, .int a, .int b] 7 shG S (some (.int (-1))) (S) := by
  refine CtF.of (own := RX0) [some (.ref 0), some (.int q), some (.int a), some (.int b), none, none, none, none] (by decide +kernel) rfl (fun _ => Nat.le_of_ble_eq_true rfl) (fun _ => rfl) ?_
  refine VS.iload_n dX0_checkClaim_0 rfl ?_
  refine VS.callNN RX6 (ct_X6_isPlayer l _) dX0_checkClaim_1 mi_X6_isPlayer st_X6_isPlayer (by decide) (rmOk_D (by decide) (by decide)) (Nat.le_of_ble_eq_true rfl) rfl ?_
  refine VS.if_eq 15 dX0_checkClaim_4 (by decide) (fun _ => ?_) (fun hh => absurd (if_neg hq) hh)
  refine VS.iconst (-1) dX0_checkClaim_15 rfl ?_
  refine VS.istore dX0_checkClaim_16 (by decide) rfl ?_
  refine VS.iload dX0_checkClaim_18 rfl ?_
  refine VS.if_eq 26 dX0_checkClaim_20 (by decide) (fun hh => absurd hh (by decide)) (fun _ => ?_)
  refine VS.iload dX0_checkClaim_23 rfl ?_
  exact VS.iret dX0_checkClaim_25 (rfl) (fun _ _ => rfl)
set_option maxRecDepth 100000 in
set_option maxHeartbeats 4000000 in
theorem ct_X0_checkClaim_n2 (l : Launch) (S : SS) (a : Int32) (b : Int32) {t p : Nat} (ht : rem3 (S 0 6) = nI t) (h3 : t < 3) (hp : p < 3) (hw : ¬ wrE a b = 0) : CtS l yX0_checkClaim cX0_checkClaim 8 (some FieldType.int) (rmD 5) [.ref 0, .int (nI p), .int a, .int b] 7 shG S (some (.int (wrE a b))) (S) := by
  refine CtF.of (own := RX0) [some (.ref 0), some (.int (nI p)), some (.int a), some (.int b), none, none, none, none] (by decide +kernel) rfl (fun _ => Nat.le_of_ble_eq_true rfl) (fun _ => rfl) ?_
  refine VS.iload_n dX0_checkClaim_0 rfl ?_
  refine VS.callNN RX6 (ct_X6_isPlayer l _) dX0_checkClaim_1 mi_X6_isPlayer st_X6_isPlayer (by decide) (rmOk_D (by decide) (by decide)) (Nat.le_of_ble_eq_true rfl) rfl ?_
  refine VS.if_eq 15 dX0_checkClaim_4 (by decide) (fun hh => absurd hh (pl_y hp)) (fun _ => ?_)
  refine VS.iload_n dX0_checkClaim_7 rfl ?_
  refine VS.iload_n dX0_checkClaim_8 rfl ?_
  refine VS.callN (ct_X1_wrongEnds l _ _) dX0_checkClaim_9 mi_X1_wrongEnds st_X1_wrongEnds ml_X0_79 (rmOk_D (by decide) (by decide)) (Nat.le_of_ble_eq_true rfl) rfl ?_
  refine VS.goto 16 dX0_checkClaim_12 (by decide) ?_
  refine VS.istore dX0_checkClaim_16 (by decide) rfl ?_
  refine VS.iload dX0_checkClaim_18 rfl ?_
  refine VS.if_eq 26 dX0_checkClaim_20 (by decide) (fun hh => absurd hh (hw)) (fun _ => ?_)
  refine VS.iload dX0_checkClaim_23 rfl ?_
  exact VS.iret dX0_checkClaim_25 (rfl) (fun _ _ => rfl)
set_option maxRecDepth 100000 in
set_option maxHeartbeats 4000000 in
theorem ct_X0_checkClaim_n3 (l : Launch) (S : SS) (a : Int32) (b : Int32) {t p : Nat} (ht : rem3 (S 0 6) = nI t) (h3 : t < 3) (hp : p < 3) (hw : wrE a b = 0) (e : t = p) : CtS l yX0_checkClaim cX0_checkClaim 8 (some FieldType.int) (rmD 5) [.ref 0, .int (nI p), .int a, .int b] 7 shG S (some (.int (-2))) (S) := by
  refine CtF.of (own := RX0) [some (.ref 0), some (.int (nI p)), some (.int a), some (.int b), none, none, none, none] (by decide +kernel) rfl (fun _ => Nat.le_of_ble_eq_true rfl) (fun _ => rfl) ?_
  refine VS.iload_n dX0_checkClaim_0 rfl ?_
  refine VS.callNN RX6 (ct_X6_isPlayer l _) dX0_checkClaim_1 mi_X6_isPlayer st_X6_isPlayer (by decide) (rmOk_D (by decide) (by decide)) (Nat.le_of_ble_eq_true rfl) rfl ?_
  refine VS.if_eq 15 dX0_checkClaim_4 (by decide) (fun hh => absurd hh (pl_y hp)) (fun _ => ?_)
  refine VS.iload_n dX0_checkClaim_7 rfl ?_
  refine VS.iload_n dX0_checkClaim_8 rfl ?_
  refine VS.callN (ct_X1_wrongEnds l _ _) dX0_checkClaim_9 mi_X1_wrongEnds st_X1_wrongEnds ml_X0_79 (rmOk_D (by decide) (by decide)) (Nat.le_of_ble_eq_true rfl) rfl ?_
  refine VS.goto 16 dX0_checkClaim_12 (by decide) ?_
  refine VS.istore dX0_checkClaim_16 (by decide) rfl ?_
  refine VS.iload dX0_checkClaim_18 rfl ?_
  refine VS.if_eq 26 dX0_checkClaim_20 (by decide) (fun _ => ?_) (fun hh => absurd (hw) hh)
  refine VS.iload_n dX0_checkClaim_26 rfl ?_
  refine VS.aload_n dX0_checkClaim_27 rfl ?_
  refine VS.callT (ct_X0_next l _) dX0_checkClaim_28 mi_X0_next im_X0_next sel_X0_next ml_X0_103 (by decide) rfl rfl (rmOk_D (by decide) (by decide)) (Nat.le_of_ble_eq_true rfl) rfl ?_
  refine VS.val (y := nI p) (by rw [ht, e]) ?_
  refine VS.icmp_ne 37 dX0_checkClaim_31 (by decide) (fun hh => absurd (rfl) hh) (fun _ => ?_)
  refine VS.bipush (-2) dX0_checkClaim_34 rfl ?_
  exact VS.iret dX0_checkClaim_36 (rfl) (fun _ _ => rfl)
set_option maxRecDepth 100000 in
set_option maxHeartbeats 4000000 in
theorem ct_X0_checkClaim (l : Launch) (S : SS) (a : Int32) (b : Int32) {t p : Nat} (ht : rem3 (S 0 6) = nI t) (h3 : t < 3) (hp : p < 3) (hw : wrE a b = 0) (htp : t ≠ p) (hs : stI S = 1) (hc : ¬ (S (2 + p) 1 ||| S (2 + p) 2) &&& bitE a b = 0) (hr : S 0 4 &&& bitE a b = 0) : CtS l yX0_checkClaim cX0_checkClaim 8 (some FieldType.int) (rmD 5) [.ref 0, .int (nI p), .int a, .int b] 7 shG S (some (.int (seV S t p (bitE a b)))) (seS S t p (bitE a b)) := by
  refine CtF.of (own := RX0) [some (.ref 0), some (.int (nI p)), some (.int a), some (.int b), none, none, none, none] (by decide +kernel) rfl (fun _ => Nat.le_of_ble_eq_true rfl) (fun _ => rfl) ?_
  refine VS.iload_n dX0_checkClaim_0 rfl ?_
  refine VS.callNN RX6 (ct_X6_isPlayer l _) dX0_checkClaim_1 mi_X6_isPlayer st_X6_isPlayer (by decide) (rmOk_D (by decide) (by decide)) (Nat.le_of_ble_eq_true rfl) rfl ?_
  refine VS.if_eq 15 dX0_checkClaim_4 (by decide) (fun hh => absurd hh (pl_y hp)) (fun _ => ?_)
  refine VS.iload_n dX0_checkClaim_7 rfl ?_
  refine VS.iload_n dX0_checkClaim_8 rfl ?_
  refine VS.callN (ct_X1_wrongEnds l _ _) dX0_checkClaim_9 mi_X1_wrongEnds st_X1_wrongEnds ml_X0_79 (rmOk_D (by decide) (by decide)) (Nat.le_of_ble_eq_true rfl) rfl ?_
  refine VS.goto 16 dX0_checkClaim_12 (by decide) ?_
  refine VS.istore dX0_checkClaim_16 (by decide) rfl ?_
  refine VS.iload dX0_checkClaim_18 rfl ?_
  refine VS.if_eq 26 dX0_checkClaim_20 (by decide) (fun _ => ?_) (fun hh => absurd (hw) hh)
  refine VS.iload_n dX0_checkClaim_26 rfl ?_
  refine VS.aload_n dX0_checkClaim_27 rfl ?_
  refine VS.callT (ct_X0_next l _) dX0_checkClaim_28 mi_X0_next im_X0_next sel_X0_next ml_X0_103 (by decide) rfl rfl (rmOk_D (by decide) (by decide)) (Nat.le_of_ble_eq_true rfl) rfl ?_
  refine VS.val (y := nI t) ht ?_
  refine VS.icmp_ne 37 dX0_checkClaim_31 (by decide) (fun _ => ?_) (fun hh => absurd hh (fun z => htp ((nI_eq (by omega) (by omega)).mp z).symm))
  refine VS.iload_n dX0_checkClaim_37 rfl ?_
  refine VS.iload_n dX0_checkClaim_38 rfl ?_
  refine VS.callN (ct_X1_roadBetween l _ _) dX0_checkClaim_39 mi_X1_roadBetween st_X1_roadBetween ml_X0_83 (rmOk_D (by decide) (by decide)) (Nat.le_of_ble_eq_true rfl) rfl ?_
  refine VS.val (y := bitE a b) rfl ?_
  refine VS.istore dX0_checkClaim_42 (by decide) rfl ?_
  refine VS.aload_n dX0_checkClaim_44 rfl ?_
  refine VS.iload_n dX0_checkClaim_45 rfl ?_
  refine VS.callT (ct_X0_seat l _ hp) dX0_checkClaim_46 mi_X0_seat im_X0_seat sel_X0_seat ml_X0_107 (by decide) rfl rfl (rmOk_D (by decide) (by decide)) (Nat.le_of_ble_eq_true rfl) rfl ?_
  refine VS.astore dX0_checkClaim_49 (by decide) rfl ?_
  refine VS.aload dX0_checkClaim_51 rfl ?_
  refine VS.sgetI 3 dX0_checkClaim_53 uw_X4 rfl (inG_p hp) 1 (shG_p hp) rfl (by decide) fl_X0_121 rfl ?_
  refine VS.aload dX0_checkClaim_56 rfl ?_
  refine VS.sgetI 3 dX0_checkClaim_58 uw_X4 rfl (inG_p hp) 2 (shG_p hp) rfl (by decide) fl_X0_124 rfl ?_
  refine VS.ior dX0_checkClaim_61 ?_
  refine VS.iload dX0_checkClaim_62 rfl ?_
  refine VS.iand dX0_checkClaim_64 ?_
  refine VS.if_eq 72 dX0_checkClaim_65 (by decide) (fun hh => absurd hh (hc)) (fun _ => ?_)
  refine VS.iconst (1) dX0_checkClaim_68 rfl ?_
  refine VS.goto 73 dX0_checkClaim_69 (by decide) ?_
  refine VS.istore dX0_checkClaim_73 (by decide) rfl ?_
  refine VS.aload_n dX0_checkClaim_75 rfl ?_
  refine VS.callT (ct_X0_goesOn l _) dX0_checkClaim_76 mi_X0_goesOn im_X0_goesOn sel_X0_goesOn ml_X0_99 (by decide) rfl rfl (rmOk_D (by decide) (by decide)) (Nat.le_of_ble_eq_true rfl) rfl ?_
  refine VS.if_eq 97 dX0_checkClaim_79 (by decide) (fun hh => absurd hh (by rw [if_pos hs]; decide)) (fun _ => ?_)
  refine VS.iload dX0_checkClaim_82 rfl ?_
  refine VS.if_eq 97 dX0_checkClaim_84 (by decide) (fun hh => absurd hh (by decide)) (fun _ => ?_)
  refine VS.aload_n dX0_checkClaim_87 rfl ?_
  refine VS.sgetI 0 dX0_checkClaim_88 uw_X0 rfl (by decide) 4 (rfl) rfl (by decide) fl_X0_57 rfl ?_
  refine VS.iload dX0_checkClaim_91 rfl ?_
  refine VS.iand dX0_checkClaim_93 ?_
  refine VS.if_eq 100 dX0_checkClaim_94 (by decide) (fun _ => ?_) (fun hh => absurd (hr) hh)
  refine VS.aload_n dX0_checkClaim_100 rfl ?_
  refine VS.aload_n dX0_checkClaim_101 rfl ?_
  refine VS.aload_n dX0_checkClaim_102 rfl ?_
  refine VS.callT (ct_X0_next l _) dX0_checkClaim_103 mi_X0_next im_X0_next sel_X0_next ml_X0_103 (by decide) rfl rfl (rmOk_D (by decide) (by decide)) (Nat.le_of_ble_eq_true rfl) rfl ?_
  refine VS.val (y := nI t) ht ?_
  refine VS.callT (ct_X0_seat l _ h3) dX0_checkClaim_106 mi_X0_seat im_X0_seat sel_X0_seat ml_X0_107 (by decide) rfl rfl (rmOk_D (by decide) (by decide)) (Nat.le_of_ble_eq_true rfl) rfl ?_
  refine VS.aload dX0_checkClaim_109 rfl ?_
  refine VS.iload dX0_checkClaim_111 rfl ?_
  refine VS.callT (ct_X0_settleCheck l _ _ h3 hp htp) dX0_checkClaim_113 mi_X0_settleCheck im_X0_settleCheck sel_X0_settleCheck ml_X0_127 (by decide) rfl rfl (rmOk_D (by decide) (by decide)) (Nat.le_of_ble_eq_true rfl) rfl ?_
  exact VS.iret dX0_checkClaim_116 (rfl) (fun _ _ => rfl)
set_option maxRecDepth 100000 in
set_option maxHeartbeats 4000000 in
theorem ct_X0_checkClaim_n4 (l : Launch) (S : SS) (a : Int32) (b : Int32) {t p : Nat} (ht : rem3 (S 0 6) = nI t) (h3 : t < 3) (hp : p < 3) (hw : wrE a b = 0) (htp : t ≠ p) (hn : ¬ (stI S = 1 ∧ ¬ (S (2 + p) 1 ||| S (2 + p) 2) &&& bitE a b = 0 ∧ S 0 4 &&& bitE a b = 0)) : CtS l yX0_checkClaim cX0_checkClaim 8 (some FieldType.int) (rmD 5) [.ref 0, .int (nI p), .int a, .int b] 7 shG S (some (.int (-5))) (S) := by
  refine CtF.of (own := RX0) [some (.ref 0), some (.int (nI p)), some (.int a), some (.int b), none, none, none, none] (by decide +kernel) rfl (fun _ => Nat.le_of_ble_eq_true rfl) (fun _ => rfl) ?_
  refine VS.iload_n dX0_checkClaim_0 rfl ?_
  refine VS.callNN RX6 (ct_X6_isPlayer l _) dX0_checkClaim_1 mi_X6_isPlayer st_X6_isPlayer (by decide) (rmOk_D (by decide) (by decide)) (Nat.le_of_ble_eq_true rfl) rfl ?_
  refine VS.if_eq 15 dX0_checkClaim_4 (by decide) (fun hh => absurd hh (pl_y hp)) (fun _ => ?_)
  refine VS.iload_n dX0_checkClaim_7 rfl ?_
  refine VS.iload_n dX0_checkClaim_8 rfl ?_
  refine VS.callN (ct_X1_wrongEnds l _ _) dX0_checkClaim_9 mi_X1_wrongEnds st_X1_wrongEnds ml_X0_79 (rmOk_D (by decide) (by decide)) (Nat.le_of_ble_eq_true rfl) rfl ?_
  refine VS.goto 16 dX0_checkClaim_12 (by decide) ?_
  refine VS.istore dX0_checkClaim_16 (by decide) rfl ?_
  refine VS.iload dX0_checkClaim_18 rfl ?_
  refine VS.if_eq 26 dX0_checkClaim_20 (by decide) (fun _ => ?_) (fun hh => absurd (hw) hh)
  refine VS.iload_n dX0_checkClaim_26 rfl ?_
  refine VS.aload_n dX0_checkClaim_27 rfl ?_
  refine VS.callT (ct_X0_next l _) dX0_checkClaim_28 mi_X0_next im_X0_next sel_X0_next ml_X0_103 (by decide) rfl rfl (rmOk_D (by decide) (by decide)) (Nat.le_of_ble_eq_true rfl) rfl ?_
  refine VS.val (y := nI t) ht ?_
  refine VS.icmp_ne 37 dX0_checkClaim_31 (by decide) (fun _ => ?_) (fun hh => absurd hh (fun z => htp ((nI_eq (by omega) (by omega)).mp z).symm))
  refine VS.iload_n dX0_checkClaim_37 rfl ?_
  refine VS.iload_n dX0_checkClaim_38 rfl ?_
  refine VS.callN (ct_X1_roadBetween l _ _) dX0_checkClaim_39 mi_X1_roadBetween st_X1_roadBetween ml_X0_83 (rmOk_D (by decide) (by decide)) (Nat.le_of_ble_eq_true rfl) rfl ?_
  refine VS.val (y := bitE a b) rfl ?_
  refine VS.istore dX0_checkClaim_42 (by decide) rfl ?_
  refine VS.aload_n dX0_checkClaim_44 rfl ?_
  refine VS.iload_n dX0_checkClaim_45 rfl ?_
  refine VS.callT (ct_X0_seat l _ hp) dX0_checkClaim_46 mi_X0_seat im_X0_seat sel_X0_seat ml_X0_107 (by decide) rfl rfl (rmOk_D (by decide) (by decide)) (Nat.le_of_ble_eq_true rfl) rfl ?_
  refine VS.astore dX0_checkClaim_49 (by decide) rfl ?_
  refine VS.aload dX0_checkClaim_51 rfl ?_
  refine VS.sgetI 3 dX0_checkClaim_53 uw_X4 rfl (inG_p hp) 1 (shG_p hp) rfl (by decide) fl_X0_121 rfl ?_
  refine VS.aload dX0_checkClaim_56 rfl ?_
  refine VS.sgetI 3 dX0_checkClaim_58 uw_X4 rfl (inG_p hp) 2 (shG_p hp) rfl (by decide) fl_X0_124 rfl ?_
  refine VS.ior dX0_checkClaim_61 ?_
  refine VS.iload dX0_checkClaim_62 rfl ?_
  refine VS.iand dX0_checkClaim_64 ?_
  refine VS.if_eq 72 dX0_checkClaim_65 (by decide) (fun h_65 => ?_) (fun h_65 => ?_)
  · refine VS.iconst (0) dX0_checkClaim_72 rfl ?_
    refine VS.istore dX0_checkClaim_73 (by decide) rfl ?_
    refine VS.aload_n dX0_checkClaim_75 rfl ?_
    refine VS.callT (ct_X0_goesOn l _) dX0_checkClaim_76 mi_X0_goesOn im_X0_goesOn sel_X0_goesOn ml_X0_99 (by decide) rfl rfl (rmOk_D (by decide) (by decide)) (Nat.le_of_ble_eq_true rfl) rfl ?_
    refine VS.if_eq 97 dX0_checkClaim_79 (by decide) (fun h_79 => ?_) (fun h_79 => ?_)
    · refine VS.bipush (-5) dX0_checkClaim_97 rfl ?_
      exact VS.iret dX0_checkClaim_99 (rfl) (fun _ _ => rfl)
    · refine VS.iload dX0_checkClaim_82 rfl ?_
      refine VS.if_eq 97 dX0_checkClaim_84 (by decide) (fun _ => ?_) (fun hh => absurd (rfl) hh)
      refine VS.bipush (-5) dX0_checkClaim_97 rfl ?_
      exact VS.iret dX0_checkClaim_99 (rfl) (fun _ _ => rfl)
  · refine VS.iconst (1) dX0_checkClaim_68 rfl ?_
    refine VS.goto 73 dX0_checkClaim_69 (by decide) ?_
    refine VS.istore dX0_checkClaim_73 (by decide) rfl ?_
    refine VS.aload_n dX0_checkClaim_75 rfl ?_
    refine VS.callT (ct_X0_goesOn l _) dX0_checkClaim_76 mi_X0_goesOn im_X0_goesOn sel_X0_goesOn ml_X0_99 (by decide) rfl rfl (rmOk_D (by decide) (by decide)) (Nat.le_of_ble_eq_true rfl) rfl ?_
    refine VS.if_eq 97 dX0_checkClaim_79 (by decide) (fun h_79 => ?_) (fun h_79 => ?_)
    · refine VS.bipush (-5) dX0_checkClaim_97 rfl ?_
      exact VS.iret dX0_checkClaim_99 (rfl) (fun _ _ => rfl)
    · refine VS.iload dX0_checkClaim_82 rfl ?_
      refine VS.if_eq 97 dX0_checkClaim_84 (by decide) (fun hh => absurd hh (by decide)) (fun _ => ?_)
      refine VS.aload_n dX0_checkClaim_87 rfl ?_
      refine VS.sgetI 0 dX0_checkClaim_88 uw_X0 rfl (by decide) 4 (rfl) rfl (by decide) fl_X0_57 rfl ?_
      refine VS.iload dX0_checkClaim_91 rfl ?_
      refine VS.iand dX0_checkClaim_93 ?_
      refine VS.if_eq 100 dX0_checkClaim_94 (by decide) (fun hh => absurd hh (fun z => hn ⟨ite11 h_79, h_65, z⟩)) (fun _ => ?_)
      refine VS.bipush (-5) dX0_checkClaim_97 rfl ?_
      exact VS.iret dX0_checkClaim_99 (rfl) (fun _ _ => rfl)
def mkS (S : SS) (t : Nat) (r is : Int32) : SS := up2 (upC S (2 + t) (sayF (S (2 + t)) r (if is = 1 then 1 else 0))) 0 6 (S 0 6 + 1)
def mkV (S : SS) (t : Nat) (r is : Int32) : Int32 := pcI (sayF (S (2 + t)) r (if is = 1 then 1 else 0) 1 ||| sayF (S (2 + t)) r (if is = 1 then 1 else 0) 2)
theorem mk_seat (S : SS) (t : Nat) (r is : Int32) : mkS S t r is (2 + t) = sayF (S (2 + t)) r (if is = 1 then 1 else 0) := by
  unfold mkS up2; rw [upC_ne (by omega), upC_at]
theorem mk_6 (S : SS) (t : Nat) (q : Nat → Int32) : upC S (2 + t) q 0 6 = S 0 6 := by rw [upC_ne (by omega)]
set_option maxRecDepth 100000 in
set_option maxHeartbeats 4000000 in
theorem ct_X0_makeClaim (l : Launch) (S : SS) (a : Int32) (b : Int32) (is : Int32) {t : Nat} (ht : rem3 (S 0 6) = nI t) (h3 : t < 3) (hw : wrE a b = 0) (hi : is = 0 ∨ is = 1) (hs : stI S = 1) : CtS l yX0_makeClaim cX0_makeClaim 6 (some FieldType.int) (rmD 3) [.ref 0, .int a, .int b, .int is] 7 shG S (some (.int (mkV S t (bitE a b) is))) (mkS S t (bitE a b) is) := by
  refine CtF.of (own := RX0) [some (.ref 0), some (.int a), some (.int b), some (.int is), none, none] (by decide +kernel) rfl (fun _ => Nat.le_of_ble_eq_true rfl) (fun _ => rfl) ?_
  refine VS.iload_n dX0_makeClaim_0 rfl ?_
  refine VS.iload_n dX0_makeClaim_1 rfl ?_
  refine VS.callN (ct_X1_wrongEnds l _ _) dX0_makeClaim_2 mi_X1_wrongEnds st_X1_wrongEnds ml_X0_79 (rmOk_D (by decide) (by decide)) (Nat.le_of_ble_eq_true rfl) rfl ?_
  refine VS.istore dX0_makeClaim_5 (by decide) rfl ?_
  refine VS.iload dX0_makeClaim_7 rfl ?_
  refine VS.if_eq 15 dX0_makeClaim_9 (by decide) (fun _ => ?_) (fun hh => absurd (hw) hh)
  refine VS.iload_n dX0_makeClaim_15 rfl ?_
  refine VS.if_eq 27 dX0_makeClaim_16 (by decide) (fun h_16 => ?_) (fun h_16 => ?_)
  · refine VS.aload_n dX0_makeClaim_27 rfl ?_
    refine VS.callT (ct_X0_goesOn l _) dX0_makeClaim_28 mi_X0_goesOn im_X0_goesOn sel_X0_goesOn ml_X0_99 (by decide) rfl rfl (rmOk_D (by decide) (by decide)) (Nat.le_of_ble_eq_true rfl) rfl ?_
    refine VS.if_ne 37 dX0_makeClaim_31 (by decide) (fun _ => ?_) (fun hh => absurd hh (by rw [if_pos hs]; decide))
    refine VS.aload_n dX0_makeClaim_37 rfl ?_
    refine VS.aload_n dX0_makeClaim_38 rfl ?_
    refine VS.callT (ct_X0_next l _) dX0_makeClaim_39 mi_X0_next im_X0_next sel_X0_next ml_X0_103 (by decide) rfl rfl (rmOk_D (by decide) (by decide)) (Nat.le_of_ble_eq_true rfl) rfl ?_
    refine VS.val (y := nI t) ht ?_
    refine VS.callT (ct_X0_seat l _ h3) dX0_makeClaim_42 mi_X0_seat im_X0_seat sel_X0_seat ml_X0_107 (by decide) rfl rfl (rmOk_D (by decide) (by decide)) (Nat.le_of_ble_eq_true rfl) rfl ?_
    refine VS.astore dX0_makeClaim_45 (by decide) rfl ?_
    refine VS.aload dX0_makeClaim_47 rfl ?_
    refine VS.iload_n dX0_makeClaim_49 rfl ?_
    refine VS.iload_n dX0_makeClaim_50 rfl ?_
    refine VS.callN (ct_X1_roadBetween l _ _) dX0_makeClaim_51 mi_X1_roadBetween st_X1_roadBetween ml_X0_83 (rmOk_D (by decide) (by decide)) (Nat.le_of_ble_eq_true rfl) rfl ?_
    refine VS.val (y := bitE a b) rfl ?_
    refine VS.iload_n dX0_makeClaim_54 rfl ?_
    refine VS.iconst (1) dX0_makeClaim_55 rfl ?_
    refine VS.icmp_ne 63 dX0_makeClaim_56 (by decide) (fun h_56 => ?_) (fun h_56 => ?_)
    · refine VS.iconst (0) dX0_makeClaim_63 rfl ?_
      refine VS.val (y := if is = 1 then 1 else 0) (by first | exact (if_neg h_56).symm | exact (if_pos h_56).symm) ?_
      refine VS.callR (fun _ => 2 + t) (shi_p h3) (ct_X4_say l _ _ _) dX0_makeClaim_64 mi_X4_say im_X4_say sel_X4_say ml_X0_111 (by decide) rfl rfl (rmOk_D (by decide) (by decide)) (Nat.le_of_ble_eq_true rfl) rfl ?_
      refine VS.stt (S2 := upC S (2 + t) (sayF (S (2 + t)) (bitE a b) (if is = 1 then 1 else 0))) ((mg_one _ _ _).trans rfl) ?_
      refine VS.aload_n dX0_makeClaim_67 rfl ?_
      refine VS.dup dX0_makeClaim_68 rfl ?_
      refine VS.sgetI 0 dX0_makeClaim_69 uw_X0 rfl (by decide) 6 (rfl) rfl (by decide) fl_X0_63 rfl ?_
      refine VS.val (y := S 0 6) (mk_6 _ _ _) ?_
      refine VS.iconst (1) dX0_makeClaim_72 rfl ?_
      refine VS.iadd dX0_makeClaim_73 ?_
      refine VS.sput 0 dX0_makeClaim_74 uw_X0 tyX0 tyX0_ok nmX0 rfl (by decide) 6 (rfl) rfl (by decide) fl_X0_63 rfl rfl (rfl) (rfl) ?_
      refine VS.stt (S2 := mkS S t (bitE a b) is) rfl ?_
      refine VS.aload dX0_makeClaim_77 rfl ?_
      refine VS.callR (fun _ => 2 + t) (shi_p h3) (ct_X4_claims l _) dX0_makeClaim_79 mi_X4_claims im_X4_claims sel_X4_claims ml_X0_115 (by decide) rfl rfl (rmOk_D (by decide) (by decide)) (Nat.le_of_ble_eq_true rfl) rfl ?_
      refine VS.stt (S2 := mkS S t (bitE a b) is) ((mg_one _ _ _).trans (upC_id _ _)) ?_
      refine VS.val (y := mkV S t (bitE a b) is) (by show pcI (mkS S t (bitE a b) is (2 + t) 1 ||| mkS S t (bitE a b) is (2 + t) 2) = _; rw [mk_seat]; rfl) ?_
      exact VS.iret dX0_makeClaim_82 (rfl) (fun _ _ => rfl)
    · refine VS.iconst (1) dX0_makeClaim_59 rfl ?_
      refine VS.goto 64 dX0_makeClaim_60 (by decide) ?_
      refine VS.val (y := if is = 1 then 1 else 0) (by first | exact (if_neg h_56).symm | exact (if_pos h_56).symm) ?_
      refine VS.callR (fun _ => 2 + t) (shi_p h3) (ct_X4_say l _ _ _) dX0_makeClaim_64 mi_X4_say im_X4_say sel_X4_say ml_X0_111 (by decide) rfl rfl (rmOk_D (by decide) (by decide)) (Nat.le_of_ble_eq_true rfl) rfl ?_
      refine VS.stt (S2 := upC S (2 + t) (sayF (S (2 + t)) (bitE a b) (if is = 1 then 1 else 0))) ((mg_one _ _ _).trans rfl) ?_
      refine VS.aload_n dX0_makeClaim_67 rfl ?_
      refine VS.dup dX0_makeClaim_68 rfl ?_
      refine VS.sgetI 0 dX0_makeClaim_69 uw_X0 rfl (by decide) 6 (rfl) rfl (by decide) fl_X0_63 rfl ?_
      refine VS.val (y := S 0 6) (mk_6 _ _ _) ?_
      refine VS.iconst (1) dX0_makeClaim_72 rfl ?_
      refine VS.iadd dX0_makeClaim_73 ?_
      refine VS.sput 0 dX0_makeClaim_74 uw_X0 tyX0 tyX0_ok nmX0 rfl (by decide) 6 (rfl) rfl (by decide) fl_X0_63 rfl rfl (rfl) (rfl) ?_
      refine VS.stt (S2 := mkS S t (bitE a b) is) rfl ?_
      refine VS.aload dX0_makeClaim_77 rfl ?_
      refine VS.callR (fun _ => 2 + t) (shi_p h3) (ct_X4_claims l _) dX0_makeClaim_79 mi_X4_claims im_X4_claims sel_X4_claims ml_X0_115 (by decide) rfl rfl (rmOk_D (by decide) (by decide)) (Nat.le_of_ble_eq_true rfl) rfl ?_
      refine VS.stt (S2 := mkS S t (bitE a b) is) ((mg_one _ _ _).trans (upC_id _ _)) ?_
      refine VS.val (y := mkV S t (bitE a b) is) (by show pcI (mkS S t (bitE a b) is (2 + t) 1 ||| mkS S t (bitE a b) is (2 + t) 2) = _; rw [mk_seat]; rfl) ?_
      exact VS.iret dX0_makeClaim_82 (rfl) (fun _ _ => rfl)
  · refine VS.iload_n dX0_makeClaim_19 rfl ?_
    refine VS.iconst (1) dX0_makeClaim_20 rfl ?_
    refine VS.icmp_eq 27 dX0_makeClaim_21 (by decide) (fun _ => ?_) (fun hh => absurd (hi.resolve_left h_16) hh)
    refine VS.aload_n dX0_makeClaim_27 rfl ?_
    refine VS.callT (ct_X0_goesOn l _) dX0_makeClaim_28 mi_X0_goesOn im_X0_goesOn sel_X0_goesOn ml_X0_99 (by decide) rfl rfl (rmOk_D (by decide) (by decide)) (Nat.le_of_ble_eq_true rfl) rfl ?_
    refine VS.if_ne 37 dX0_makeClaim_31 (by decide) (fun _ => ?_) (fun hh => absurd hh (by rw [if_pos hs]; decide))
    refine VS.aload_n dX0_makeClaim_37 rfl ?_
    refine VS.aload_n dX0_makeClaim_38 rfl ?_
    refine VS.callT (ct_X0_next l _) dX0_makeClaim_39 mi_X0_next im_X0_next sel_X0_next ml_X0_103 (by decide) rfl rfl (rmOk_D (by decide) (by decide)) (Nat.le_of_ble_eq_true rfl) rfl ?_
    refine VS.val (y := nI t) ht ?_
    refine VS.callT (ct_X0_seat l _ h3) dX0_makeClaim_42 mi_X0_seat im_X0_seat sel_X0_seat ml_X0_107 (by decide) rfl rfl (rmOk_D (by decide) (by decide)) (Nat.le_of_ble_eq_true rfl) rfl ?_
    refine VS.astore dX0_makeClaim_45 (by decide) rfl ?_
    refine VS.aload dX0_makeClaim_47 rfl ?_
    refine VS.iload_n dX0_makeClaim_49 rfl ?_
    refine VS.iload_n dX0_makeClaim_50 rfl ?_
    refine VS.callN (ct_X1_roadBetween l _ _) dX0_makeClaim_51 mi_X1_roadBetween st_X1_roadBetween ml_X0_83 (rmOk_D (by decide) (by decide)) (Nat.le_of_ble_eq_true rfl) rfl ?_
    refine VS.val (y := bitE a b) rfl ?_
    refine VS.iload_n dX0_makeClaim_54 rfl ?_
    refine VS.iconst (1) dX0_makeClaim_55 rfl ?_
    refine VS.icmp_ne 63 dX0_makeClaim_56 (by decide) (fun h_56 => ?_) (fun h_56 => ?_)
    · refine VS.iconst (0) dX0_makeClaim_63 rfl ?_
      refine VS.val (y := if is = 1 then 1 else 0) (by first | exact (if_neg h_56).symm | exact (if_pos h_56).symm) ?_
      refine VS.callR (fun _ => 2 + t) (shi_p h3) (ct_X4_say l _ _ _) dX0_makeClaim_64 mi_X4_say im_X4_say sel_X4_say ml_X0_111 (by decide) rfl rfl (rmOk_D (by decide) (by decide)) (Nat.le_of_ble_eq_true rfl) rfl ?_
      refine VS.stt (S2 := upC S (2 + t) (sayF (S (2 + t)) (bitE a b) (if is = 1 then 1 else 0))) ((mg_one _ _ _).trans rfl) ?_
      refine VS.aload_n dX0_makeClaim_67 rfl ?_
      refine VS.dup dX0_makeClaim_68 rfl ?_
      refine VS.sgetI 0 dX0_makeClaim_69 uw_X0 rfl (by decide) 6 (rfl) rfl (by decide) fl_X0_63 rfl ?_
      refine VS.val (y := S 0 6) (mk_6 _ _ _) ?_
      refine VS.iconst (1) dX0_makeClaim_72 rfl ?_
      refine VS.iadd dX0_makeClaim_73 ?_
      refine VS.sput 0 dX0_makeClaim_74 uw_X0 tyX0 tyX0_ok nmX0 rfl (by decide) 6 (rfl) rfl (by decide) fl_X0_63 rfl rfl (rfl) (rfl) ?_
      refine VS.stt (S2 := mkS S t (bitE a b) is) rfl ?_
      refine VS.aload dX0_makeClaim_77 rfl ?_
      refine VS.callR (fun _ => 2 + t) (shi_p h3) (ct_X4_claims l _) dX0_makeClaim_79 mi_X4_claims im_X4_claims sel_X4_claims ml_X0_115 (by decide) rfl rfl (rmOk_D (by decide) (by decide)) (Nat.le_of_ble_eq_true rfl) rfl ?_
      refine VS.stt (S2 := mkS S t (bitE a b) is) ((mg_one _ _ _).trans (upC_id _ _)) ?_
      refine VS.val (y := mkV S t (bitE a b) is) (by show pcI (mkS S t (bitE a b) is (2 + t) 1 ||| mkS S t (bitE a b) is (2 + t) 2) = _; rw [mk_seat]; rfl) ?_
      exact VS.iret dX0_makeClaim_82 (rfl) (fun _ _ => rfl)
    · refine VS.iconst (1) dX0_makeClaim_59 rfl ?_
      refine VS.goto 64 dX0_makeClaim_60 (by decide) ?_
      refine VS.val (y := if is = 1 then 1 else 0) (by first | exact (if_neg h_56).symm | exact (if_pos h_56).symm) ?_
      refine VS.callR (fun _ => 2 + t) (shi_p h3) (ct_X4_say l _ _ _) dX0_makeClaim_64 mi_X4_say im_X4_say sel_X4_say ml_X0_111 (by decide) rfl rfl (rmOk_D (by decide) (by decide)) (Nat.le_of_ble_eq_true rfl) rfl ?_
      refine VS.stt (S2 := upC S (2 + t) (sayF (S (2 + t)) (bitE a b) (if is = 1 then 1 else 0))) ((mg_one _ _ _).trans rfl) ?_
      refine VS.aload_n dX0_makeClaim_67 rfl ?_
      refine VS.dup dX0_makeClaim_68 rfl ?_
      refine VS.sgetI 0 dX0_makeClaim_69 uw_X0 rfl (by decide) 6 (rfl) rfl (by decide) fl_X0_63 rfl ?_
      refine VS.val (y := S 0 6) (mk_6 _ _ _) ?_
      refine VS.iconst (1) dX0_makeClaim_72 rfl ?_
      refine VS.iadd dX0_makeClaim_73 ?_
      refine VS.sput 0 dX0_makeClaim_74 uw_X0 tyX0 tyX0_ok nmX0 rfl (by decide) 6 (rfl) rfl (by decide) fl_X0_63 rfl rfl (rfl) (rfl) ?_
      refine VS.stt (S2 := mkS S t (bitE a b) is) rfl ?_
      refine VS.aload dX0_makeClaim_77 rfl ?_
      refine VS.callR (fun _ => 2 + t) (shi_p h3) (ct_X4_claims l _) dX0_makeClaim_79 mi_X4_claims im_X4_claims sel_X4_claims ml_X0_115 (by decide) rfl rfl (rmOk_D (by decide) (by decide)) (Nat.le_of_ble_eq_true rfl) rfl ?_
      refine VS.stt (S2 := mkS S t (bitE a b) is) ((mg_one _ _ _).trans (upC_id _ _)) ?_
      refine VS.val (y := mkV S t (bitE a b) is) (by show pcI (mkS S t (bitE a b) is (2 + t) 1 ||| mkS S t (bitE a b) is (2 + t) 2) = _; rw [mk_seat]; rfl) ?_
      exact VS.iret dX0_makeClaim_82 (rfl) (fun _ _ => rfl)
def mkN (S : SS) (a b is : Int32) : Int32 := if wrE a b = 0 then (if is = 0 ∨ is = 1 then -5 else -2) else wrE a b
set_option maxRecDepth 100000 in
set_option maxHeartbeats 4000000 in
theorem ct_X0_makeClaim_no (l : Launch) (S : SS) (a : Int32) (b : Int32) (is : Int32) (hn : ¬ (wrE a b = 0 ∧ (is = 0 ∨ is = 1) ∧ stI S = 1)) : CtS l yX0_makeClaim cX0_makeClaim 6 (some FieldType.int) (rmD 3) [.ref 0, .int a, .int b, .int is] 7 shG S (some (.int (mkN S a b is))) (S) := by
  refine CtF.of (own := RX0) [some (.ref 0), some (.int a), some (.int b), some (.int is), none, none] (by decide +kernel) rfl (fun _ => Nat.le_of_ble_eq_true rfl) (fun _ => rfl) ?_
  refine VS.iload_n dX0_makeClaim_0 rfl ?_
  refine VS.iload_n dX0_makeClaim_1 rfl ?_
  refine VS.callN (ct_X1_wrongEnds l _ _) dX0_makeClaim_2 mi_X1_wrongEnds st_X1_wrongEnds ml_X0_79 (rmOk_D (by decide) (by decide)) (Nat.le_of_ble_eq_true rfl) rfl ?_
  refine VS.istore dX0_makeClaim_5 (by decide) rfl ?_
  refine VS.iload dX0_makeClaim_7 rfl ?_
  refine VS.if_eq 15 dX0_makeClaim_9 (by decide) (fun h_9 => ?_) (fun h_9 => ?_)
  · refine VS.iload_n dX0_makeClaim_15 rfl ?_
    refine VS.if_eq 27 dX0_makeClaim_16 (by decide) (fun h_16 => ?_) (fun h_16 => ?_)
    · refine VS.aload_n dX0_makeClaim_27 rfl ?_
      refine VS.callT (ct_X0_goesOn l _) dX0_makeClaim_28 mi_X0_goesOn im_X0_goesOn sel_X0_goesOn ml_X0_99 (by decide) rfl rfl (rmOk_D (by decide) (by decide)) (Nat.le_of_ble_eq_true rfl) rfl ?_
      refine VS.if_ne 37 dX0_makeClaim_31 (by decide) (fun hh => absurd (if_neg (fun z => hn ⟨h_9, (by first | exact Or.inl h_16 | exact Or.inr h_21), z⟩)) hh) (fun _ => ?_)
      refine VS.bipush (-5) dX0_makeClaim_34 rfl ?_
      exact VS.iret dX0_makeClaim_36 (by unfold mkN; rw [if_pos h_9, if_pos (by first | exact Or.inl h_16 | exact Or.inr h_21)]) (fun _ _ => rfl)
    · refine VS.iload_n dX0_makeClaim_19 rfl ?_
      refine VS.iconst (1) dX0_makeClaim_20 rfl ?_
      refine VS.icmp_eq 27 dX0_makeClaim_21 (by decide) (fun h_21 => ?_) (fun h_21 => ?_)
      · refine VS.aload_n dX0_makeClaim_27 rfl ?_
        refine VS.callT (ct_X0_goesOn l _) dX0_makeClaim_28 mi_X0_goesOn im_X0_goesOn sel_X0_goesOn ml_X0_99 (by decide) rfl rfl (rmOk_D (by decide) (by decide)) (Nat.le_of_ble_eq_true rfl) rfl ?_
        refine VS.if_ne 37 dX0_makeClaim_31 (by decide) (fun hh => absurd (if_neg (fun z => hn ⟨h_9, (by first | exact Or.inl h_16 | exact Or.inr h_21), z⟩)) hh) (fun _ => ?_)
        refine VS.bipush (-5) dX0_makeClaim_34 rfl ?_
        exact VS.iret dX0_makeClaim_36 (by unfold mkN; rw [if_pos h_9, if_pos (by first | exact Or.inl h_16 | exact Or.inr h_21)]) (fun _ _ => rfl)
      · refine VS.bipush (-2) dX0_makeClaim_24 rfl ?_
        exact VS.iret dX0_makeClaim_26 (by unfold mkN; rw [if_pos h_9, if_neg (fun z => z.elim h_16 h_21)]) (fun _ _ => rfl)
  · refine VS.iload dX0_makeClaim_12 rfl ?_
    exact VS.iret dX0_makeClaim_14 (by unfold mkN; rw [if_neg h_9]) (fun _ _ => rfl)
