/-! the class: a game -/
theorem shG_p {p : Nat} (h : p < 3) : shG (2 + p) = .inl (3, [none, none, none, none, none, none, none]) := by
  rcases (show p = 0 ∨ p = 1 ∨ p = 2 by omega) with rfl | rfl | rfl <;> rfl
theorem inG_p {p : Nat} (h : p < 3) : 2 + p < 7 := by omega
theorem shi_p {p : Nat} (h : p < 3) : ShI (fun _ => 2 + p) 1 shP 7 shG := ShI.one (by omega) (shG_p h)
/-- two players of a game -/
def two2 (a b : Nat) : Nat → Nat := fun i => if i = 0 then a else b
theorem shi_two {sh1 sh : Nat → Shp} {n a b : Nat} (ha : a < n) (hb : b < n) (hab : a ≠ b) (h0 : sh a = shR (two2 a b) (sh1 0)) (h1 : sh b = shR (two2 a b) (sh1 1)) : ShI (two2 a b) 2 sh1 n sh := by
  refine ⟨fun i hi => ?_, fun i j hi hj h => ?_, fun i hi => ?_⟩
  · rcases (show i = 0 ∨ i = 1 by omega) with rfl | rfl
    · exact ha
    · exact hb
  · rcases (show i = 0 ∨ i = 1 by omega) with rfl | rfl <;> rcases (show j = 0 ∨ j = 1 by omega) with rfl | rfl
    · rfl
    · exact absurd h hab
    · exact absurd h.symm hab
    · rfl
  · rcases (show i = 0 ∨ i = 1 by omega) with rfl | rfl
    · exact h0
    · exact h1
theorem shi_pp {p q : Nat} (hp : p < 3) (hq : q < 3) (h : p ≠ q) : ShI (two2 (2 + p) (2 + q)) 2 shP 7 shG := shi_two (by omega) (by omega) (by omega) (shG_p hp) (shG_p hq)
theorem mg_two {a b : Nat} (h : a ≠ b) (S2 S : SS) : mg (two2 a b) 2 S2 S = upC (upC S a (S2 0)) b (S2 1) := by
  funext k
  unfold mg upC two2
  by_cases h1 : k = a
  · subst h1; simp [List.range_succ, h]
  · by_cases h2 : k = b
    · subst h2
      have : (a == k) = false := by simpa using h
      simp [List.range_succ, this]
    · have e1 : (a == k) = false := by simpa using fun q => h1 q.symm
      have e2 : (b == k) = false := by simpa using fun q => h2 q.symm
      simp [List.range_succ, e1, e2, h1, h2]
def stI (S : SS) : Int32 := if S 0 3 = 0 then 0 else if S 0 7 = -6 ∧ S 0 6 < 150 then 1 else 2
set_option maxRecDepth 100000 in
set_option maxHeartbeats 4000000 in
theorem ct_X0_next (l : Launch) (S : SS)  : CtS l yX0_next cX0_next 1 (some FieldType.int) (rmD 0) [.ref 0] 7 shG S (some (.int (rem3 (S 0 6)))) (S) := by
  refine CtF.of (own := RX0) [some (.ref 0)] (by decide +kernel) rfl (fun _ => Nat.le_of_ble_eq_true rfl) (fun _ => rfl) ?_
  refine VS.aload_n dX0_next_0 rfl ?_
  refine VS.sgetI 0 dX0_next_1 uw_X0 rfl (by decide) 6 (rfl) rfl (by decide) fl_X0_63 rfl ?_
  refine VS.iconst (3) dX0_next_4 rfl ?_
  refine VS.irem dX0_next_5 (by decide) ?_
  exact VS.iret dX0_next_6 (rfl) (fun _ _ => rfl)
set_option maxRecDepth 100000 in
set_option maxHeartbeats 4000000 in
theorem ct_X0_stage (l : Launch) (S : SS)  : CtS l yX0_stage cX0_stage 1 (some FieldType.int) (rmD 0) [.ref 0] 7 shG S (some (.int (stI S))) (S) := by
  refine CtF.of (own := RX0) [some (.ref 0)] (by decide +kernel) rfl (fun _ => Nat.le_of_ble_eq_true rfl) (fun _ => rfl) ?_
  refine VS.aload_n dX0_stage_0 rfl ?_
  refine VS.sgetI 0 dX0_stage_1 uw_X0 rfl (by decide) 3 (rfl) rfl (by decide) fl_X0_53 rfl ?_
  refine VS.if_ne 9 dX0_stage_4 (by decide) (fun h_4 => ?_) (fun h_4 => ?_)
  · refine VS.aload_n dX0_stage_9 rfl ?_
    refine VS.sgetI 0 dX0_stage_10 uw_X0 rfl (by decide) 7 (rfl) rfl (by decide) fl_X0_15 rfl ?_
    refine VS.bipush (-6) dX0_stage_13 rfl ?_
    refine VS.icmp_ne 32 dX0_stage_15 (by decide) (fun h_15 => ?_) (fun h_15 => ?_)
    · refine VS.iconst (2) dX0_stage_32 rfl ?_
      exact VS.iret dX0_stage_33 (by unfold stI; rw [if_neg h_4]; first | rw [if_neg (fun q => h_15 q.1)] | rw [if_neg (fun q => absurd q.2 (Int32.not_lt.mpr h_25))] | rw [if_pos ⟨h_15, Int32.not_le.mp h_25⟩]) (fun _ _ => rfl)
    · refine VS.aload_n dX0_stage_18 rfl ?_
      refine VS.sgetI 0 dX0_stage_19 uw_X0 rfl (by decide) 6 (rfl) rfl (by decide) fl_X0_63 rfl ?_
      refine VS.sipush (150) dX0_stage_22 rfl ?_
      refine VS.icmp_ge 32 dX0_stage_25 (by decide) (fun h_25 => ?_) (fun h_25 => ?_)
      · refine VS.iconst (2) dX0_stage_32 rfl ?_
        exact VS.iret dX0_stage_33 (by unfold stI; rw [if_neg h_4]; first | rw [if_neg (fun q => h_15 q.1)] | rw [if_neg (fun q => absurd q.2 (Int32.not_lt.mpr h_25))] | rw [if_pos ⟨h_15, Int32.not_le.mp h_25⟩]) (fun _ _ => rfl)
      · refine VS.iconst (1) dX0_stage_28 rfl ?_
        refine VS.goto 33 dX0_stage_29 (by decide) ?_
        exact VS.iret dX0_stage_33 (by unfold stI; rw [if_neg h_4]; first | rw [if_neg (fun q => h_15 q.1)] | rw [if_neg (fun q => absurd q.2 (Int32.not_lt.mpr h_25))] | rw [if_pos ⟨h_15, Int32.not_le.mp h_25⟩]) (fun _ _ => rfl)
  · refine VS.iconst (0) dX0_stage_7 rfl ?_
    exact VS.iret dX0_stage_8 (by unfold stI; rw [if_pos h_4]) (fun _ _ => rfl)
set_option maxRecDepth 100000 in
set_option maxHeartbeats 4000000 in
theorem ct_X0_goesOn (l : Launch) (S : SS)  : CtS l yX0_goesOn cX0_goesOn 1 (some FieldType.boolean) (rmD 1) [.ref 0] 7 shG S (some (.int (if stI S = 1 then 1 else 0))) (S) := by
  refine CtF.of (own := RX0) [some (.ref 0)] (by decide +kernel) rfl (fun _ => Nat.le_of_ble_eq_true rfl) (fun _ => rfl) ?_
  refine VS.aload_n dX0_goesOn_0 rfl ?_
  refine VS.callT (ct_X0_stage l _) dX0_goesOn_1 mi_X0_stage im_X0_stage sel_X0_stage ml_X0_168 (by decide) rfl rfl (rmOk_D (by decide) (by decide)) (Nat.le_of_ble_eq_true rfl) rfl ?_
  refine VS.iconst (1) dX0_goesOn_4 rfl ?_
  refine VS.icmp_ne 12 dX0_goesOn_5 (by decide) (fun h_5 => ?_) (fun h_5 => ?_)
  · refine VS.iconst (0) dX0_goesOn_12 rfl ?_
    exact VS.zret dX0_goesOn_13 (by first | rfl | exact nb_ite) (by first | rw [if_neg h_5] | rw [if_pos h_5]) (fun _ _ => rfl)
  · refine VS.iconst (1) dX0_goesOn_8 rfl ?_
    refine VS.goto 13 dX0_goesOn_9 (by decide) ?_
    exact VS.zret dX0_goesOn_13 (by first | rfl | exact nb_ite) (by first | rw [if_neg h_5] | rw [if_pos h_5]) (fun _ _ => rfl)
set_option maxRecDepth 100000 in
set_option maxHeartbeats 4000000 in
theorem ct_X0_seat (l : Launch) (S : SS)  {p : Nat} (hp : p < 3) : CtS l yX0_seat cX0_seat 2 (some (FieldType.object "LiarMaps$Player")) (rmD 0) [.ref 0, .int (nI p)] 7 shG S (some (.ref (2 + p))) (S) := by
  refine CtF.of (own := RX0) [some (.ref 0), some (.int (nI p))] (by decide +kernel) rfl (fun _ => Nat.le_of_ble_eq_true rfl) (fun _ => rfl) ?_
  rcases (show p = 0 ∨ p = 1 ∨ p = 2 by omega) with rfl | rfl | rfl
  · refine VS.iload_n dX0_seat_0 rfl ?_
    refine VS.if_ne 9 dX0_seat_1 (by decide) (fun hh => absurd (rfl) hh) (fun _ => ?_)
    refine VS.aload_n dX0_seat_4 rfl ?_
    refine VS.sgetR 0 dX0_seat_5 uw_X0 rfl (by decide) 8 (rfl) rfl (by decide) fl_X0_22 rfl ?_
    exact VS.aret dX0_seat_8 (rfl) (fun _ _ => rfl)
  · refine VS.iload_n dX0_seat_0 rfl ?_
    refine VS.if_ne 9 dX0_seat_1 (by decide) (fun _ => ?_) (fun hh => absurd hh (by decide))
    refine VS.iload_n dX0_seat_9 rfl ?_
    refine VS.iconst (1) dX0_seat_10 rfl ?_
    refine VS.icmp_ne 21 dX0_seat_11 (by decide) (fun hh => absurd (rfl) hh) (fun _ => ?_)
    refine VS.aload_n dX0_seat_14 rfl ?_
    refine VS.sgetR 0 dX0_seat_15 uw_X0 rfl (by decide) 9 (rfl) rfl (by decide) fl_X0_26 rfl ?_
    refine VS.goto 25 dX0_seat_18 (by decide) ?_
    exact VS.aret dX0_seat_25 (rfl) (fun _ _ => rfl)
  · refine VS.iload_n dX0_seat_0 rfl ?_
    refine VS.if_ne 9 dX0_seat_1 (by decide) (fun _ => ?_) (fun hh => absurd hh (by decide))
    refine VS.iload_n dX0_seat_9 rfl ?_
    refine VS.iconst (1) dX0_seat_10 rfl ?_
    refine VS.icmp_ne 21 dX0_seat_11 (by decide) (fun _ => ?_) (fun hh => absurd hh (by decide))
    refine VS.aload_n dX0_seat_21 rfl ?_
    refine VS.sgetR 0 dX0_seat_22 uw_X0 rfl (by decide) 10 (rfl) rfl (by decide) fl_X0_29 rfl ?_
    exact VS.aret dX0_seat_25 (rfl) (fun _ _ => rfl)
set_option maxRecDepth 100000 in
set_option maxHeartbeats 4000000 in
theorem ct_X0_setting (l : Launch) (S : SS)  {k : Nat} (hk : k < 4) : CtS l yX0_setting cX0_setting 2 (some FieldType.int) (rmD 0) [.ref 0, .int (nI k)] 7 shG S (some (.int (S 1 k))) (S) := by
  refine CtF.of (own := RX0) [some (.ref 0), some (.int (nI k))] (by decide +kernel) rfl (fun _ => Nat.le_of_ble_eq_true rfl) (fun _ => rfl) ?_
  refine VS.iload_n dX0_setting_0 rfl ?_
  refine VS.if_lt 22 dX0_setting_1 (by decide) (fun hh => absurd hh (nI_pos (by omega))) (fun _ => ?_)
  refine VS.iload_n dX0_setting_4 rfl ?_
  refine VS.aload_n dX0_setting_5 rfl ?_
  refine VS.sgetR 0 dX0_setting_6 uw_X0 rfl (by decide) 0 (rfl) rfl (by decide) fl_X0_9 rfl ?_
  refine VS.salen (v := 4) .int dX0_setting_9 (by decide) rfl (fun _ => rfl) rfl ?_
  refine VS.icmp_ge 22 dX0_setting_10 (by decide) (fun hh => absurd hh (nI_ge (b := 4) hk (by decide))) (fun _ => ?_)
  refine VS.aload_n dX0_setting_13 rfl ?_
  refine VS.sgetR 0 dX0_setting_14 uw_X0 rfl (by decide) 0 (rfl) rfl (by decide) fl_X0_9 rfl ?_
  refine VS.iload_n dX0_setting_17 rfl ?_
  refine VS.siald (k) dX0_setting_18 (by decide) rfl (rfl) (by omega) (by decide) ?_
  refine VS.goto 23 dX0_setting_19 (by decide) ?_
  exact VS.iret dX0_setting_23 (rfl) (fun _ _ => rfl)
set_option maxRecDepth 100000 in
set_option maxHeartbeats 4000000 in
theorem ct_X0_toldOf (l : Launch) (S : SS)  {k : Nat} (hk : k < 8) : CtS l yX0_toldOf cX0_toldOf 2 (some FieldType.int) (rmD 0) [.ref 0, .int (nI k)] 7 shG S (some (.int (S 5 k))) (S) := by
  refine CtF.of (own := RX0) [some (.ref 0), some (.int (nI k))] (by decide +kernel) rfl (fun _ => Nat.le_of_ble_eq_true rfl) (fun _ => rfl) ?_
  refine VS.iload_n dX0_toldOf_0 rfl ?_
  refine VS.if_lt 22 dX0_toldOf_1 (by decide) (fun hh => absurd hh (nI_pos (by omega))) (fun _ => ?_)
  refine VS.iload_n dX0_toldOf_4 rfl ?_
  refine VS.aload_n dX0_toldOf_5 rfl ?_
  refine VS.sgetR 0 dX0_toldOf_6 uw_X0 rfl (by decide) 11 (rfl) rfl (by decide) fl_X0_34 rfl ?_
  refine VS.salen (v := 8) .int dX0_toldOf_9 (by decide) rfl (fun _ => rfl) rfl ?_
  refine VS.icmp_ge 22 dX0_toldOf_10 (by decide) (fun hh => absurd hh (nI_ge (b := 8) hk (by decide))) (fun _ => ?_)
  refine VS.aload_n dX0_toldOf_13 rfl ?_
  refine VS.sgetR 0 dX0_toldOf_14 uw_X0 rfl (by decide) 11 (rfl) rfl (by decide) fl_X0_34 rfl ?_
  refine VS.iload_n dX0_toldOf_17 rfl ?_
  refine VS.siald (k) dX0_toldOf_18 (by decide) rfl (rfl) (by omega) (by decide) ?_
  refine VS.goto 24 dX0_toldOf_19 (by decide) ?_
  exact VS.iret dX0_toldOf_24 (rfl) (fun _ _ => rfl)
set_option maxRecDepth 100000 in
set_option maxHeartbeats 4000000 in
theorem ct_X0_dugAs (l : Launch) (S : SS)  {k d : Nat} (hk : k < d) (hd : S 0 13 = nI d) (hd2 : d ≤ 150) : CtS l yX0_dugAs cX0_dugAs 2 (some FieldType.int) (rmD 0) [.ref 0, .int (nI k)] 7 shG S (some (.int (S 6 k))) (S) := by
  refine CtF.of (own := RX0) [some (.ref 0), some (.int (nI k))] (by decide +kernel) rfl (fun _ => Nat.le_of_ble_eq_true rfl) (fun _ => rfl) ?_
  refine VS.iload_n dX0_dugAs_0 rfl ?_
  refine VS.if_lt 30 dX0_dugAs_1 (by decide) (fun hh => absurd hh (nI_pos (by omega))) (fun _ => ?_)
  refine VS.iload_n dX0_dugAs_4 rfl ?_
  refine VS.aload_n dX0_dugAs_5 rfl ?_
  refine VS.sgetI 0 dX0_dugAs_6 uw_X0 rfl (by decide) 13 (rfl) rfl (by decide) fl_X0_70 rfl ?_
  refine VS.val (y := nI d) hd ?_
  refine VS.icmp_ge 30 dX0_dugAs_9 (by decide) (fun hh => absurd hh (nI_ge hk (by omega))) (fun _ => ?_)
  refine VS.iload_n dX0_dugAs_12 rfl ?_
  refine VS.aload_n dX0_dugAs_13 rfl ?_
  refine VS.sgetR 0 dX0_dugAs_14 uw_X0 rfl (by decide) 12 (rfl) rfl (by decide) fl_X0_37 rfl ?_
  refine VS.salen (v := 150) .int dX0_dugAs_17 (by decide) rfl (fun _ => rfl) rfl ?_
  refine VS.icmp_ge 30 dX0_dugAs_18 (by decide) (fun hh => absurd hh (nI_ge (b := 150) (by omega) (by decide))) (fun _ => ?_)
  refine VS.aload_n dX0_dugAs_21 rfl ?_
  refine VS.sgetR 0 dX0_dugAs_22 uw_X0 rfl (by decide) 12 (rfl) rfl (by decide) fl_X0_37 rfl ?_
  refine VS.iload_n dX0_dugAs_25 rfl ?_
  refine VS.siald (k) dX0_dugAs_26 (by decide) rfl (rfl) (by omega) (by decide) ?_
  refine VS.goto 31 dX0_dugAs_27 (by decide) ?_
  exact VS.iret dX0_dugAs_31 (rfl) (fun _ _ => rfl)
set_option maxRecDepth 100000 in
set_option maxHeartbeats 4000000 in
theorem ct_X0_dugAs_no (l : Launch) (S : SS) (r : Int32) {d : Nat} (hr : ¬ (0 ≤ r ∧ r < nI d)) (hd : S 0 13 = nI d) : CtS l yX0_dugAs cX0_dugAs 2 (some FieldType.int) (rmD 0) [.ref 0, .int r] 7 shG S (some (.int (-1))) (S) := by
  refine CtF.of (own := RX0) [some (.ref 0), some (.int r)] (by decide +kernel) rfl (fun _ => Nat.le_of_ble_eq_true rfl) (fun _ => rfl) ?_
  refine VS.iload_n dX0_dugAs_0 rfl ?_
  refine VS.if_lt 30 dX0_dugAs_1 (by decide) (fun h_1 => ?_) (fun h_1 => ?_)
  · refine VS.iconst (-1) dX0_dugAs_30 rfl ?_
    exact VS.iret dX0_dugAs_31 (rfl) (fun _ _ => rfl)
  · refine VS.iload_n dX0_dugAs_4 rfl ?_
    refine VS.aload_n dX0_dugAs_5 rfl ?_
    refine VS.sgetI 0 dX0_dugAs_6 uw_X0 rfl (by decide) 13 (rfl) rfl (by decide) fl_X0_70 rfl ?_
    refine VS.val (y := nI d) hd ?_
    refine VS.icmp_ge 30 dX0_dugAs_9 (by decide) (fun _ => ?_) (fun hh => absurd (Decidable.byContradiction fun q => hr ⟨Int32.not_lt.mp h_1, Int32.not_le.mp q⟩) hh)
    refine VS.iconst (-1) dX0_dugAs_30 rfl ?_
    exact VS.iret dX0_dugAs_31 (rfl) (fun _ _ => rfl)
def isI (a b : Int32) : Int32 := if a &&& b = 0 then 0 else 1
def seenV (road seen roads : Int32) : Int32 := if road &&& seen = 0 then -6 else isI road roads
def thirdV (p : Int32) : Int32 := (153391689 <<< (p &&& 31)) &&& 268435455
set_option maxRecDepth 100000 in
set_option maxHeartbeats 4000000 in
theorem ct_X0_seenOf (l : Launch) (S : SS) (a : Int32) (b : Int32) : CtS l yX0_seenOf cX0_seenOf 3 (some FieldType.int) (rmD 1) [.ref 0, .int a, .int b] 7 shG S (some (.int (seenV a b (S 0 1)))) (S) := by
  refine CtF.of (own := RX0) [some (.ref 0), some (.int a), some (.int b)] (by decide +kernel) rfl (fun _ => Nat.le_of_ble_eq_true rfl) (fun _ => rfl) ?_
  refine VS.iload_n dX0_seenOf_0 rfl ?_
  refine VS.iload_n dX0_seenOf_1 rfl ?_
  refine VS.iand dX0_seenOf_2 ?_
  refine VS.if_eq 17 dX0_seenOf_3 (by decide) (fun h_3 => ?_) (fun h_3 => ?_)
  · refine VS.bipush (-6) dX0_seenOf_17 rfl ?_
    exact VS.iret dX0_seenOf_19 (by unfold seenV; first | rw [if_pos h_3] | rw [if_neg h_3] <;> rfl) (fun _ _ => rfl)
  · refine VS.iload_n dX0_seenOf_6 rfl ?_
    refine VS.aload_n dX0_seenOf_7 rfl ?_
    refine VS.sgetI 0 dX0_seenOf_8 uw_X0 rfl (by decide) 1 (rfl) rfl (by decide) fl_X0_47 rfl ?_
    refine VS.callNN RX6 (ct_X6_isIn l _ _) dX0_seenOf_11 mi_X6_isIn st_X6_isIn (by decide) (rmOk_D (by decide) (by decide)) (Nat.le_of_ble_eq_true rfl) rfl ?_
    refine VS.goto 19 dX0_seenOf_14 (by decide) ?_
    exact VS.iret dX0_seenOf_19 (by unfold seenV; first | rw [if_pos h_3] | rw [if_neg h_3] <;> rfl) (fun _ _ => rfl)
set_option maxRecDepth 100000 in
set_option maxHeartbeats 4000000 in
theorem ct_X0_knownTo (l : Launch) (S : SS) (p : Int32) : CtS l yX0_knownTo cX0_knownTo 2 (some FieldType.int) (rmD 1) [.ref 0, .int p] 7 shG S (some (.int (S 0 5 ||| thirdV p))) (S) := by
  refine CtF.of (own := RX0) [some (.ref 0), some (.int p)] (by decide +kernel) rfl (fun _ => Nat.le_of_ble_eq_true rfl) (fun _ => rfl) ?_
  refine VS.aload_n dX0_knownTo_0 rfl ?_
  refine VS.sgetI 0 dX0_knownTo_1 uw_X0 rfl (by decide) 5 (rfl) rfl (by decide) fl_X0_60 rfl ?_
  refine VS.iload_n dX0_knownTo_4 rfl ?_
  refine VS.callN (ct_X1_thirdOf l _) dX0_knownTo_5 mi_X1_thirdOf st_X1_thirdOf ml_X0_174 (rmOk_D (by decide) (by decide)) (Nat.le_of_ble_eq_true rfl) rfl ?_
  refine VS.ior dX0_knownTo_8 ?_
  exact VS.iret dX0_knownTo_9 (rfl) (fun _ _ => rfl)
def sayI (q : Nat → Int32) (b : Int32) : Int32 := if b = 0 then q 2 else q 1
def clV (S : SS) (a b : Int32) : Int32 := isI a (sayI (S 2) b) ||| isI a (sayI (S 3) b) <<< (1 &&& 31) ||| isI a (sayI (S 4) b) <<< (2 &&& 31)
set_option maxRecDepth 100000 in
set_option maxHeartbeats 4000000 in
theorem ct_X0_claimants (l : Launch) (S : SS) (a : Int32) (b : Int32) : CtS l yX0_claimants cX0_claimants 3 (some FieldType.int) (rmD 2) [.ref 0, .int a, .int b] 7 shG S (some (.int (clV S a b))) (S) := by
  refine CtF.of (own := RX0) [some (.ref 0), some (.int a), some (.int b)] (by decide +kernel) rfl (fun _ => Nat.le_of_ble_eq_true rfl) (fun _ => rfl) ?_
  refine VS.iload_n dX0_claimants_0 rfl ?_
  refine VS.aload_n dX0_claimants_1 rfl ?_
  refine VS.sgetR 0 dX0_claimants_2 uw_X0 rfl (by decide) 8 (rfl) rfl (by decide) fl_X0_22 rfl ?_
  refine VS.iload_n dX0_claimants_5 rfl ?_
  refine VS.callR (fun _ => 2 + 0) (shi_p (p := 0) (by decide)) (ct_X4_saying l _ _) dX0_claimants_6 mi_X4_saying im_X4_saying sel_X4_saying ml_X0_177 (by decide) rfl rfl (rmOk_D (by decide) (by decide)) (Nat.le_of_ble_eq_true rfl) rfl ?_
  refine VS.stt (S2 := S) ((mg_one _ _ _).trans (upC_id _ _)) ?_
  refine VS.val (y := sayI (S 2) b) rfl ?_
  refine VS.callNN RX6 (ct_X6_isIn l _ _) dX0_claimants_9 mi_X6_isIn st_X6_isIn (by decide) (rmOk_D (by decide) (by decide)) (Nat.le_of_ble_eq_true rfl) rfl ?_
  refine VS.iload_n dX0_claimants_12 rfl ?_
  refine VS.aload_n dX0_claimants_13 rfl ?_
  refine VS.sgetR 0 dX0_claimants_14 uw_X0 rfl (by decide) 9 (rfl) rfl (by decide) fl_X0_26 rfl ?_
  refine VS.iload_n dX0_claimants_17 rfl ?_
  refine VS.callR (fun _ => 2 + 1) (shi_p (p := 1) (by decide)) (ct_X4_saying l _ _) dX0_claimants_18 mi_X4_saying im_X4_saying sel_X4_saying ml_X0_177 (by decide) rfl rfl (rmOk_D (by decide) (by decide)) (Nat.le_of_ble_eq_true rfl) rfl ?_
  refine VS.stt (S2 := S) ((mg_one _ _ _).trans (upC_id _ _)) ?_
  refine VS.val (y := sayI (S 3) b) rfl ?_
  refine VS.callNN RX6 (ct_X6_isIn l _ _) dX0_claimants_21 mi_X6_isIn st_X6_isIn (by decide) (rmOk_D (by decide) (by decide)) (Nat.le_of_ble_eq_true rfl) rfl ?_
  refine VS.iconst (1) dX0_claimants_24 rfl ?_
  refine VS.ishl dX0_claimants_25 ?_
  refine VS.ior dX0_claimants_26 ?_
  refine VS.iload_n dX0_claimants_27 rfl ?_
  refine VS.aload_n dX0_claimants_28 rfl ?_
  refine VS.sgetR 0 dX0_claimants_29 uw_X0 rfl (by decide) 10 (rfl) rfl (by decide) fl_X0_29 rfl ?_
  refine VS.iload_n dX0_claimants_32 rfl ?_
  refine VS.callR (fun _ => 2 + 2) (shi_p (p := 2) (by decide)) (ct_X4_saying l _ _) dX0_claimants_33 mi_X4_saying im_X4_saying sel_X4_saying ml_X0_177 (by decide) rfl rfl (rmOk_D (by decide) (by decide)) (Nat.le_of_ble_eq_true rfl) rfl ?_
  refine VS.stt (S2 := S) ((mg_one _ _ _).trans (upC_id _ _)) ?_
  refine VS.val (y := sayI (S 4) b) rfl ?_
  refine VS.callNN RX6 (ct_X6_isIn l _ _) dX0_claimants_36 mi_X6_isIn st_X6_isIn (by decide) (rmOk_D (by decide) (by decide)) (Nat.le_of_ble_eq_true rfl) rfl ?_
  refine VS.iconst (2) dX0_claimants_39 rfl ?_
  refine VS.ishl dX0_claimants_40 ?_
  refine VS.ior dX0_claimants_41 ?_
  exact VS.iret dX0_claimants_42 (rfl) (fun _ _ => rfl)
def shlV (S : SS) : Int32 := pcI (lieF (S 2) (S 0 1) &&& S 0 5) + pcI (lieF (S 3) (S 0 1) &&& S 0 5) + pcI (lieF (S 4) (S 0 1) &&& S 0 5)
set_option maxRecDepth 100000 in
set_option maxHeartbeats 4000000 in
theorem ct_X0_shownLies (l : Launch) (S : SS)  : CtS l yX0_shownLies cX0_shownLies 1 (some FieldType.int) (rmD 2) [.ref 0] 7 shG S (some (.int (shlV S))) (S) := by
  refine CtF.of (own := RX0) [some (.ref 0)] (by decide +kernel) rfl (fun _ => Nat.le_of_ble_eq_true rfl) (fun _ => rfl) ?_
  refine VS.aload_n dX0_shownLies_0 rfl ?_
  refine VS.sgetR 0 dX0_shownLies_1 uw_X0 rfl (by decide) 8 (rfl) rfl (by decide) fl_X0_22 rfl ?_
  refine VS.aload_n dX0_shownLies_4 rfl ?_
  refine VS.sgetI 0 dX0_shownLies_5 uw_X0 rfl (by decide) 1 (rfl) rfl (by decide) fl_X0_47 rfl ?_
  refine VS.aload_n dX0_shownLies_8 rfl ?_
  refine VS.sgetI 0 dX0_shownLies_9 uw_X0 rfl (by decide) 5 (rfl) rfl (by decide) fl_X0_60 rfl ?_
  refine VS.callR (fun _ => 2 + 0) (shi_p (p := 0) (by decide)) (ct_X4_shownLies l _ _ _) dX0_shownLies_12 mi_X4_shownLies im_X4_shownLies sel_X4_shownLies ml_X0_181 (by decide) rfl rfl (rmOk_D (by decide) (by decide)) (Nat.le_of_ble_eq_true rfl) rfl ?_
  refine VS.stt (S2 := S) ((mg_one _ _ _).trans (upC_id _ _)) ?_
  refine VS.aload_n dX0_shownLies_15 rfl ?_
  refine VS.sgetR 0 dX0_shownLies_16 uw_X0 rfl (by decide) 9 (rfl) rfl (by decide) fl_X0_26 rfl ?_
  refine VS.aload_n dX0_shownLies_19 rfl ?_
  refine VS.sgetI 0 dX0_shownLies_20 uw_X0 rfl (by decide) 1 (rfl) rfl (by decide) fl_X0_47 rfl ?_
  refine VS.aload_n dX0_shownLies_23 rfl ?_
  refine VS.sgetI 0 dX0_shownLies_24 uw_X0 rfl (by decide) 5 (rfl) rfl (by decide) fl_X0_60 rfl ?_
  refine VS.callR (fun _ => 2 + 1) (shi_p (p := 1) (by decide)) (ct_X4_shownLies l _ _ _) dX0_shownLies_27 mi_X4_shownLies im_X4_shownLies sel_X4_shownLies ml_X0_181 (by decide) rfl rfl (rmOk_D (by decide) (by decide)) (Nat.le_of_ble_eq_true rfl) rfl ?_
  refine VS.stt (S2 := S) ((mg_one _ _ _).trans (upC_id _ _)) ?_
  refine VS.iadd dX0_shownLies_30 ?_
  refine VS.aload_n dX0_shownLies_31 rfl ?_
  refine VS.sgetR 0 dX0_shownLies_32 uw_X0 rfl (by decide) 10 (rfl) rfl (by decide) fl_X0_29 rfl ?_
  refine VS.aload_n dX0_shownLies_35 rfl ?_
  refine VS.sgetI 0 dX0_shownLies_36 uw_X0 rfl (by decide) 1 (rfl) rfl (by decide) fl_X0_47 rfl ?_
  refine VS.aload_n dX0_shownLies_39 rfl ?_
  refine VS.sgetI 0 dX0_shownLies_40 uw_X0 rfl (by decide) 5 (rfl) rfl (by decide) fl_X0_60 rfl ?_
  refine VS.callR (fun _ => 2 + 2) (shi_p (p := 2) (by decide)) (ct_X4_shownLies l _ _ _) dX0_shownLies_43 mi_X4_shownLies im_X4_shownLies sel_X4_shownLies ml_X0_181 (by decide) rfl rfl (rmOk_D (by decide) (by decide)) (Nat.le_of_ble_eq_true rfl) rfl ?_
  refine VS.stt (S2 := S) ((mg_one _ _ _).trans (upC_id _ _)) ?_
  refine VS.iadd dX0_shownLies_46 ?_
  exact VS.iret dX0_shownLies_47 (rfl) (fun _ _ => rfl)
set_option maxRecDepth 100000 in
set_option maxHeartbeats 4000000 in
theorem ct_X0_moreKnownBy (l : Launch) (S : SS) (a : Int32) : CtS l yX0_moreKnownBy cX0_moreKnownBy 2 (some FieldType.int) (rmD 3) [.ref 0, .int a] 7 shG S (some (.int (pcI (KK (S 0 1) (S 0 5 ||| a)) - pcI (S 0 5)))) (S) := by
  refine CtF.of (own := RX0) [some (.ref 0), some (.int a)] (by decide +kernel) rfl (fun _ => Nat.le_of_ble_eq_true rfl) (fun _ => rfl) ?_
  refine VS.aload_n dX0_moreKnownBy_0 rfl ?_
  refine VS.sgetI 0 dX0_moreKnownBy_1 uw_X0 rfl (by decide) 1 (rfl) rfl (by decide) fl_X0_47 rfl ?_
  refine VS.aload_n dX0_moreKnownBy_4 rfl ?_
  refine VS.sgetI 0 dX0_moreKnownBy_5 uw_X0 rfl (by decide) 5 (rfl) rfl (by decide) fl_X0_60 rfl ?_
  refine VS.iload_n dX0_moreKnownBy_8 rfl ?_
  refine VS.ior dX0_moreKnownBy_9 ?_
  refine VS.callN (ct_X1_withWhatFollows l _ _) dX0_moreKnownBy_10 mi_X1_withWhatFollows st_X1_withWhatFollows ml_X0_96 (rmOk_D (by decide) (by decide)) (Nat.le_of_ble_eq_true rfl) rfl ?_
  refine VS.callN (ct_J6_bitCount_0f7a4 l _) dX0_moreKnownBy_13 mi_J6_bitCount_0f7a4 st_J6_bitCount_0f7a4 ml_X0_86 (rmOk_D (by decide) (by decide)) (Nat.le_of_ble_eq_true rfl) rfl ?_
  refine VS.aload_n dX0_moreKnownBy_16 rfl ?_
  refine VS.sgetI 0 dX0_moreKnownBy_17 uw_X0 rfl (by decide) 5 (rfl) rfl (by decide) fl_X0_60 rfl ?_
  refine VS.callN (ct_J6_bitCount_0f7a4 l _) dX0_moreKnownBy_20 mi_J6_bitCount_0f7a4 st_J6_bitCount_0f7a4 ml_X0_86 (rmOk_D (by decide) (by decide)) (Nat.le_of_ble_eq_true rfl) rfl ?_
  refine VS.isub dX0_moreKnownBy_23 ?_
  exact VS.iret dX0_moreKnownBy_24 (rfl) (fun _ _ => rfl)
def fitD (S : SS) (a : Int32) : Decidable (∀ j, j < 8 → (S 5 j = -6 ∨ S 5 j = distI (S 0 1) a (nI j))) := Nat.decidableBallLT 8 (fun j _ => S 5 j = -6 ∨ S 5 j = distI (S 0 1) a (nI j))
def fitI (S : SS) (a : Int32) : Int32 := @ite Int32 (∀ j, j < 8 → (S 5 j = -6 ∨ S 5 j = distI (S 0 1) a (nI j))) (fitD S a) 1 0
theorem fitI_01 {S : SS} {a : Int32} : narrow .boolean (.int (fitI S a)) = .int (fitI S a) := by
  unfold fitI; split <;> rfl
set_option maxRecDepth 100000 in
set_option maxHeartbeats 4000000 in
theorem ct_X0_fitsWhatWasTold (l : Launch) (S : SS) (a : Int32) : CtS l yX0_fitsWhatWasTold cX0_fitsWhatWasTold 3 (some FieldType.boolean) (rmD 4) [.ref 0, .int a] 7 shG S (some (.int (fitI S a))) (S) := by
  refine CtF.of (own := RX0) [some (.ref 0), some (.int a), none] (by decide +kernel) rfl (fun _ => Nat.le_of_ble_eq_true rfl) (fun _ => rfl) ?_
  refine VS.iconst (0) dX0_fitsWhatWasTold_0 rfl ?_
  refine VS.istore_n dX0_fitsWhatWasTold_1 (by decide) rfl ?_
  refine VS.forSH (fun i => ∀ j, j < i → (S 5 j = -6 ∨ S 5 j = distI (S 0 1) a (nI j))) (i0 := 0) (8) (fun _ => S) (fun i => [some (.ref 0), some (.int a), some (.int (nI i))]) (by decide) (fun j hj => absurd hj (Nat.not_lt_zero j)) (fun hy => ?_) (fun i hi hy ih => ?_)
  · refine VS.iload_n dX0_fitsWhatWasTold_2 rfl ?_
    refine VS.aload_n dX0_fitsWhatWasTold_3 rfl ?_
    refine VS.sgetR 0 dX0_fitsWhatWasTold_4 uw_X0 rfl (by decide) 11 (rfl) rfl (by decide) fl_X0_34 rfl ?_
    refine VS.salen (v := 8) .int dX0_fitsWhatWasTold_7 (by decide) rfl (fun _ => rfl) rfl ?_
    refine VS.icmp_ge 48 dX0_fitsWhatWasTold_8 (by decide) (fun _ => ?_) (fun hh => absurd (by decide) hh)
    refine VS.iconst (1) dX0_fitsWhatWasTold_48 rfl ?_
    exact VS.zret dX0_fitsWhatWasTold_49 (by first | rfl | exact nb_ite) (congrArg (fun z => some (Value.int z)) (if_pos hy)) (fun _ _ => rfl)
  · refine VS.iload_n dX0_fitsWhatWasTold_2 rfl ?_
    refine VS.aload_n dX0_fitsWhatWasTold_3 rfl ?_
    refine VS.sgetR 0 dX0_fitsWhatWasTold_4 uw_X0 rfl (by decide) 11 (rfl) rfl (by decide) fl_X0_34 rfl ?_
    refine VS.salen (v := 8) .int dX0_fitsWhatWasTold_7 (by decide) rfl (fun _ => rfl) rfl ?_
    refine VS.icmp_ge 48 dX0_fitsWhatWasTold_8 (by decide) (fun hh => absurd hh (nge8 hi)) (fun _ => ?_)
    refine VS.aload_n dX0_fitsWhatWasTold_11 rfl ?_
    refine VS.sgetR 0 dX0_fitsWhatWasTold_12 uw_X0 rfl (by decide) 11 (rfl) rfl (by decide) fl_X0_34 rfl ?_
    refine VS.iload_n dX0_fitsWhatWasTold_15 rfl ?_
    refine VS.siald (i) dX0_fitsWhatWasTold_16 (by decide) rfl (rfl) (hi) (by decide) ?_
    refine VS.bipush (-6) dX0_fitsWhatWasTold_17 rfl ?_
    refine VS.icmp_eq 42 dX0_fitsWhatWasTold_19 (by decide) (fun h_19 => ?_) (fun h_19 => ?_)
    · refine VS.iinc (nI (i + 1)) dX0_fitsWhatWasTold_42 rfl (by decide) ((nI_succ i).symm) rfl ?_
      refine VS.goto 2 dX0_fitsWhatWasTold_45 (by decide) ?_
      exact ih (fun j hj => by
            rcases Nat.lt_or_ge j i with q | q
            · exact hy j q
            · rw [show j = i by omega]; first | exact Or.inl h_19 | exact Or.inr h_37)
    · refine VS.aload_n dX0_fitsWhatWasTold_22 rfl ?_
      refine VS.sgetR 0 dX0_fitsWhatWasTold_23 uw_X0 rfl (by decide) 11 (rfl) rfl (by decide) fl_X0_34 rfl ?_
      refine VS.iload_n dX0_fitsWhatWasTold_26 rfl ?_
      refine VS.siald (i) dX0_fitsWhatWasTold_27 (by decide) rfl (rfl) (hi) (by decide) ?_
      refine VS.aload_n dX0_fitsWhatWasTold_28 rfl ?_
      refine VS.sgetI 0 dX0_fitsWhatWasTold_29 uw_X0 rfl (by decide) 1 (rfl) rfl (by decide) fl_X0_47 rfl ?_
      refine VS.iload_n dX0_fitsWhatWasTold_32 rfl ?_
      refine VS.iload_n dX0_fitsWhatWasTold_33 rfl ?_
      refine VS.callN (ct_X1_distance l _ _ _) dX0_fitsWhatWasTold_34 mi_X1_distance st_X1_distance ml_X0_156 (rmOk_D (by decide) (by decide)) (Nat.le_of_ble_eq_true rfl) rfl ?_
      refine VS.icmp_eq 42 dX0_fitsWhatWasTold_37 (by decide) (fun h_37 => ?_) (fun h_37 => ?_)
      · refine VS.iinc (nI (i + 1)) dX0_fitsWhatWasTold_42 rfl (by decide) ((nI_succ i).symm) rfl ?_
        refine VS.goto 2 dX0_fitsWhatWasTold_45 (by decide) ?_
        exact ih (fun j hj => by
              rcases Nat.lt_or_ge j i with q | q
              · exact hy j q
              · rw [show j = i by omega]; first | exact Or.inl h_19 | exact Or.inr h_37)
      · refine VS.iconst (0) dX0_fitsWhatWasTold_40 rfl ?_
        exact VS.zret dX0_fitsWhatWasTold_41 (by first | rfl | exact nb_ite) (congrArg (fun z => some (Value.int z)) (if_neg (fun q => (q i hi).elim h_19 h_37))) (fun _ _ => rfl)
theorem k_lo {k : Nat} (h : k < 4) : loS (nI k) = k_least k := by revert k; decide +kernel
theorem k_hi {k : Nat} (h : k < 4) : hiS (nI k) = k_most k := by revert k; decide +kernel
theorem four_v {k : Int32} (h : 0 ≤ k ∧ k ≤ 3) : ∃ j : Nat, j < 4 ∧ k = nI j := by
  obtain ⟨j, hj, e⟩ := vp_in_of (x := k) (n := 4) (vp_in_iff.mpr (by simp only [Int32.lt_iff_toInt_lt, Int32.le_iff_toInt_le, ti_0, ti_1, ti_2, ti_3, ti_4, ti_5, ti_6, ti_7, ti_8, ti_9, ti_10, ti_14, ti_15, ti_16, ti_20, ti_28, ti_33, ti_40, ti_50, ti_80, ti_97, ti_99, ti_100, ti_104, ti_126, ti_150, ti_182, ti_200, ti_255, ti_364, ti_1092, ti_9999, tim_1, tim_2, tim_3, tim_4, tim_5, tim_6] at *; omega)) (by decide)
  exact ⟨j, hj, e⟩
set_option maxRecDepth 100000 in
set_option maxHeartbeats 4000000 in
theorem ct_X0_changeSetting (l : Launch) (S : SS) (v : Int32) {k : Nat} (hk : k < 4) (hv : loS (nI k) ≤ v ∧ v ≤ hiS (nI k)) : CtS l yX0_changeSetting cX0_changeSetting 4 (some FieldType.int) (rmD 0) [.ref 0, .int (nI k), .int v] 7 shG S (some (.int (S 1 k))) (up2 S 1 k v) := by
  refine CtF.of (own := RX0) [some (.ref 0), some (.int (nI k)), some (.int v), none] (by decide +kernel) rfl (fun _ => Nat.le_of_ble_eq_true rfl) (fun _ => rfl) ?_
  refine VS.iload_n dX0_changeSetting_0 rfl ?_
  refine VS.if_lt 47 dX0_changeSetting_1 (by decide) (fun hh => absurd hh (nI_pos (by omega))) (fun _ => ?_)
  refine VS.iload_n dX0_changeSetting_4 rfl ?_
  refine VS.aload_n dX0_changeSetting_5 rfl ?_
  refine VS.sgetR 0 dX0_changeSetting_6 uw_X0 rfl (by decide) 0 (rfl) rfl (by decide) fl_X0_9 rfl ?_
  refine VS.salen (v := 4) .int dX0_changeSetting_9 (by decide) rfl (fun _ => rfl) rfl ?_
  refine VS.icmp_ge 47 dX0_changeSetting_10 (by decide) (fun hh => absurd hh (nI_ge (b := 4) hk (by decide))) (fun _ => ?_)
  refine VS.iload_n dX0_changeSetting_13 rfl ?_
  refine VS.gslen (v := 4) (ref := "") (fun _ _ _ h => h.1.2.1) dX0_changeSetting_14 dX0_changeSetting_17 fl_X0_73 rfl ?_
  refine VS.icmp_ge 47 dX0_changeSetting_18 (by decide) (fun hh => absurd hh (nI_ge (b := 4) hk (by decide))) (fun _ => ?_)
  refine VS.iload_n dX0_changeSetting_21 rfl ?_
  refine VS.gslen (v := 4) (ref := "") (fun _ _ _ h => h.1.2.2.1) dX0_changeSetting_22 dX0_changeSetting_25 fl_X0_76 rfl ?_
  refine VS.icmp_ge 47 dX0_changeSetting_26 (by decide) (fun hh => absurd hh (nI_ge (b := 4) hk (by decide))) (fun _ => ?_)
  refine VS.iload_n dX0_changeSetting_29 rfl ?_
  refine VS.gsld (ref := "") (fun _ _ _ h => h.1.2.1) dX0_changeSetting_30 dX0_changeSetting_33 dX0_changeSetting_34 fl_X0_73 rfl (vp_in_nI hk (by decide)) ?_
  refine VS.icmp_lt 47 dX0_changeSetting_35 (by decide) (fun hh => absurd hh (by rw [nI_clamp (by omega)]; exact Int32.not_lt.mpr (k_lo hk ▸ hv.1))) (fun _ => ?_)
  refine VS.iload_n dX0_changeSetting_38 rfl ?_
  refine VS.gsld (ref := "") (fun _ _ _ h => h.1.2.2.1) dX0_changeSetting_39 dX0_changeSetting_42 dX0_changeSetting_43 fl_X0_76 rfl (vp_in_nI hk (by decide)) ?_
  refine VS.icmp_le 50 dX0_changeSetting_44 (by decide) (fun _ => ?_) (fun hh => absurd (by rw [nI_clamp (by omega)]; exact k_hi hk ▸ hv.2) hh)
  refine VS.aload_n dX0_changeSetting_50 rfl ?_
  refine VS.sgetR 0 dX0_changeSetting_51 uw_X0 rfl (by decide) 0 (rfl) rfl (by decide) fl_X0_9 rfl ?_
  refine VS.iload_n dX0_changeSetting_54 rfl ?_
  refine VS.siald (k) dX0_changeSetting_55 (by decide) rfl (rfl) (hk) (by decide) ?_
  refine VS.istore_n dX0_changeSetting_56 (by decide) rfl ?_
  refine VS.aload_n dX0_changeSetting_57 rfl ?_
  refine VS.sgetR 0 dX0_changeSetting_58 uw_X0 rfl (by decide) 0 (rfl) rfl (by decide) fl_X0_9 rfl ?_
  refine VS.iload_n dX0_changeSetting_61 rfl ?_
  refine VS.iload_n dX0_changeSetting_62 rfl ?_
  refine VS.siast (k) dX0_changeSetting_63 (by decide) rfl (rfl) (hk) (by decide) ?_
  refine VS.iload_n dX0_changeSetting_64 rfl ?_
  exact VS.iret dX0_changeSetting_65 (rfl) (fun _ _ => rfl)
theorem lt4 {k : Int32} (h : k < 4) : k ≤ 3 := by simp only [Int32.lt_iff_toInt_lt, Int32.le_iff_toInt_le, ti_0, ti_1, ti_2, ti_3, ti_4, ti_5, ti_6, ti_7, ti_8, ti_9, ti_10, ti_14, ti_15, ti_16, ti_20, ti_28, ti_33, ti_40, ti_50, ti_80, ti_97, ti_99, ti_100, ti_104, ti_126, ti_150, ti_182, ti_200, ti_255, ti_364, ti_1092, ti_9999, tim_1, tim_2, tim_3, tim_4, tim_5, tim_6] at *; omega
set_option maxRecDepth 100000 in
set_option maxHeartbeats 4000000 in
theorem ct_X0_changeSetting_n1 (l : Launch) (S : SS) (v : Int32) {k : Nat} (hk : k < 4) (hv : ¬ (loS (nI k) ≤ v ∧ v ≤ hiS (nI k))) : CtS l yX0_changeSetting cX0_changeSetting 4 (some FieldType.int) (rmD 0) [.ref 0, .int (nI k), .int v] 7 shG S (some (.int (-2))) (S) := by
  refine CtF.of (own := RX0) [some (.ref 0), some (.int (nI k)), some (.int v), none] (by decide +kernel) rfl (fun _ => Nat.le_of_ble_eq_true rfl) (fun _ => rfl) ?_
  refine VS.iload_n dX0_changeSetting_0 rfl ?_
  refine VS.if_lt 47 dX0_changeSetting_1 (by decide) (fun hh => absurd hh (nI_pos (by omega))) (fun _ => ?_)
  refine VS.iload_n dX0_changeSetting_4 rfl ?_
  refine VS.aload_n dX0_changeSetting_5 rfl ?_
  refine VS.sgetR 0 dX0_changeSetting_6 uw_X0 rfl (by decide) 0 (rfl) rfl (by decide) fl_X0_9 rfl ?_
  refine VS.salen (v := 4) .int dX0_changeSetting_9 (by decide) rfl (fun _ => rfl) rfl ?_
  refine VS.icmp_ge 47 dX0_changeSetting_10 (by decide) (fun hh => absurd hh (nI_ge (b := 4) hk (by decide))) (fun _ => ?_)
  refine VS.iload_n dX0_changeSetting_13 rfl ?_
  refine VS.gslen (v := 4) (ref := "") (fun _ _ _ h => h.1.2.1) dX0_changeSetting_14 dX0_changeSetting_17 fl_X0_73 rfl ?_
  refine VS.icmp_ge 47 dX0_changeSetting_18 (by decide) (fun hh => absurd hh (nI_ge (b := 4) hk (by decide))) (fun _ => ?_)
  refine VS.iload_n dX0_changeSetting_21 rfl ?_
  refine VS.gslen (v := 4) (ref := "") (fun _ _ _ h => h.1.2.2.1) dX0_changeSetting_22 dX0_changeSetting_25 fl_X0_76 rfl ?_
  refine VS.icmp_ge 47 dX0_changeSetting_26 (by decide) (fun hh => absurd hh (nI_ge (b := 4) hk (by decide))) (fun _ => ?_)
  refine VS.iload_n dX0_changeSetting_29 rfl ?_
  refine VS.gsld (ref := "") (fun _ _ _ h => h.1.2.1) dX0_changeSetting_30 dX0_changeSetting_33 dX0_changeSetting_34 fl_X0_73 rfl (vp_in_nI hk (by decide)) ?_
  refine VS.icmp_lt 47 dX0_changeSetting_35 (by decide) (fun h_35 => ?_) (fun h_35 => ?_)
  · refine VS.bipush (-2) dX0_changeSetting_47 rfl ?_
    exact VS.iret dX0_changeSetting_49 (rfl) (fun _ _ => rfl)
  · refine VS.iload_n dX0_changeSetting_38 rfl ?_
    refine VS.gsld (ref := "") (fun _ _ _ h => h.1.2.2.1) dX0_changeSetting_39 dX0_changeSetting_42 dX0_changeSetting_43 fl_X0_76 rfl (vp_in_nI hk (by decide)) ?_
    refine VS.icmp_le 50 dX0_changeSetting_44 (by decide) (fun hh => absurd hh (fun q => hv ⟨by rw [k_lo hk]; rw [nI_clamp (by omega)] at h_35; exact Int32.not_lt.mp h_35, by rw [k_hi hk]; rw [nI_clamp (by omega)] at q; exact q⟩)) (fun _ => ?_)
    refine VS.bipush (-2) dX0_changeSetting_47 rfl ?_
    exact VS.iret dX0_changeSetting_49 (rfl) (fun _ _ => rfl)
set_option maxRecDepth 100000 in
set_option maxHeartbeats 4000000 in
theorem ct_X0_changeSetting_n2 (l : Launch) (S : SS) (k : Int32) (v : Int32) (hn : ¬ (0 ≤ k ∧ k ≤ 3)) : CtS l yX0_changeSetting cX0_changeSetting 4 (some FieldType.int) (rmD 0) [.ref 0, .int k, .int v] 7 shG S (some (.int (-2))) (S) := by
  refine CtF.of (own := RX0) [some (.ref 0), some (.int k), some (.int v), none] (by decide +kernel) rfl (fun _ => Nat.le_of_ble_eq_true rfl) (fun _ => rfl) ?_
  refine VS.iload_n dX0_changeSetting_0 rfl ?_
  refine VS.if_lt 47 dX0_changeSetting_1 (by decide) (fun h_1 => ?_) (fun h_1 => ?_)
  · refine VS.bipush (-2) dX0_changeSetting_47 rfl ?_
    exact VS.iret dX0_changeSetting_49 (rfl) (fun _ _ => rfl)
  · refine VS.iload_n dX0_changeSetting_4 rfl ?_
    refine VS.aload_n dX0_changeSetting_5 rfl ?_
    refine VS.sgetR 0 dX0_changeSetting_6 uw_X0 rfl (by decide) 0 (rfl) rfl (by decide) fl_X0_9 rfl ?_
    refine VS.salen (v := 4) .int dX0_changeSetting_9 (by decide) rfl (fun _ => rfl) rfl ?_
    refine VS.icmp_ge 47 dX0_changeSetting_10 (by decide) (fun _ => ?_) (fun hh => absurd (Decidable.byContradiction fun q => hn ⟨Int32.not_lt.mp h_1, lt4 (Int32.not_le.mp q)⟩) hh)
    refine VS.bipush (-2) dX0_changeSetting_47 rfl ?_
    exact VS.iret dX0_changeSetting_49 (rfl) (fun _ _ => rfl)
def lyV (S : SS) (a b : Int32) : Int32 := if wrE a b = 0 then (if S 0 3 = 0 then pcI (S 0 1 ^^^ bitE a b) else -5) else wrE a b
def lyS (S : SS) (a b : Int32) : SS := if wrE a b = 0 ∧ S 0 3 = 0 then up2 S 0 1 (S 0 1 ^^^ bitE a b) else S
def trV (S : SS) (a : Int32) : Int32 := if 0 ≤ a ∧ a < 8 then (if S 0 3 = 0 then S 0 2 else -5) else -1
def trS (S : SS) (a : Int32) : SS := if (0 ≤ a ∧ a < 8) ∧ S 0 3 = 0 then up2 S 0 2 a else S
def bgV (S : SS) : Int32 := if S 0 3 = 0 then pcI (KK (S 0 1) (S 0 4)) else -5
def bgS (S : SS) : SS := if S 0 3 = 0 then up2 (up2 S 0 3 1) 0 5 (KK (S 0 1) (S 0 4)) else S
def psV (S : SS) : Int32 := if stI S = 1 then rem3 (S 0 6 + 1) else -5
def psS (S : SS) : SS := if stI S = 1 then up2 S 0 6 (S 0 6 + 1) else S
set_option maxRecDepth 100000 in
set_option maxHeartbeats 4000000 in
theorem ct_X0_layRoad (l : Launch) (S : SS) (a : Int32) (b : Int32) : CtS l yX0_layRoad cX0_layRoad 4 (some FieldType.int) (rmD 3) [.ref 0, .int a, .int b] 7 shG S (some (.int (lyV S a b))) (lyS S a b) := by
  refine CtF.of (own := RX0) [some (.ref 0), some (.int a), some (.int b), none] (by decide +kernel) rfl (fun _ => Nat.le_of_ble_eq_true rfl) (fun _ => rfl) ?_
  refine VS.iload_n dX0_layRoad_0 rfl ?_
  refine VS.iload_n dX0_layRoad_1 rfl ?_
  refine VS.callN (ct_X1_wrongEnds l _ _) dX0_layRoad_2 mi_X1_wrongEnds st_X1_wrongEnds ml_X0_79 (rmOk_D (by decide) (by decide)) (Nat.le_of_ble_eq_true rfl) rfl ?_
  refine VS.istore_n dX0_layRoad_5 (by decide) rfl ?_
  refine VS.iload_n dX0_layRoad_6 rfl ?_
  refine VS.if_eq 12 dX0_layRoad_7 (by decide) (fun h_7 => ?_) (fun h_7 => ?_)
  · refine VS.aload_n dX0_layRoad_12 rfl ?_
    refine VS.sgetI 0 dX0_layRoad_13 uw_X0 rfl (by decide) 3 (rfl) rfl (by decide) fl_X0_53 rfl ?_
    refine VS.if_eq 22 dX0_layRoad_16 (by decide) (fun h_16 => ?_) (fun h_16 => ?_)
    · refine VS.aload_n dX0_layRoad_22 rfl ?_
      refine VS.dup dX0_layRoad_23 rfl ?_
      refine VS.sgetI 0 dX0_layRoad_24 uw_X0 rfl (by decide) 1 (rfl) rfl (by decide) fl_X0_47 rfl ?_
      refine VS.iload_n dX0_layRoad_27 rfl ?_
      refine VS.iload_n dX0_layRoad_28 rfl ?_
      refine VS.callN (ct_X1_roadBetween l _ _) dX0_layRoad_29 mi_X1_roadBetween st_X1_roadBetween ml_X0_83 (rmOk_D (by decide) (by decide)) (Nat.le_of_ble_eq_true rfl) rfl ?_
      refine VS.ixor dX0_layRoad_32 ?_
      refine VS.sput 0 dX0_layRoad_33 uw_X0 tyX0 tyX0_ok nmX0 rfl (by decide) 1 (rfl) rfl (by decide) fl_X0_47 rfl rfl (rfl) (rfl) ?_
      refine VS.aload_n dX0_layRoad_36 rfl ?_
      refine VS.sgetI 0 dX0_layRoad_37 uw_X0 rfl (by decide) 1 (rfl) rfl (by decide) fl_X0_47 rfl ?_
      refine VS.callN (ct_J6_bitCount_0f7a4 l _) dX0_layRoad_40 mi_J6_bitCount_0f7a4 st_J6_bitCount_0f7a4 ml_X0_86 (rmOk_D (by decide) (by decide)) (Nat.le_of_ble_eq_true rfl) rfl ?_
      exact VS.iret dX0_layRoad_43 (by unfold lyV; rw [if_pos h_7, if_pos h_16] <;> rfl) (shk1 (stt_if ⟨h_7, h_16⟩ rfl))
    · refine VS.bipush (-5) dX0_layRoad_19 rfl ?_
      exact VS.iret dX0_layRoad_21 (by unfold lyV; rw [if_pos h_7, if_neg h_16]) (shk1 (stt_else (fun q => h_16 q.2) rfl))
  · refine VS.iload_n dX0_layRoad_10 rfl ?_
    exact VS.iret dX0_layRoad_11 (by unfold lyV; rw [if_neg h_7]) (shk1 (stt_else (fun q => h_7 q.1) rfl))
set_option maxRecDepth 100000 in
set_option maxHeartbeats 4000000 in
theorem ct_X0_hideTreasure (l : Launch) (S : SS) (a : Int32) : CtS l yX0_hideTreasure cX0_hideTreasure 3 (some FieldType.int) (rmD 1) [.ref 0, .int a] 7 shG S (some (.int (trV S a))) (trS S a) := by
  refine CtF.of (own := RX0) [some (.ref 0), some (.int a), none] (by decide +kernel) rfl (fun _ => Nat.le_of_ble_eq_true rfl) (fun _ => rfl) ?_
  refine VS.iload_n dX0_hideTreasure_0 rfl ?_
  refine VS.callN (ct_X1_isPlace l _) dX0_hideTreasure_1 mi_X1_isPlace st_X1_isPlace ml_X0_92 (rmOk_D (by decide) (by decide)) (Nat.le_of_ble_eq_true rfl) rfl ?_
  refine VS.if_ne 9 dX0_hideTreasure_4 (by decide) (fun h_4 => ?_) (fun h_4 => ?_)
  · refine VS.aload_n dX0_hideTreasure_9 rfl ?_
    refine VS.sgetI 0 dX0_hideTreasure_10 uw_X0 rfl (by decide) 3 (rfl) rfl (by decide) fl_X0_53 rfl ?_
    refine VS.if_eq 19 dX0_hideTreasure_13 (by decide) (fun h_13 => ?_) (fun h_13 => ?_)
    · refine VS.aload_n dX0_hideTreasure_19 rfl ?_
      refine VS.sgetI 0 dX0_hideTreasure_20 uw_X0 rfl (by decide) 2 (rfl) rfl (by decide) fl_X0_50 rfl ?_
      refine VS.istore_n dX0_hideTreasure_23 (by decide) rfl ?_
      refine VS.aload_n dX0_hideTreasure_24 rfl ?_
      refine VS.iload_n dX0_hideTreasure_25 rfl ?_
      refine VS.sput 0 dX0_hideTreasure_26 uw_X0 tyX0 tyX0_ok nmX0 rfl (by decide) 2 (rfl) rfl (by decide) fl_X0_50 rfl rfl (rfl) (rfl) ?_
      refine VS.iload_n dX0_hideTreasure_29 rfl ?_
      exact VS.iret dX0_hideTreasure_30 (by unfold trV; rw [if_pos (ite11 h_4), if_pos h_13]) (shk1 (stt_if ⟨ite11 h_4, h_13⟩ rfl))
    · refine VS.bipush (-5) dX0_hideTreasure_16 rfl ?_
      exact VS.iret dX0_hideTreasure_18 (by unfold trV; rw [if_pos (ite11 h_4), if_neg h_13]) (shk1 (stt_else (fun q => h_13 q.2) rfl))
  · refine VS.iconst (-1) dX0_hideTreasure_7 rfl ?_
    exact VS.iret dX0_hideTreasure_8 (by unfold trV; rw [if_neg (ite10.mp h_4)]) (shk1 (stt_else (fun q => (ite10.mp h_4) q.1) rfl))
set_option maxRecDepth 100000 in
set_option maxHeartbeats 4000000 in
theorem ct_X0_start (l : Launch) (S : SS)  : CtS l yX0_start cX0_start 1 (some FieldType.int) (rmD 3) [.ref 0] 7 shG S (some (.int (bgV S))) (bgS S) := by
  refine CtF.of (own := RX0) [some (.ref 0)] (by decide +kernel) rfl (fun _ => Nat.le_of_ble_eq_true rfl) (fun _ => rfl) ?_
  refine VS.aload_n dX0_start_0 rfl ?_
  refine VS.sgetI 0 dX0_start_1 uw_X0 rfl (by decide) 3 (rfl) rfl (by decide) fl_X0_53 rfl ?_
  refine VS.if_eq 10 dX0_start_4 (by decide) (fun h_4 => ?_) (fun h_4 => ?_)
  · refine VS.aload_n dX0_start_10 rfl ?_
    refine VS.iconst (1) dX0_start_11 rfl ?_
    refine VS.sput 0 dX0_start_12 uw_X0 tyX0 tyX0_ok nmX0 rfl (by decide) 3 (rfl) rfl (by decide) fl_X0_53 rfl rfl (rfl) (rfl) ?_
    refine VS.aload_n dX0_start_15 rfl ?_
    refine VS.aload_n dX0_start_16 rfl ?_
    refine VS.sgetI 0 dX0_start_17 uw_X0 rfl (by decide) 1 (rfl) rfl (by decide) fl_X0_47 rfl ?_
    refine VS.val (y := S 0 1) rfl ?_
    refine VS.aload_n dX0_start_20 rfl ?_
    refine VS.sgetI 0 dX0_start_21 uw_X0 rfl (by decide) 4 (rfl) rfl (by decide) fl_X0_57 rfl ?_
    refine VS.val (y := S 0 4) rfl ?_
    refine VS.callN (ct_X1_withWhatFollows l _ _) dX0_start_24 mi_X1_withWhatFollows st_X1_withWhatFollows ml_X0_96 (rmOk_D (by decide) (by decide)) (Nat.le_of_ble_eq_true rfl) rfl ?_
    refine VS.sput 0 dX0_start_27 uw_X0 tyX0 tyX0_ok nmX0 rfl (by decide) 5 (rfl) rfl (by decide) fl_X0_60 rfl rfl (rfl) (rfl) ?_
    refine VS.aload_n dX0_start_30 rfl ?_
    refine VS.sgetI 0 dX0_start_31 uw_X0 rfl (by decide) 5 (rfl) rfl (by decide) fl_X0_60 rfl ?_
    refine VS.val (y := KK (S 0 1) (S 0 4)) rfl ?_
    refine VS.callN (ct_J6_bitCount_0f7a4 l _) dX0_start_34 mi_J6_bitCount_0f7a4 st_J6_bitCount_0f7a4 ml_X0_86 (rmOk_D (by decide) (by decide)) (Nat.le_of_ble_eq_true rfl) rfl ?_
    exact VS.iret dX0_start_37 (by unfold bgV; rw [if_pos h_4]) (shk1 (stt_if h_4 rfl))
  · refine VS.bipush (-5) dX0_start_7 rfl ?_
    exact VS.iret dX0_start_9 (by unfold bgV; rw [if_neg h_4]) (shk1 (stt_else h_4 rfl))
set_option maxRecDepth 100000 in
set_option maxHeartbeats 4000000 in
theorem ct_X0_passTurn (l : Launch) (S : SS)  : CtS l yX0_passTurn cX0_passTurn 1 (some FieldType.int) (rmD 2) [.ref 0] 7 shG S (some (.int (psV S))) (psS S) := by
  refine CtF.of (own := RX0) [some (.ref 0)] (by decide +kernel) rfl (fun _ => Nat.le_of_ble_eq_true rfl) (fun _ => rfl) ?_
  refine VS.aload_n dX0_passTurn_0 rfl ?_
  refine VS.callT (ct_X0_goesOn l _) dX0_passTurn_1 mi_X0_goesOn im_X0_goesOn sel_X0_goesOn ml_X0_99 (by decide) rfl rfl (rmOk_D (by decide) (by decide)) (Nat.le_of_ble_eq_true rfl) rfl ?_
  refine VS.if_ne 10 dX0_passTurn_4 (by decide) (fun h_4 => ?_) (fun h_4 => ?_)
  · refine VS.aload_n dX0_passTurn_10 rfl ?_
    refine VS.dup dX0_passTurn_11 rfl ?_
    refine VS.sgetI 0 dX0_passTurn_12 uw_X0 rfl (by decide) 6 (rfl) rfl (by decide) fl_X0_63 rfl ?_
    refine VS.iconst (1) dX0_passTurn_15 rfl ?_
    refine VS.iadd dX0_passTurn_16 ?_
    refine VS.sput 0 dX0_passTurn_17 uw_X0 tyX0 tyX0_ok nmX0 rfl (by decide) 6 (rfl) rfl (by decide) fl_X0_63 rfl rfl (rfl) (rfl) ?_
    refine VS.aload_n dX0_passTurn_20 rfl ?_
    refine VS.callT (ct_X0_next l _) dX0_passTurn_21 mi_X0_next im_X0_next sel_X0_next ml_X0_103 (by decide) rfl rfl (rmOk_D (by decide) (by decide)) (Nat.le_of_ble_eq_true rfl) rfl ?_
    exact VS.iret dX0_passTurn_24 (by unfold psV; rw [if_pos (ite11 h_4)] <;> rfl) (shk1 (stt_if (ite11 h_4) rfl))
  · refine VS.bipush (-5) dX0_passTurn_7 rfl ?_
    exact VS.iret dX0_passTurn_9 (by unfold psV; rw [if_neg (ite10.mp h_4)]) (shk1 (stt_else (ite10.mp h_4) rfl))
