/-! the class: players -/
def cnS (h : Shp) (j : Nat) : Prop := match h with
  | .inl (_, fl) => fl[j]? = some none
  | .inr (.inl (_, N)) => j < N
  | .inr (.inr _) => False
theorem arrV_ext {c N : Nat} {f g : Nat → Value} (h : ∀ j, j < N → f j = g j) : arrV c N f = arrV c N g := by
  unfold arrV
  congr 1
  exact congrArg Array.ofFn (funext fun j => h j.1 j.2)
theorem shP_at {D : va_G} {cy : Nat → ClassId} {ad : Nat → Nat} {h : Shp} {v w : Nat → Int32} {a : Nat} {H : Heap} (e : ∀ j, cnS h j → v j = w j) (hv : va_at D vwCl (a, cE cy ad (shC h v)) H) : va_at D vwCl (a, cE cy ad (shC h w)) H := by
  rcases h with ⟨ci, fl⟩ | ⟨t, N⟩ | ⟨N, f⟩
  · have e2 : shF fl v = shF fl w := by
      apply List.ext_getElem?
      intro j
      simp only [shF, List.getElem?_mapIdx]
      cases hf : fl[j]? with
      | none => rfl
      | some o =>
        cases o with
        | some r => rfl
        | none => simp [e j hf]
    have e3 : shC (.inl (ci, fl)) v = shC (.inl (ci, fl)) w := congrArg (fun z => (Sum.inr (ci, z) : va_E)) e2
    rw [← e3]; exact hv
  · have e3 : arrV (cy t) N (fun j => Value.int (v j)) = arrV (cy t) N (fun j => Value.int (w j)) := arrV_ext fun j hj => by rw [e j hj]
    show H[a]? = some (arrV (cy t) N (fun j => Value.int (w j)))
    rw [← e3]; exact hv
  · exact hv
/-- only what is in range counts -/
theorem VS.ext {l : Launch} {R : Room} {own : String} {cc : ByteArray} {nL : Nat} {X : XT} {cl sl n : Nat} {pc : Nat} {L : List (Option Value)} {st : List Value} {sh : Nat → Shp} {S S2 : SS} (h : ∀ k, k < n → ∀ j, cnS (sh k) j → S k j = S2 k j) (kk : VS l R own cc nL X cl sl n (shW sh S2) pc L st) : VS l R own cc nL X cl sl n (shW sh S) pc L st := by
  intro p e s m args below meth c D cy A ad Q H locs ls C0 x i a hP
  refine kk p e s m args below meth c D cy A ad Q H locs ls C0 x i a (fun k q hq => ?_)
  obtain ⟨hk, rfl⟩ := wd_inv hq
  exact shP_at (h k hk) (hP k _ (wd_at hk))
theorem mg_one (a : Nat) (S2 S : SS) : mg (fun _ => a) 1 S2 S = upC S a (S2 0) := by
  funext k
  unfold mg upC
  by_cases h : k = a
  · subst h; simp [List.range_succ]
  · have : (a == k) = false := by simpa using fun q => h q.symm
    simp [List.range_succ, this, h]
theorem ShI.one {sh1 sh : Nat → Shp} {n a : Nat} (ha : a < n) (h : sh a = shR (fun _ => a) (sh1 0)) : ShI (fun _ => a) 1 sh1 n sh := ⟨fun _ _ => ha, fun i j hi hj _ => by omega, fun i hi => by rw [show i = 0 by omega]; exact h⟩
theorem shk1 {n : Nat} {sh : Nat → Shp} {S S2 : SS} (h : S = S2) : ∀ k, k < n → shW sh S k = shW sh S2 k := fun k _ => by rw [h]
def tkI (v c : Int32) : Int32 := if 9999 < v + c then 9999 else v + c
theorem tk_min (v c : Int32) : (if v + c < 9999 then v + c else 9999) = tkI v c := by
  unfold tkI
  by_cases h : v + c < 9999
  · rw [if_pos h, if_neg (Int32.not_lt.mpr (Int32.le_of_lt h))]
  · rw [if_neg h]
    by_cases h2 : 9999 < v + c
    · rw [if_pos h2]
    · rw [if_neg h2]
      exact Int32.le_antisymm (Int32.not_lt.mp h) (Int32.not_lt.mp h2)
def paI (v c : Int32) : Int32 := if v < c then v else c
set_option maxRecDepth 100000 in
set_option maxHeartbeats 4000000 in
theorem ct_X4_take (l : Launch) (S : SS) (c : Int32) : CtS l yX4_take cX4_take 2 none (rmD 1) [.ref 0, .int c] 1 shP S (none) (up2 S 0 0 (tkI (S 0 0) c)) := by
  refine CtF.of (own := RX4) [some (.ref 0), some (.int c)] (by decide +kernel) rfl (fun _ => Nat.le_of_ble_eq_true rfl) (fun _ => rfl) ?_
  refine VS.aload_n dX4_take_0 rfl ?_
  refine VS.sipush (9999) dX4_take_1 rfl ?_
  refine VS.aload_n dX4_take_4 rfl ?_
  refine VS.sgetI 3 dX4_take_5 uw_X4 rfl (by decide) 0 (rfl) rfl (by decide) fl_X4_9 rfl ?_
  refine VS.iload_n dX4_take_8 rfl ?_
  refine VS.iadd dX4_take_9 ?_
  refine VS.mmin dX4_take_10 ml_X4_40 (rmM_D (by decide)) (Nat.le_of_ble_eq_true rfl) ?_
  refine VS.val (y := tkI (S 0 0) c) (tk_min _ _) ?_
  refine VS.sput 3 dX4_take_13 uw_X4 tyX4 tyX4_ok nmX4 rfl (by decide) 0 (rfl) rfl (by decide) fl_X4_9 rfl rfl (rfl) (rfl) ?_
  exact VS.vret dX4_take_16 rfl (fun _ _ => rfl)
set_option maxRecDepth 100000 in
set_option maxHeartbeats 4000000 in
theorem ct_X4_pay (l : Launch) (S : SS) (c : Int32) : CtS l yX4_pay cX4_pay 4 none (rmD 2) [.ref 0, .ref 1, .int c] 2 shP S (none) (up2 (up2 S 0 0 (S 0 0 - paI (S 0 0) c)) 1 0 (tkI (S 1 0) (paI (S 0 0) c))) := by
  refine CtF.of (own := RX4) [some (.ref 0), some (.ref 1), some (.int c), none] (by decide +kernel) rfl (fun _ => Nat.le_of_ble_eq_true rfl) (fun _ => rfl) ?_
  refine VS.iload_n dX4_pay_0 rfl ?_
  refine VS.aload_n dX4_pay_1 rfl ?_
  refine VS.sgetI 3 dX4_pay_2 uw_X4 rfl (by decide) 0 (rfl) rfl (by decide) fl_X4_9 rfl ?_
  refine VS.mmin dX4_pay_5 ml_X4_40 (rmM_D (by decide)) (Nat.le_of_ble_eq_true rfl) ?_
  refine VS.val (y := paI (S 0 0) c) rfl ?_
  refine VS.istore_n dX4_pay_8 (by decide) rfl ?_
  refine VS.aload_n dX4_pay_9 rfl ?_
  refine VS.dup dX4_pay_10 rfl ?_
  refine VS.sgetI 3 dX4_pay_11 uw_X4 rfl (by decide) 0 (rfl) rfl (by decide) fl_X4_9 rfl ?_
  refine VS.iload_n dX4_pay_14 rfl ?_
  refine VS.isub dX4_pay_15 ?_
  refine VS.sput 3 dX4_pay_16 uw_X4 tyX4 tyX4_ok nmX4 rfl (by decide) 0 (rfl) rfl (by decide) fl_X4_9 rfl rfl (rfl) (rfl) ?_
  refine VS.aload_n dX4_pay_19 rfl ?_
  refine VS.iload_n dX4_pay_20 rfl ?_
  refine VS.callR (fun _ => 1) (ShI.one (sh1 := shP) (sh := shP) (by decide) rfl) (ct_X4_take l (fun _ => up2 S 0 0 (S 0 0 - paI (S 0 0) c) 1) _) dX4_pay_21 mi_X4_take im_X4_take sel_X4_take ml_X4_46 (by decide) rfl rfl (rmOk_D (by decide) (by decide)) (Nat.le_of_ble_eq_true rfl) rfl ?_
  refine VS.stt (mg_one 1 _ _) ?_
  exact VS.vret dX4_pay_24 rfl (shk1 rfl)
set_option maxRecDepth 100000 in
set_option maxHeartbeats 4000000 in
theorem ct_X4_saying (l : Launch) (S : SS) (b : Int32) : CtS l yX4_saying cX4_saying 2 (some FieldType.int) (rmD 0) [.ref 0, .int b] 1 shP S (some (.int (if b = 0 then S 0 2 else S 0 1))) (S) := by
  refine CtF.of (own := RX4) [some (.ref 0), some (.int b)] (by decide +kernel) rfl (fun _ => Nat.le_of_ble_eq_true rfl) (fun _ => rfl) ?_
  refine VS.iload_n dX4_saying_0 rfl ?_
  refine VS.if_eq 11 dX4_saying_1 (by decide) (fun h_1 => ?_) (fun h_1 => ?_)
  · refine VS.aload_n dX4_saying_11 rfl ?_
    refine VS.sgetI 3 dX4_saying_12 uw_X4 rfl (by decide) 2 (rfl) rfl (by decide) fl_X4_16 rfl ?_
    exact VS.iret dX4_saying_15 (by first | rw [if_pos h_1] | rw [if_neg h_1]) (fun _ _ => rfl)
  · refine VS.aload_n dX4_saying_4 rfl ?_
    refine VS.sgetI 3 dX4_saying_5 uw_X4 rfl (by decide) 1 (rfl) rfl (by decide) fl_X4_13 rfl ?_
    refine VS.goto 15 dX4_saying_8 (by decide) ?_
    exact VS.iret dX4_saying_15 (by first | rw [if_pos h_1] | rw [if_neg h_1]) (fun _ _ => rfl)
def sayF (q : Nat → Int32) (r b : Int32) : Nat → Int32 := upd (upd q 1 (if b = 0 then q 1 &&& (r ^^^ -1) else q 1 ||| r)) 2 (if b = 0 then q 2 ||| r else q 2 &&& (r ^^^ -1))
set_option maxRecDepth 100000 in
set_option maxHeartbeats 4000000 in
theorem ct_X4_say (l : Launch) (S : SS) (r : Int32) (b : Int32) : CtS l yX4_say cX4_say 3 none (rmD 0) [.ref 0, .int r, .int b] 1 shP S (none) (upC S 0 (sayF (S 0) r b)) := by
  refine CtF.of (own := RX4) [some (.ref 0), some (.int r), some (.int b)] (by decide +kernel) rfl (fun _ => Nat.le_of_ble_eq_true rfl) (fun _ => rfl) ?_
  refine VS.aload_n dX4_say_0 rfl ?_
  refine VS.iload_n dX4_say_1 rfl ?_
  refine VS.if_eq 14 dX4_say_2 (by decide) (fun h_2 => ?_) (fun h_2 => ?_)
  · refine VS.aload_n dX4_say_14 rfl ?_
    refine VS.sgetI 3 dX4_say_15 uw_X4 rfl (by decide) 1 (rfl) rfl (by decide) fl_X4_13 rfl ?_
    refine VS.iload_n dX4_say_18 rfl ?_
    refine VS.iconst (-1) dX4_say_19 rfl ?_
    refine VS.ixor dX4_say_20 ?_
    refine VS.iand dX4_say_21 ?_
    refine VS.sput 3 dX4_say_22 uw_X4 tyX4 tyX4_ok nmX4 rfl (by decide) 1 (rfl) rfl (by decide) fl_X4_13 rfl rfl (rfl) (rfl) ?_
    refine VS.aload_n dX4_say_25 rfl ?_
    refine VS.iload_n dX4_say_26 rfl ?_
    refine VS.if_eq 41 dX4_say_27 (by decide) (fun _ => ?_) (fun hh => absurd (h_2) hh)
    refine VS.aload_n dX4_say_41 rfl ?_
    refine VS.sgetI 3 dX4_say_42 uw_X4 rfl (by decide) 2 (rfl) rfl (by decide) fl_X4_16 rfl ?_
    refine VS.iload_n dX4_say_45 rfl ?_
    refine VS.ior dX4_say_46 ?_
    refine VS.sput 3 dX4_say_47 uw_X4 tyX4 tyX4_ok nmX4 rfl (by decide) 2 (rfl) rfl (by decide) fl_X4_16 rfl rfl (rfl) (rfl) ?_
    exact VS.vret dX4_say_50 rfl (shk1 (by unfold sayF up2; rw [upC_upC, upC_at]; first | rw [if_pos h_2, if_pos h_2] <;> rfl | rw [if_neg h_2, if_neg h_2] <;> rfl))
  · refine VS.aload_n dX4_say_5 rfl ?_
    refine VS.sgetI 3 dX4_say_6 uw_X4 rfl (by decide) 1 (rfl) rfl (by decide) fl_X4_13 rfl ?_
    refine VS.iload_n dX4_say_9 rfl ?_
    refine VS.ior dX4_say_10 ?_
    refine VS.goto 22 dX4_say_11 (by decide) ?_
    refine VS.sput 3 dX4_say_22 uw_X4 tyX4 tyX4_ok nmX4 rfl (by decide) 1 (rfl) rfl (by decide) fl_X4_13 rfl rfl (rfl) (rfl) ?_
    refine VS.aload_n dX4_say_25 rfl ?_
    refine VS.iload_n dX4_say_26 rfl ?_
    refine VS.if_eq 41 dX4_say_27 (by decide) (fun hh => absurd hh (h_2)) (fun _ => ?_)
    refine VS.aload_n dX4_say_30 rfl ?_
    refine VS.sgetI 3 dX4_say_31 uw_X4 rfl (by decide) 2 (rfl) rfl (by decide) fl_X4_16 rfl ?_
    refine VS.iload_n dX4_say_34 rfl ?_
    refine VS.iconst (-1) dX4_say_35 rfl ?_
    refine VS.ixor dX4_say_36 ?_
    refine VS.iand dX4_say_37 ?_
    refine VS.goto 47 dX4_say_38 (by decide) ?_
    refine VS.sput 3 dX4_say_47 uw_X4 tyX4 tyX4_ok nmX4 rfl (by decide) 2 (rfl) rfl (by decide) fl_X4_16 rfl rfl (rfl) (rfl) ?_
    exact VS.vret dX4_say_50 rfl (shk1 (by unfold sayF up2; rw [upC_upC, upC_at]; first | rw [if_pos h_2, if_pos h_2] <;> rfl | rw [if_neg h_2, if_neg h_2] <;> rfl))
set_option maxRecDepth 100000 in
set_option maxHeartbeats 4000000 in
theorem ct_X4_claims (l : Launch) (S : SS)  : CtS l yX4_claims cX4_claims 1 (some FieldType.int) (rmD 1) [.ref 0] 1 shP S (some (.int (pcI (S 0 1 ||| S 0 2)))) (S) := by
  refine CtF.of (own := RX4) [some (.ref 0)] (by decide +kernel) rfl (fun _ => Nat.le_of_ble_eq_true rfl) (fun _ => rfl) ?_
  refine VS.aload_n dX4_claims_0 rfl ?_
  refine VS.sgetI 3 dX4_claims_1 uw_X4 rfl (by decide) 1 (rfl) rfl (by decide) fl_X4_13 rfl ?_
  refine VS.aload_n dX4_claims_4 rfl ?_
  refine VS.sgetI 3 dX4_claims_5 uw_X4 rfl (by decide) 2 (rfl) rfl (by decide) fl_X4_16 rfl ?_
  refine VS.ior dX4_claims_8 ?_
  refine VS.callN (ct_J6_bitCount_0f7a4 l _) dX4_claims_9 mi_J6_bitCount_0f7a4 st_J6_bitCount_0f7a4 ml_X4_31 (rmOk_D (by decide) (by decide)) (Nat.le_of_ble_eq_true rfl) rfl ?_
  exact VS.iret dX4_claims_12 (rfl) (fun _ _ => rfl)
def lieF (q : Nat → Int32) (r : Int32) : Int32 := q 1 &&& (r ^^^ -1) ||| q 2 &&& r
set_option maxRecDepth 100000 in
set_option maxHeartbeats 4000000 in
theorem ct_X4_lies (l : Launch) (S : SS) (r : Int32) : CtS l yX4_lies cX4_lies 2 (some FieldType.int) (rmD 0) [.ref 0, .int r] 1 shP S (some (.int (lieF (S 0) r))) (S) := by
  refine CtF.of (own := RX4) [some (.ref 0), some (.int r)] (by decide +kernel) rfl (fun _ => Nat.le_of_ble_eq_true rfl) (fun _ => rfl) ?_
  refine VS.aload_n dX4_lies_0 rfl ?_
  refine VS.sgetI 3 dX4_lies_1 uw_X4 rfl (by decide) 1 (rfl) rfl (by decide) fl_X4_13 rfl ?_
  refine VS.iload_n dX4_lies_4 rfl ?_
  refine VS.iconst (-1) dX4_lies_5 rfl ?_
  refine VS.ixor dX4_lies_6 ?_
  refine VS.iand dX4_lies_7 ?_
  refine VS.aload_n dX4_lies_8 rfl ?_
  refine VS.sgetI 3 dX4_lies_9 uw_X4 rfl (by decide) 2 (rfl) rfl (by decide) fl_X4_16 rfl ?_
  refine VS.iload_n dX4_lies_12 rfl ?_
  refine VS.iand dX4_lies_13 ?_
  refine VS.ior dX4_lies_14 ?_
  exact VS.iret dX4_lies_15 (rfl) (fun _ _ => rfl)
set_option maxRecDepth 100000 in
set_option maxHeartbeats 4000000 in
theorem ct_X4_shownLies (l : Launch) (S : SS) (r : Int32) (k : Int32) : CtS l yX4_shownLies cX4_shownLies 3 (some FieldType.int) (rmD 1) [.ref 0, .int r, .int k] 1 shP S (some (.int (pcI (lieF (S 0) r &&& k)))) (S) := by
  refine CtF.of (own := RX4) [some (.ref 0), some (.int r), some (.int k)] (by decide +kernel) rfl (fun _ => Nat.le_of_ble_eq_true rfl) (fun _ => rfl) ?_
  refine VS.aload_n dX4_shownLies_0 rfl ?_
  refine VS.iload_n dX4_shownLies_1 rfl ?_
  refine VS.callT (ct_X4_lies l _ _) dX4_shownLies_2 mi_X4_lies im_X4_lies sel_X4_lies ml_X4_37 (by decide) rfl rfl (rmOk_D (by decide) (by decide)) (Nat.le_of_ble_eq_true rfl) rfl ?_
  refine VS.iload_n dX4_shownLies_5 rfl ?_
  refine VS.iand dX4_shownLies_6 ?_
  refine VS.callN (ct_J6_bitCount_0f7a4 l _) dX4_shownLies_7 mi_J6_bitCount_0f7a4 st_J6_bitCount_0f7a4 ml_X4_31 (rmOk_D (by decide) (by decide)) (Nat.le_of_ble_eq_true rfl) rfl ?_
  exact VS.iret dX4_shownLies_10 (rfl) (fun _ _ => rfl)
set_option maxRecDepth 100000 in
set_option maxHeartbeats 4000000 in
theorem ct_X4_become (l : Launch) (S : SS)  : CtS l yX4_become cX4_become 2 none (rmD 0) [.ref 0, .ref 1] 2 shP S (none) (upC S 0 (S 1)) := by
  refine CtF.of (own := RX4) [some (.ref 0), some (.ref 1)] (by decide +kernel) rfl (fun _ => Nat.le_of_ble_eq_true rfl) (fun _ => rfl) ?_
  refine VS.aload_n dX4_become_0 rfl ?_
  refine VS.aload_n dX4_become_1 rfl ?_
  refine VS.sgetI 3 dX4_become_2 uw_X4 rfl (by decide) 0 (rfl) rfl (by decide) fl_X4_9 rfl ?_
  refine VS.sput 3 dX4_become_5 uw_X4 tyX4 tyX4_ok nmX4 rfl (by decide) 0 (rfl) rfl (by decide) fl_X4_9 rfl rfl (rfl) (rfl) ?_
  refine VS.aload_n dX4_become_8 rfl ?_
  refine VS.aload_n dX4_become_9 rfl ?_
  refine VS.sgetI 3 dX4_become_10 uw_X4 rfl (by decide) 1 (rfl) rfl (by decide) fl_X4_13 rfl ?_
  refine VS.sput 3 dX4_become_13 uw_X4 tyX4 tyX4_ok nmX4 rfl (by decide) 1 (rfl) rfl (by decide) fl_X4_13 rfl rfl (rfl) (rfl) ?_
  refine VS.aload_n dX4_become_16 rfl ?_
  refine VS.aload_n dX4_become_17 rfl ?_
  refine VS.sgetI 3 dX4_become_18 uw_X4 rfl (by decide) 2 (rfl) rfl (by decide) fl_X4_16 rfl ?_
  refine VS.sput 3 dX4_become_21 uw_X4 tyX4 tyX4_ok nmX4 rfl (by decide) 2 (rfl) rfl (by decide) fl_X4_16 rfl rfl (rfl) (rfl) ?_
  refine VS.aload_n dX4_become_24 rfl ?_
  refine VS.aload_n dX4_become_25 rfl ?_
  refine VS.sgetI 3 dX4_become_26 uw_X4 rfl (by decide) 3 (rfl) rfl (by decide) fl_X4_19 rfl ?_
  refine VS.sput 3 dX4_become_29 uw_X4 tyX4 tyX4_ok nmX4 rfl (by decide) 3 (rfl) rfl (by decide) fl_X4_19 rfl rfl (rfl) (rfl) ?_
  refine VS.aload_n dX4_become_32 rfl ?_
  refine VS.aload_n dX4_become_33 rfl ?_
  refine VS.sgetI 3 dX4_become_34 uw_X4 rfl (by decide) 4 (rfl) rfl (by decide) fl_X4_22 rfl ?_
  refine VS.sput 3 dX4_become_37 uw_X4 tyX4 tyX4_ok nmX4 rfl (by decide) 4 (rfl) rfl (by decide) fl_X4_22 rfl rfl (rfl) (rfl) ?_
  refine VS.aload_n dX4_become_40 rfl ?_
  refine VS.aload_n dX4_become_41 rfl ?_
  refine VS.sgetI 3 dX4_become_42 uw_X4 rfl (by decide) 5 (rfl) rfl (by decide) fl_X4_25 rfl ?_
  refine VS.sput 3 dX4_become_45 uw_X4 tyX4 tyX4_ok nmX4 rfl (by decide) 5 (rfl) rfl (by decide) fl_X4_25 rfl rfl (rfl) (rfl) ?_
  refine VS.aload_n dX4_become_48 rfl ?_
  refine VS.aload_n dX4_become_49 rfl ?_
  refine VS.sgetI 3 dX4_become_50 uw_X4 rfl (by decide) 6 (rfl) rfl (by decide) fl_X4_28 rfl ?_
  refine VS.sput 3 dX4_become_53 uw_X4 tyX4 tyX4_ok nmX4 rfl (by decide) 6 (rfl) rfl (by decide) fl_X4_28 rfl rfl (rfl) (rfl) ?_
  exact VS.vret dX4_become_56 rfl (fun k hk => by
    rcases (show k = 0 ∨ k = 1 by omega) with rfl | rfl
    · rfl
    · rfl)
/-- two rows of numbers alone -/
def shRR (N : Nat) (_ : Nat) : Shp := .inr (.inl (1, N))
theorem VS.copyi {l : Launch} {R : Room} {own : String} {cc : ByteArray} {nL : Nat} {X : XT} {cl sl n : Nat} {pc index : Nat} {L : List (Option Value)} {st : List Value} {sh : Nat → Shp} {S : SS} {o o2 N N2 k : Nat} {m0 : Int32} (d : decode cc pc = .ok (.invokestatic index, 3)) (hl0 : Cond.methodLink own index arraycopyName ∈ TB) (ho : o < n) (ho2 : o2 < n) (hsh : sh o = .inr (.inl (1, N))) (hsh2 : sh o2 = .inr (.inl (1, N2))) (hm : m0 = nI k) (hk : k ≤ N) (hk2 : k ≤ N2) (hN : N < 2000) (hR : 1 ≤ R.frames ∧ 29 ≤ R.locals) (hst : (st.map fun v => v.category).sum ≤ 2)
    (kk : VS l R own cc nL X cl sl n (shW sh (upC S o2 (putR (S o2) (S o) 0 k))) (pc + 3) L st) : VS l R own cc nL X cl sl n (shW sh S) pc L (.int m0 :: .int 0 :: .ref o2 :: .int 0 :: .ref o :: st) := by
  subst hm
  intro p e s m args below meth c D cy A ad Q H locs ls C0 x i a hP hS hl
  have hg : shW sh S o = .inl (1, N, .inl (S o)) := by unfold shW; rw [hsh]; rfl
  have hg2 : shW sh S o2 = .inl (1, N2, .inl (S o2)) := by unfold shW; rw [hsh2]; rfl
  have hc : (nI k).toNatClampNeg = k := nI_clamp (by omega)
  have hz : (0 : Int32).toNatClampNeg = 0 := by decide
  refine va_copyi (D := D) C0.1 C0.2.1 (C0.2.2.1.trans hl.1.symm) C0.2.2.2.1 (C0.2.2.2.2.1 _ hl0) (C0.2.2.2.2.1 _ nat_arraycopy) (C0.2.2.2.2.1 _ st_arraycopy) (C0.2.2.2.2.1 _ ini_J10) C0.2.2.2.2.2.2.1 hP (wd_D i a) hS o o2 1 1 (wat_i ho hg) (wat_i ho2 hg2) rfl rfl rfl (by decide) (by decide) (nI_pos (by omega)) (by rw [hc, hz]; omega) (by rw [hc, hz]; omega) (fun _ _ => rfl) hR.1 (by rw [cV_cats, show nativeFrameWords "java/lang/System" "arraycopy" 5 = 7 from by decide]; omega) d (fun H1 locs1 hP1 _ hS1 => ?_)
  refine VS.heap (g := va_up (shW sh S) o2 (.inl (1, N2, .inl (va_cpy (S o) (S o2) 0 0 k)))) (fun q _ => ?_) kk p e s m args below meth c D cy A ad Q H1 locs1 ls C0 x i a ?_ hS1 hl
  · by_cases hq : q = o2
    · subst hq
      rw [va_up_self]
      unfold shW
      rw [hsh2, upC_at]
      show (Sum.inl (1, N2, Sum.inl (va_cpy (S o) (S q) 0 0 k)) : va_E) = Sum.inl (1, N2, Sum.inl (putR (S q) (S o) 0 k))
      congr 4
      funext j
      unfold va_cpy putR
      by_cases h : 0 ≤ j ∧ j < 0 + k
      · rw [if_pos h, if_pos h]; congr 1; omega
      · rw [if_neg h, if_neg h]
    · rw [va_up_ne _ _ hq]
      unfold shW
      rw [upC_ne hq]
  · rw [hc, hz] at hP1
    rw [← wd_set ho2]
    exact hP1
set_option maxRecDepth 100000 in
set_option maxHeartbeats 4000000 in
theorem ct_X6_copyRow (l : Launch) (S : SS) {N : Nat} (hN : N < 2000)  : CtS l yX6_copyRow cX6_copyRow 2 none (rmD 1) [.ref 0, .ref 1] 2 (shRR N) S (none) (upC S 1 (putR (S 1) (S 0) 0 N)) := by
  refine CtF.of (own := RX6) [some (.ref 0), some (.ref 1)] (by decide +kernel) rfl (fun _ => Nat.le_of_ble_eq_true rfl) (fun _ => rfl) ?_
  refine VS.aload_n dX6_copyRow_0 rfl ?_
  refine VS.iconst (0) dX6_copyRow_1 rfl ?_
  refine VS.aload_n dX6_copyRow_2 rfl ?_
  refine VS.iconst (0) dX6_copyRow_3 rfl ?_
  refine VS.aload_n dX6_copyRow_4 rfl ?_
  refine VS.salen (v := nI N) .int dX6_copyRow_5 (by decide) rfl (fun _ => rfl) rfl ?_
  refine VS.aload_n dX6_copyRow_6 rfl ?_
  refine VS.salen (v := nI N) .int dX6_copyRow_7 (by decide) rfl (fun _ => rfl) rfl ?_
  refine VS.mmin dX6_copyRow_8 ml_X6_244 (rmM_D (by decide)) (Nat.le_of_ble_eq_true rfl) ?_
  refine VS.val (y := nI N) (if_neg (Int32.lt_irrefl)) ?_
  refine VS.copyi (k := N) dX6_copyRow_11 ml_X6_249 (by decide) (by decide) rfl rfl rfl (Nat.le_refl _) (Nat.le_refl _) hN ⟨by decide, by decide⟩ (Nat.le_of_ble_eq_true rfl) ?_
  exact VS.vret dX6_copyRow_14 rfl (shk1 rfl)
