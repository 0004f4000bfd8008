/-! the constructors: the class, the reference -/
def sK0 : SS := fun k => if k = 0 then z0 else if k < 8 then gF0 (k - 1) else if k < 10 then z0 else if k < 59 then gF0 ((k - 10) % 7) else if k < 62 then z0 else if k < 69 then gF0 (k - 62) else if k = 69 then z0 else gF0 (k - 70)
theorem all77 {P : Nat → Prop} (h0 : P 0) (h1 : P 1) (h2 : P 2) (h3 : P 3) (h4 : P 4) (h5 : P 5) (h6 : P 6) (h7 : P 7) (h8 : P 8) (h9 : P 9) (h10 : P 10) (h11 : P 11) (h12 : P 12) (h13 : P 13) (h14 : P 14) (h15 : P 15) (h16 : P 16) (h17 : P 17) (h18 : P 18) (h19 : P 19) (h20 : P 20) (h21 : P 21) (h22 : P 22) (h23 : P 23) (h24 : P 24) (h25 : P 25) (h26 : P 26) (h27 : P 27) (h28 : P 28) (h29 : P 29) (h30 : P 30) (h31 : P 31) (h32 : P 32) (h33 : P 33) (h34 : P 34) (h35 : P 35) (h36 : P 36) (h37 : P 37) (h38 : P 38) (h39 : P 39) (h40 : P 40) (h41 : P 41) (h42 : P 42) (h43 : P 43) (h44 : P 44) (h45 : P 45) (h46 : P 46) (h47 : P 47) (h48 : P 48) (h49 : P 49) (h50 : P 50) (h51 : P 51) (h52 : P 52) (h53 : P 53) (h54 : P 54) (h55 : P 55) (h56 : P 56) (h57 : P 57) (h58 : P 58) (h59 : P 59) (h60 : P 60) (h61 : P 61) (h62 : P 62) (h63 : P 63) (h64 : P 64) (h65 : P 65) (h66 : P 66) (h67 : P 67) (h68 : P 68) (h69 : P 69) (h70 : P 70) (h71 : P 71) (h72 : P 72) (h73 : P 73) (h74 : P 74) (h75 : P 75) (h76 : P 76) : ∀ k, k < 77 → P k
  | 0, _ => h0
  | 1, _ => h1
  | 2, _ => h2
  | 3, _ => h3
  | 4, _ => h4
  | 5, _ => h5
  | 6, _ => h6
  | 7, _ => h7
  | 8, _ => h8
  | 9, _ => h9
  | 10, _ => h10
  | 11, _ => h11
  | 12, _ => h12
  | 13, _ => h13
  | 14, _ => h14
  | 15, _ => h15
  | 16, _ => h16
  | 17, _ => h17
  | 18, _ => h18
  | 19, _ => h19
  | 20, _ => h20
  | 21, _ => h21
  | 22, _ => h22
  | 23, _ => h23
  | 24, _ => h24
  | 25, _ => h25
  | 26, _ => h26
  | 27, _ => h27
  | 28, _ => h28
  | 29, _ => h29
  | 30, _ => h30
  | 31, _ => h31
  | 32, _ => h32
  | 33, _ => h33
  | 34, _ => h34
  | 35, _ => h35
  | 36, _ => h36
  | 37, _ => h37
  | 38, _ => h38
  | 39, _ => h39
  | 40, _ => h40
  | 41, _ => h41
  | 42, _ => h42
  | 43, _ => h43
  | 44, _ => h44
  | 45, _ => h45
  | 46, _ => h46
  | 47, _ => h47
  | 48, _ => h48
  | 49, _ => h49
  | 50, _ => h50
  | 51, _ => h51
  | 52, _ => h52
  | 53, _ => h53
  | 54, _ => h54
  | 55, _ => h55
  | 56, _ => h56
  | 57, _ => h57
  | 58, _ => h58
  | 59, _ => h59
  | 60, _ => h60
  | 61, _ => h61
  | 62, _ => h62
  | 63, _ => h63
  | 64, _ => h64
  | 65, _ => h65
  | 66, _ => h66
  | 67, _ => h67
  | 68, _ => h68
  | 69, _ => h69
  | 70, _ => h70
  | 71, _ => h71
  | 72, _ => h72
  | 73, _ => h73
  | 74, _ => h74
  | 75, _ => h75
  | 76, _ => h76
  | n + 77, h => absurd h (by omega)
theorem cell_9 : (Sum.inl (3, 7, Sum.inr (Sum.inr (Sum.inr (Sum.inr (fun i => Option.map (fun z => 1 + 7 + z) (if i < 7 then some (2 + 7 * i) else none)))))) : va_E) = Sum.inl (3, 7, Sum.inr (Sum.inr (Sum.inr (Sum.inr (fun j => if j < 7 then some (10 + 7 * j) else none))))) := by
  refine congrArg (fun f => (Sum.inl (3, 7, Sum.inr (Sum.inr (Sum.inr (Sum.inr f)))) : va_E)) (funext fun i => ?_)
  by_cases h : i < 7
  · rw [if_pos h, if_pos h]; exact congrArg some (show 1 + 7 + (2 + 7 * i) = 10 + 7 * i by omega)
  · rw [if_neg h, if_neg h]; rfl
set_option maxRecDepth 100000 in
set_option maxHeartbeats 400000 in
theorem ct_X6_init (l : Launch) : CtI l yX6_init cX6_init 1 (rmC 4 76 2066) (.inr (5, fsX6)) 77 (shW shK sK0) 76 2066 := by
  refine CtI.of (own := RX6) [some (.ref 0)] (by decide +kernel) rfl rfl (by decide) (fun _ => rfl) ?_
  refine VC.start (fun _ _ => ltE_o rfl) ?_
  refine VC.lift (VS.aload_n dX6_init_0 rfl) ?_
  refine VC.lift (VS.oi dX6_init_1 ml_X6_1 (by decide) (Nat.le_of_ble_eq_true rfl)) ?_
  refine VC.lift (VS.aload_n dX6_init_4 rfl) ?_
  refine VC.new 0 fsX0 dX6_init_5 uw_X0 tyX0 tyX0_ok rfl cl_X6_7 ins_X0 ini_X0 (fun j hj => by rcases (show j = 0 ∨ j = 1 ∨ j = 2 ∨ j = 3 ∨ j = 4 ∨ j = 5 ∨ j = 6 ∨ j = 7 ∨ j = 8 ∨ j = 9 ∨ j = 10 ∨ j = 11 ∨ j = 12 ∨ j = 13 by omega) with rfl | rfl | rfl | rfl | rfl | rfl | rfl | rfl | rfl | rfl | rfl | rfl | rfl | rfl <;> rfl) rfl (XI.g (by decide)) (by decide) XI.new (by decide) rfl rfl ?_
  refine VC.lift (VS.dup dX6_init_8 rfl) ?_
  refine VC.callI (ct_X0_init l) dX6_init_9 mi_X0_init rfl im_X0_init ml_X6_9 (rmI (by decide) (by decide) (by decide) (by decide)) (Nat.le_of_ble_eq_true rfl) rfl (fun _ _ _ => rfl) (XI.g (by decide)) XI.new (by decide) (by decide) clo_X0 rfl rfl ?_
  refine VC.putF 5 [.null, .null, .null, .null, .null] dX6_init_12 uw_X6 tyX6 tyX6_ok nmX6 rfl (by decide) 0 rfl (by decide) fl_X6_10 rfl rfl XI.nm rfl (fun _ => rfl) (fun _ => rfl) (by decide) rfl ?_
  refine VC.lift (VS.aload_n dX6_init_15 rfl) ?_
  refine VC.new 2 fsX3 dX6_init_16 uw_X3 tyX3 tyX3_ok rfl cl_X6_16 ins_X3 ini_X3 (fun j hj => by rcases (show j = 0 ∨ j = 1 ∨ j = 2 by omega) with rfl | rfl | rfl <;> rfl) rfl (XI.g (by decide)) (by decide) XI.new (by decide) rfl rfl ?_
  refine VC.lift (VS.dup dX6_init_19 rfl) ?_
  refine VC.callI (ct_X3_init l) dX6_init_20 mi_X3_init rfl im_X3_init ml_X6_18 (rmI (by decide) (by decide) (by decide) (by decide)) (Nat.le_of_ble_eq_true rfl) rfl (fun _ _ _ => rfl) (XI.g (by decide)) XI.new (by decide) (by decide) clo_X3 rfl rfl ?_
  refine VC.putF 5 [.ref 1, .null, .null, .null, .null] dX6_init_23 uw_X6 tyX6 tyX6_ok nmX6 rfl (by decide) 1 rfl (by decide) fl_X6_19 rfl rfl XI.nm rfl (fun _ => rfl) (fun _ => rfl) (by decide) rfl ?_
  refine VC.lift (VS.aload_n dX6_init_26 rfl) ?_
  refine VC.new 1 fsX2 dX6_init_27 uw_X2 tyX2 tyX2_ok rfl cl_X6_23 ins_X2 ini_X2 (fun j hj => by rcases (show j = 0 ∨ j = 1 by omega) with rfl | rfl <;> rfl) rfl (XI.g (by decide)) (by decide) XI.new (by decide) rfl rfl ?_
  refine VC.lift (VS.dup dX6_init_30 rfl) ?_
  refine VC.callIN RX6 (ct_X2_init l) dX6_init_31 mi_X2_init rfl im_X2_init (by decide) (rmI (by decide) (by decide) (by decide) (by decide)) (Nat.le_of_ble_eq_true rfl) rfl (fun _ _ _ => rfl) (XI.g (by decide)) XI.new (by decide) (by decide) clo_X2 rfl rfl ?_
  refine VC.putF 5 [.ref 1, .ref 8, .null, .null, .null] dX6_init_34 uw_X6 tyX6 tyX6_ok nmX6 rfl (by decide) 2 rfl (by decide) fl_X6_26 rfl rfl XI.nm rfl (fun _ => rfl) (fun _ => rfl) (by decide) rfl ?_
  refine VC.lift (VS.aload_n dX6_init_37 rfl) ?_
  refine VC.new 4 fsX5 dX6_init_38 uw_X5 tyX5 tyX5_ok rfl cl_X6_30 ins_X5 ini_X5 (fun j hj => by rcases (show j = 0 ∨ j = 1 by omega) with rfl | rfl <;> rfl) rfl (XI.g (by decide)) (by decide) XI.new (by decide) rfl rfl ?_
  refine VC.lift (VS.dup dX6_init_41 rfl) ?_
  refine VC.callIN RX6 (ct_X5_init l) dX6_init_42 mi_X5_init rfl im_X5_init (by decide) (rmI (by decide) (by decide) (by decide) (by decide)) (Nat.le_of_ble_eq_true rfl) rfl (fun _ _ _ => rfl) (XI.g (by decide)) XI.new (by decide) (by decide) clo_X5 rfl rfl ?_
  refine VC.putF 5 [.ref 1, .ref 8, .ref 59, .null, .null] dX6_init_45 uw_X6 tyX6 tyX6_ok nmX6 rfl (by decide) 3 rfl (by decide) fl_X6_33 rfl rfl XI.nm rfl (fun _ => rfl) (fun _ => rfl) (by decide) rfl ?_
  refine VC.lift (VS.aload_n dX6_init_48 rfl) ?_
  refine VC.new 4 fsX5 dX6_init_49 uw_X5 tyX5 tyX5_ok rfl cl_X6_30 ins_X5 ini_X5 (fun j hj => by rcases (show j = 0 ∨ j = 1 by omega) with rfl | rfl <;> rfl) rfl (XI.g (by decide)) (by decide) XI.new (by decide) rfl rfl ?_
  refine VC.lift (VS.dup dX6_init_52 rfl) ?_
  refine VC.callIN RX6 (ct_X5_init l) dX6_init_53 mi_X5_init rfl im_X5_init (by decide) (rmI (by decide) (by decide) (by decide) (by decide)) (Nat.le_of_ble_eq_true rfl) rfl (fun _ _ _ => rfl) (XI.g (by decide)) XI.new (by decide) (by decide) clo_X5 rfl rfl ?_
  refine VC.putF 5 [.ref 1, .ref 8, .ref 59, .ref 61, .null] dX6_init_56 uw_X6 tyX6 tyX6_ok nmX6 rfl (by decide) 4 rfl (by decide) fl_X6_37 rfl rfl XI.nm rfl (fun _ => rfl) (fun _ => rfl) (by decide) rfl ?_
  exact VC.drop (VS.irt dX6_init_59 (all77 rfl rfl rfl rfl rfl rfl rfl rfl rfl cell_9 rfl rfl rfl rfl rfl rfl rfl rfl rfl rfl rfl rfl rfl rfl rfl rfl rfl rfl rfl rfl rfl rfl rfl rfl rfl rfl rfl rfl rfl rfl rfl rfl rfl rfl rfl rfl rfl rfl rfl rfl rfl rfl rfl rfl rfl rfl rfl rfl rfl rfl rfl rfl rfl rfl rfl rfl rfl rfl rfl rfl rfl rfl rfl rfl rfl rfl rfl))
theorem shLt_K {k : Nat} (hk : k < 77) : shLt 77 (shK k) := by
  by_cases h : 10 ≤ k ∧ k < 59
  · have e : shK k = shR (fun i => 10 + 7 * ((k - 10) / 7) + i) (shG ((k - 10) % 7)) := by
      unfold shK
      rw [if_neg (by omega), if_neg (by omega), if_neg (by omega), if_neg (by omega), if_pos (by omega)]
    rw [e]
    exact shLt_G (by omega) (Nat.mod_lt _ (by decide))
  · by_cases h1 : 1 ≤ k ∧ k < 8
    · rw [show shK k = shR (fun i => 1 + i) (shG (k - 1)) by unfold shK; rw [if_neg (by omega), if_pos (by omega)]]
      exact shLt_G (by omega) (by omega)
    · by_cases h2 : 62 ≤ k ∧ k < 69
      · rw [show shK k = shR (fun i => 62 + i) (shG (k - 62)) by unfold shK; rw [if_neg (by omega), if_neg (by omega), if_neg (by omega), if_neg (by omega), if_neg (by omega), if_neg (by omega), if_neg (by omega), if_pos (by omega)]]
        exact shLt_G (by omega) (by omega)
      · by_cases h3 : 70 ≤ k
        · rw [show shK k = shR (fun i => 70 + i) (shG (k - 70)) by unfold shK; rw [if_neg (by omega), if_neg (by omega), if_neg (by omega), if_neg (by omega), if_neg (by omega), if_neg (by omega), if_neg (by omega), if_neg (by omega), if_neg (by omega)]]
          exact shLt_G (by omega) (by omega)
        · rcases (show k = 0 ∨ k = 8 ∨ k = 9 ∨ k = 59 ∨ k = 60 ∨ k = 61 ∨ k = 69 by omega) with rfl | rfl | rfl | rfl | rfl | rfl | rfl
          · rfl
          · rfl
          · intro i r hr
            have hr2 : (if i < 7 then some (10 + 7 * i) else none) = some r := hr
            split at hr2
            · cases hr2; omega
            · cases hr2
          · rfl
          · trivial
          · rfl
          · rfl
theorem clo_X6 : Clo 77 (shW shK sK0) := Clo.sh (fun k hk => shLt_K hk)
/-- the reference's first row -/
def sI1 (i : Nat) : Nat → Int32 := putR z0 (fun _ => 20) 8 i
def sI0 : Nat → Int32 := upd (upd (upd (upd (upd (sI1 3) 2 2) 3 5) 4 4) 5 40) 30 (-6)
def zz : SS := fun _ => z0
def sM0 (f : Nat → Int32) : SS := upC zz 1 f
theorem sM0_u {f : Nat → Int32} {j : Nat} {v : Int32} : up2 (sM0 f) 1 j v = sM0 (upd f j v) := by
  unfold sM0 up2; rw [upC_upC, upC_at]
