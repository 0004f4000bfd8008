/-! the constructors -/
theorem VC.start {l : Launch} {R : Room} {own : String} {cc : ByteArray} {nL : Nat} {X : XT} {cl sl n : Nat} {g : Nat → va_E} {pc : Nat} {L : List (Option Value)} {st : List Value} (hc : Clo n g) (kk : VC l R own cc nL X cl sl n g pc L st) : VS l R own cc nL X cl sl n g pc L st := kk hc
def shS (h : Shp) : va_E := shC h (fun _ => 0)
/-- a shape's references stay within -/
def shLt (n : Nat) (h : Shp) : Prop := match h with
  | .inl (_, fl) => fl.all (fun o => match o with
    | some r => decide (r < n)
    | none => true) = true
  | .inr (.inl _) => True
  | .inr (.inr (_, f)) => ∀ i r, f i = some r → r < n
theorem shLt_E {n : Nat} {h : Shp} {v : Nat → Int32} (hh : shLt n h) : ltE n (shC h v) := by
  rcases h with ⟨ci, fl⟩ | z | ⟨N, f⟩
  · intro r hr
    have hr2 : Value.ref r ∈ shF fl v := hr
    obtain ⟨i, hi, e⟩ := List.mem_mapIdx.mp hr2
    have hm : fl[i] ∈ fl := List.getElem_mem hi
    have h2 := List.all_eq_true.mp hh _ hm
    cases hf : fl[i] with
    | none => rw [hf] at e; cases e
    | some q =>
      rw [hf] at e h2
      cases e
      simpa using h2
  · trivial
  · exact hh
theorem Clo.sh {n : Nat} {sh : Nat → Shp} {S : SS} (h : ∀ k, k < n → shLt n (sh k)) : Clo n (shW sh S) := fun k hk => shLt_E (h k hk)
set_option maxRecDepth 100000 in
set_option maxHeartbeats 400000 in
theorem ct_X4_init (l : Launch) : CtI l yX4_init cX4_init 1 (rmC 1 0 0) (.inr (3, fsX4)) 1 (fun _ => .inr (3, [.int 20, .int 0, .int 0, .int 0, .int 0, .int 0, .int 0])) 0 0 := by
  refine CtI.of (own := RX4) [some (.ref 0)] (by decide +kernel) rfl rfl (by decide) (fun _ => rfl) ?_
  refine VC.start (fun _ _ => ltE_o rfl) ?_
  refine VC.lift (VS.aload_n dX4_init_0 rfl) ?_
  refine VC.lift (VS.oi dX4_init_1 ml_X4_1 (by decide) (Nat.le_of_ble_eq_true rfl)) ?_
  refine VC.lift (VS.aload_n dX4_init_4 rfl) ?_
  refine VC.lift (VS.bipush (20) dX4_init_5 rfl) ?_
  refine VC.putf 3 [.int 0, .int 0, .int 0, .int 0, .int 0, .int 0, .int 0] dX4_init_7 uw_X4 tyX4 tyX4_ok nmX4 rfl (by decide) 0 rfl (by decide) fl_X4_9 rfl rfl (fun _ => rfl) (fun _ => rfl) (by decide) rfl ?_
  exact VC.drop (VS.irt dX4_init_10 (fun k hk => by rcases (show k = 0 by omega) with rfl <;> rfl))
theorem clo_X4 : Clo 1 (fun _ => .inr (3, [.int 20, .int 0, .int 0, .int 0, .int 0, .int 0, .int 0])) := fun _ _ => ltE_o rfl
set_option maxRecDepth 100000 in
set_option maxHeartbeats 400000 in
theorem ct_X2_init (l : Launch) : CtI l yX2_init cX2_init 1 (rmC 1 1 80) (.inr (1, fsX2)) 2 (fun k => if k = 0 then .inr (1, [.ref 1, .int 0]) else .inl (0, 80, .inl (fun _ => 0))) 1 80 := by
  refine CtI.of (own := RX2) [some (.ref 0)] (by decide +kernel) rfl rfl (by decide) (fun _ => rfl) ?_
  refine VC.start (fun _ _ => ltE_o rfl) ?_
  refine VC.lift (VS.aload_n dX2_init_0 rfl) ?_
  refine VC.lift (VS.oi dX2_init_1 ml_X2_3 (by decide) (Nat.le_of_ble_eq_true rfl)) ?_
  refine VC.lift (VS.aload_n dX2_init_4 rfl) ?_
  refine VC.lift (VS.bipush (80) dX2_init_5 rfl) ?_
  refine VC.newa 0 80 .char 80 dX2_init_7 ac_char rfl rfl (fun _ => rfl) rfl (by decide) (by decide) (XI.g (by decide)) (by decide) XI.new (by decide) rfl rfl ?_
  refine VC.putF 1 [.null, .int 0] dX2_init_9 uw_X2 tyX2 tyX2_ok nmX2 rfl (by decide) 0 rfl (by decide) fl_X2_11 rfl rfl XI.nm rfl (fun _ => rfl) (fun _ => rfl) (by decide) rfl ?_
  exact VC.drop (VS.irt dX2_init_12 (fun k hk => by rcases (show k = 0 ∨ k = 1 by omega) with rfl | rfl <;> rfl))
theorem clo_X2 : Clo 2 (fun k => if k = 0 then .inr (1, [.ref 1, .int 0]) else .inl (0, 80, .inl (fun _ => 0))) := fun k hk => by rcases (show k = 0 ∨ k = 1 by omega) with rfl | rfl <;> first | exact ltE_o rfl | trivial
def gS0 (a b : Nat → Int32) : SS := fun c => if c = 0 then (fun j => if j = 7 then -6 else 0) else if c = 1 then a else if c = 5 then b else if c = 6 then (fun _ => 0) else (fun j => if j = 0 then 20 else 0)
theorem gS0_1 {a b : Nat → Int32} {i : Nat} {v : Int32} : up2 (gS0 a b) 1 i v = gS0 (upd a i v) b := by
  funext c
  unfold up2 upC
  by_cases h : c = 1
  · subst h; rfl
  · rw [if_neg h]; unfold gS0
    by_cases h0 : c = 0
    · rw [if_pos h0, if_pos h0]
    · rw [if_neg h0, if_neg h0, if_neg h, if_neg h]
theorem gS0_5 {a b : Nat → Int32} {i : Nat} {v : Int32} : up2 (gS0 a b) 5 i v = gS0 a (upd b i v) := by
  funext c
  unfold up2 upC
  by_cases h : c = 5
  · subst h; rfl
  · rw [if_neg h]; unfold gS0
    by_cases h0 : c = 0
    · rw [if_pos h0, if_pos h0]
    · rw [if_neg h0, if_neg h0]
      by_cases h1 : c = 1
      · rw [if_pos h1, if_pos h1]
      · rw [if_neg h1, if_neg h1, if_neg h, if_neg h]
def z0 : Nat → Int32 := fun _ => 0
def gF0 : SS := gS0 (putR z0 k_first 0 4) (putR z0 (fun _ => -6) 0 8)
theorem putR_s0 (f g : Nat → Int32) (i : Nat) : upd (putR f g 0 i) i (g i) = putR f g 0 (i + 1) := by
  have h := putR_s f g 0 i
  rw [Nat.zero_add] at h
  exact h
set_option maxRecDepth 100000 in
set_option maxHeartbeats 400000 in
theorem ct_X0_init (l : Launch) : CtI l yX0_init cX0_init 2 (rmC 2 6 183) (.inr (0, fsX0)) 7 (shW shG gF0) 6 183 := by
  refine CtI.of (own := RX0) [some (.ref 0), none] (by decide +kernel) rfl rfl (by decide) (fun _ => rfl) ?_
  refine VC.start (fun _ _ => ltE_o rfl) ?_
  refine VC.lift (VS.aload_n dX0_init_0 rfl) ?_
  refine VC.lift (VS.oi dX0_init_1 ml_X0_3 (by decide) (Nat.le_of_ble_eq_true rfl)) ?_
  refine VC.lift (VS.aload_n dX0_init_4 rfl) ?_
  refine VC.lift (VS.iconst (4) dX0_init_5 rfl) ?_
  refine VC.newa 1 4 .int 4 dX0_init_6 ac_int rfl rfl (fun _ => rfl) rfl (by decide) (by decide) (XI.g (by decide)) (by decide) XI.new (by decide) rfl rfl ?_
  refine VC.putF 0 [.null, .int 0, .int 0, .int 0, .int 0, .int 0, .int 0, .int 0, .null, .null, .null, .null, .null, .int 0] dX0_init_8 uw_X0 tyX0 tyX0_ok nmX0 rfl (by decide) 0 rfl (by decide) fl_X0_9 rfl rfl XI.nm rfl (fun _ => rfl) (fun _ => rfl) (by decide) rfl ?_
  refine VC.lift (VS.aload_n dX0_init_11 rfl) ?_
  refine VC.lift (VS.bipush (-6) dX0_init_12 rfl) ?_
  refine VC.putf 0 [.ref 1, .int 0, .int 0, .int 0, .int 0, .int 0, .int 0, .int 0, .null, .null, .null, .null, .null, .int 0] dX0_init_14 uw_X0 tyX0 tyX0_ok nmX0 rfl (by decide) 7 rfl (by decide) fl_X0_15 rfl rfl (fun _ => rfl) (fun _ => rfl) (by decide) rfl ?_
  refine VC.lift (VS.aload_n dX0_init_17 rfl) ?_
  refine VC.new 3 fsX4 dX0_init_18 uw_X4 tyX4 tyX4_ok rfl cl_X0_19 ins_X4 ini_X4 (fun j hj => by rcases (show j = 0 ∨ j = 1 ∨ j = 2 ∨ j = 3 ∨ j = 4 ∨ j = 5 ∨ j = 6 by omega) with rfl | rfl | rfl | rfl | rfl | rfl | rfl <;> rfl) rfl (XI.g (by decide)) (by decide) XI.new (by decide) rfl rfl ?_
  refine VC.lift (VS.dup dX0_init_21 rfl) ?_
  refine VC.callIN RX6 (ct_X4_init l) dX0_init_22 mi_X4_init rfl im_X4_init (by decide) (rmI (by decide) (by decide) (by decide) (by decide)) (Nat.le_of_ble_eq_true rfl) rfl (fun _ _ _ => rfl) (XI.g (by decide)) XI.new (by decide) (by decide) clo_X4 rfl rfl ?_
  refine VC.putF 0 [.ref 1, .int 0, .int 0, .int 0, .int 0, .int 0, .int 0, .int (-6), .null, .null, .null, .null, .null, .int 0] dX0_init_25 uw_X0 tyX0 tyX0_ok nmX0 rfl (by decide) 8 rfl (by decide) fl_X0_22 rfl rfl XI.nm rfl (fun _ => rfl) (fun _ => rfl) (by decide) rfl ?_
  refine VC.lift (VS.aload_n dX0_init_28 rfl) ?_
  refine VC.new 3 fsX4 dX0_init_29 uw_X4 tyX4 tyX4_ok rfl cl_X0_19 ins_X4 ini_X4 (fun j hj => by rcases (show j = 0 ∨ j = 1 ∨ j = 2 ∨ j = 3 ∨ j = 4 ∨ j = 5 ∨ j = 6 by omega) with rfl | rfl | rfl | rfl | rfl | rfl | rfl <;> rfl) rfl (XI.g (by decide)) (by decide) XI.new (by decide) rfl rfl ?_
  refine VC.lift (VS.dup dX0_init_32 rfl) ?_
  refine VC.callIN RX6 (ct_X4_init l) dX0_init_33 mi_X4_init rfl im_X4_init (by decide) (rmI (by decide) (by decide) (by decide) (by decide)) (Nat.le_of_ble_eq_true rfl) rfl (fun _ _ _ => rfl) (XI.g (by decide)) XI.new (by decide) (by decide) clo_X4 rfl rfl ?_
  refine VC.putF 0 [.ref 1, .int 0, .int 0, .int 0, .int 0, .int 0, .int 0, .int (-6), .ref 2, .null, .null, .null, .null, .int 0] dX0_init_36 uw_X0 tyX0 tyX0_ok nmX0 rfl (by decide) 9 rfl (by decide) fl_X0_26 rfl rfl XI.nm rfl (fun _ => rfl) (fun _ => rfl) (by decide) rfl ?_
  refine VC.lift (VS.aload_n dX0_init_39 rfl) ?_
  refine VC.new 3 fsX4 dX0_init_40 uw_X4 tyX4 tyX4_ok rfl cl_X0_19 ins_X4 ini_X4 (fun j hj => by rcases (show j = 0 ∨ j = 1 ∨ j = 2 ∨ j = 3 ∨ j = 4 ∨ j = 5 ∨ j = 6 by omega) with rfl | rfl | rfl | rfl | rfl | rfl | rfl <;> rfl) rfl (XI.g (by decide)) (by decide) XI.new (by decide) rfl rfl ?_
  refine VC.lift (VS.dup dX0_init_43 rfl) ?_
  refine VC.callIN RX6 (ct_X4_init l) dX0_init_44 mi_X4_init rfl im_X4_init (by decide) (rmI (by decide) (by decide) (by decide) (by decide)) (Nat.le_of_ble_eq_true rfl) rfl (fun _ _ _ => rfl) (XI.g (by decide)) XI.new (by decide) (by decide) clo_X4 rfl rfl ?_
  refine VC.putF 0 [.ref 1, .int 0, .int 0, .int 0, .int 0, .int 0, .int 0, .int (-6), .ref 2, .ref 3, .null, .null, .null, .int 0] dX0_init_47 uw_X0 tyX0 tyX0_ok nmX0 rfl (by decide) 10 rfl (by decide) fl_X0_29 rfl rfl XI.nm rfl (fun _ => rfl) (fun _ => rfl) (by decide) rfl ?_
  refine VC.lift (VS.aload_n dX0_init_50 rfl) ?_
  refine VC.lift (VS.bipush (8) dX0_init_51 rfl) ?_
  refine VC.newa 1 8 .int 8 dX0_init_53 ac_int rfl rfl (fun _ => rfl) rfl (by decide) (by decide) (XI.g (by decide)) (by decide) XI.new (by decide) rfl rfl ?_
  refine VC.putF 0 [.ref 1, .int 0, .int 0, .int 0, .int 0, .int 0, .int 0, .int (-6), .ref 2, .ref 3, .ref 4, .null, .null, .int 0] dX0_init_55 uw_X0 tyX0 tyX0_ok nmX0 rfl (by decide) 11 rfl (by decide) fl_X0_34 rfl rfl XI.nm rfl (fun _ => rfl) (fun _ => rfl) (by decide) rfl ?_
  refine VC.lift (VS.aload_n dX0_init_58 rfl) ?_
  refine VC.lift (VS.sipush (150) dX0_init_59 rfl) ?_
  refine VC.newa 1 150 .int 150 dX0_init_62 ac_int rfl rfl (fun _ => rfl) rfl (by decide) (by decide) (XI.g (by decide)) (by decide) XI.new (by decide) rfl rfl ?_
  refine VC.putF 0 [.ref 1, .int 0, .int 0, .int 0, .int 0, .int 0, .int 0, .int (-6), .ref 2, .ref 3, .ref 4, .ref 5, .null, .int 0] dX0_init_64 uw_X0 tyX0 tyX0_ok nmX0 rfl (by decide) 12 rfl (by decide) fl_X0_37 rfl rfl XI.nm rfl (fun _ => rfl) (fun _ => rfl) (by decide) rfl ?_
  refine VC.drop ?_
  refine VS.heap (g2 := shW shG (gS0 z0 z0)) (fun k hk => by rcases (show k = 0 ∨ k = 1 ∨ k = 2 ∨ k = 3 ∨ k = 4 ∨ k = 5 ∨ k = 6 by omega) with rfl | rfl | rfl | rfl | rfl | rfl | rfl <;> rfl) ?_
  refine VS.stt (S2 := gS0 (putR z0 k_first 0 0) z0) (by rw [putR_0]) ?_
  refine VS.iconst (0) dX0_init_67 rfl ?_
  refine VS.istore_n dX0_init_68 (by decide) rfl ?_
  refine VS.forS (i0 := 0) (4) (fun i => gS0 (putR z0 k_first 0 i) z0) (fun i => [some (.ref 0), some (.int (nI i))]) (by decide) ?_ (fun i hi ih => ?_)
  · refine VS.iload_n dX0_init_69 rfl ?_
    refine VS.aload_n dX0_init_70 rfl ?_
    refine VS.sgetR 0 dX0_init_71 uw_X0 rfl (by decide) 0 (rfl) rfl (by decide) fl_X0_9 rfl ?_
    refine VS.salen (v := 4) .int dX0_init_74 (by decide) rfl (fun _ => rfl) rfl ?_
    refine VS.icmp_ge 103 dX0_init_75 (by decide) (fun _ => ?_) (fun hh => absurd (by decide) hh)
    refine VS.iconst (0) dX0_init_103 rfl ?_
    refine VS.istore_n dX0_init_104 (by decide) rfl ?_
    refine VS.forS (i0 := 0) (8) (fun i => gS0 (putR z0 k_first 0 4) (putR z0 (fun _ => -6) 0 i)) (fun i => [some (.ref 0), some (.int (nI i))]) (by decide) ?_ (fun i hi ih => ?_)
    · refine VS.iload_n dX0_init_105 rfl ?_
      refine VS.aload_n dX0_init_106 rfl ?_
      refine VS.sgetR 0 dX0_init_107 uw_X0 rfl (by decide) 11 (rfl) rfl (by decide) fl_X0_34 rfl ?_
      refine VS.salen (v := 8) .int dX0_init_110 (by decide) rfl (fun _ => rfl) rfl ?_
      refine VS.icmp_ge 128 dX0_init_111 (by decide) (fun _ => ?_) (fun hh => absurd (by decide) hh)
      exact VS.irt dX0_init_128 (fun k hk => rfl)
    · refine VS.iload_n dX0_init_105 rfl ?_
      refine VS.aload_n dX0_init_106 rfl ?_
      refine VS.sgetR 0 dX0_init_107 uw_X0 rfl (by decide) 11 (rfl) rfl (by decide) fl_X0_34 rfl ?_
      refine VS.salen (v := 8) .int dX0_init_110 (by decide) rfl (fun _ => rfl) rfl ?_
      refine VS.icmp_ge 128 dX0_init_111 (by decide) (fun hh => absurd hh (nI_ge (b := 8) hi (by decide))) (fun _ => ?_)
      refine VS.aload_n dX0_init_114 rfl ?_
      refine VS.sgetR 0 dX0_init_115 uw_X0 rfl (by decide) 11 (rfl) rfl (by decide) fl_X0_34 rfl ?_
      refine VS.iload_n dX0_init_118 rfl ?_
      refine VS.bipush (-6) dX0_init_119 rfl ?_
      refine VS.siast (i) dX0_init_121 (by decide) rfl (rfl) (by omega) (by decide) ?_
      refine VS.stt (gS0_5.trans (congrArg (gS0 (putR z0 k_first 0 4)) (putR_s0 z0 (fun _ => -6) i))) ?_
      refine VS.iinc (nI (i + 1)) dX0_init_122 rfl (by decide) ((nI_succ i).symm) rfl ?_
      refine VS.goto 105 dX0_init_125 (by decide) ?_
      exact ih
  · refine VS.iload_n dX0_init_69 rfl ?_
    refine VS.aload_n dX0_init_70 rfl ?_
    refine VS.sgetR 0 dX0_init_71 uw_X0 rfl (by decide) 0 (rfl) rfl (by decide) fl_X0_9 rfl ?_
    refine VS.salen (v := 4) .int dX0_init_74 (by decide) rfl (fun _ => rfl) rfl ?_
    refine VS.icmp_ge 103 dX0_init_75 (by decide) (fun hh => absurd hh (nI_ge (b := 4) hi (by decide))) (fun _ => ?_)
    refine VS.iload_n dX0_init_78 rfl ?_
    refine VS.gslen (v := 4) (ref := "") (fun _ _ _ h => h.1.1) dX0_init_79 dX0_init_82 fl_X0_40 rfl ?_
    refine VS.icmp_ge 103 dX0_init_83 (by decide) (fun hh => absurd hh (nI_ge (b := 4) hi (by decide))) (fun _ => ?_)
    refine VS.aload_n dX0_init_86 rfl ?_
    refine VS.sgetR 0 dX0_init_87 uw_X0 rfl (by decide) 0 (rfl) rfl (by decide) fl_X0_9 rfl ?_
    refine VS.iload_n dX0_init_90 rfl ?_
    refine VS.gsld (ref := "") (fun _ _ _ h => h.1.1) dX0_init_91 dX0_init_94 dX0_init_95 fl_X0_40 rfl (vp_in_nI hi (by omega)) ?_
    refine VS.val (y := k_first i) (by rw [nI_clamp (by omega)]) ?_
    refine VS.siast (i) dX0_init_96 (by decide) rfl (rfl) (by omega) (by decide) ?_
    refine VS.stt (gS0_1.trans (congrArg (fun z => gS0 z z0) (putR_s0 z0 k_first i))) ?_
    refine VS.iinc (nI (i + 1)) dX0_init_97 rfl (by decide) ((nI_succ i).symm) rfl ?_
    refine VS.goto 69 dX0_init_100 (by decide) ?_
    exact ih
theorem clo_X0 : Clo 7 (shW shG gF0) := Clo.sh (fun k hk => by rcases (show k = 0 ∨ k = 1 ∨ k = 2 ∨ k = 3 ∨ k = 4 ∨ k = 5 ∨ k = 6 by omega) with rfl | rfl | rfl | rfl | rfl | rfl | rfl <;> first | rfl | trivial)
set_option maxRecDepth 100000 in
set_option maxHeartbeats 400000 in
theorem ct_X5_init (l : Launch) : CtI l yX5_init cX5_init 1 (rmC 3 7 197) (.inr (4, fsX5)) 8 (fun k => if k = 0 then .inr (4, [.ref 1, .int 0]) else rE (fun i => 1 + i) (shW shG gF0 (k - 1))) 7 197 := by
  refine CtI.of (own := RX5) [some (.ref 0)] (by decide +kernel) rfl rfl (by decide) (fun _ => rfl) ?_
  refine VC.start (fun _ _ => ltE_o rfl) ?_
  refine VC.lift (VS.aload_n dX5_init_0 rfl) ?_
  refine VC.lift (VS.oi dX5_init_1 ml_X5_1 (by decide) (Nat.le_of_ble_eq_true rfl)) ?_
  refine VC.lift (VS.aload_n dX5_init_4 rfl) ?_
  refine VC.new 0 fsX0 dX5_init_5 uw_X0 tyX0 tyX0_ok rfl cl_X5_7 ins_X0 ini_X0 (fun j hj => by rcases (show j = 0 ∨ j = 1 ∨ j = 2 ∨ j = 3 ∨ j = 4 ∨ j = 5 ∨ j = 6 ∨ j = 7 ∨ j = 8 ∨ j = 9 ∨ j = 10 ∨ j = 11 ∨ j = 12 ∨ j = 13 by omega) with rfl | rfl | rfl | rfl | rfl | rfl | rfl | rfl | rfl | rfl | rfl | rfl | rfl | rfl <;> rfl) rfl (XI.g (by decide)) (by decide) XI.new (by decide) rfl rfl ?_
  refine VC.lift (VS.dup dX5_init_8 rfl) ?_
  refine VC.callI (ct_X0_init l) dX5_init_9 mi_X0_init rfl im_X0_init ml_X5_9 (rmI (by decide) (by decide) (by decide) (by decide)) (Nat.le_of_ble_eq_true rfl) rfl (fun _ _ _ => rfl) (XI.g (by decide)) XI.new (by decide) (by decide) clo_X0 rfl rfl ?_
  refine VC.putF 4 [.null, .int 0] dX5_init_12 uw_X5 tyX5 tyX5_ok nmX5 rfl (by decide) 0 rfl (by decide) fl_X5_10 rfl rfl XI.nm rfl (fun _ => rfl) (fun _ => rfl) (by decide) rfl ?_
  exact VC.drop (VS.irt dX5_init_15 (fun k hk => by rcases (show k = 0 ∨ k = 1 ∨ k = 2 ∨ k = 3 ∨ k = 4 ∨ k = 5 ∨ k = 6 ∨ k = 7 by omega) with rfl | rfl | rfl | rfl | rfl | rfl | rfl | rfl <;> rfl))
theorem clo_X5 : Clo 8 (fun k => if k = 0 then .inr (4, [.ref 1, .int 0]) else rE (fun i => 1 + i) (shW shG gF0 (k - 1))) := fun k hk => by
  show ltE 8 (if k = 0 then .inr (4, [.ref 1, .int 0]) else rE (fun i => 1 + i) (shW shG gF0 (k - 1)))
  by_cases h : k = 0
  · rw [if_pos h]; exact ltE_o rfl
  · rw [if_neg h]; exact ltE_rE (o := 1) (clo_X0 (k - 1) (by omega))
