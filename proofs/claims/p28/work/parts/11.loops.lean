/-! static methods with loops -/
set_option maxRecDepth 100000 in
set_option maxHeartbeats 4000000 in
theorem ct_J6_bitCount_0f7a4 (l : Launch) (x : Int32) : CtN l yJ6_bitCount_0f7a4 cJ6_bitCount_0f7a4 1 (some FieldType.int) (rmD 0) [.int x] (pcI x) := by
  refine CtF.of (own := RJ6) [some (.int x)] (by decide +kernel) rfl (fun _ => Nat.le_of_ble_eq_true rfl) (fun _ => rfl) ?_
  refine VS.iload_n dJ6_bitCount_0f7a4_0 rfl ?_
  refine VS.iload_n dJ6_bitCount_0f7a4_1 rfl ?_
  refine VS.iconst (1) dJ6_bitCount_0f7a4_2 rfl ?_
  refine VS.iushr dJ6_bitCount_0f7a4_3 ?_
  refine VS.ldc_w dJ6_bitCount_0f7a4_4 kc_J6_265 ?_
  refine VS.iand dJ6_bitCount_0f7a4_7 ?_
  refine VS.isub dJ6_bitCount_0f7a4_8 ?_
  refine VS.istore_n dJ6_bitCount_0f7a4_9 (by decide) rfl ?_
  refine VS.iload_n dJ6_bitCount_0f7a4_10 rfl ?_
  refine VS.ldc_w dJ6_bitCount_0f7a4_11 kc_J6_266 ?_
  refine VS.iand dJ6_bitCount_0f7a4_14 ?_
  refine VS.iload_n dJ6_bitCount_0f7a4_15 rfl ?_
  refine VS.iconst (2) dJ6_bitCount_0f7a4_16 rfl ?_
  refine VS.iushr dJ6_bitCount_0f7a4_17 ?_
  refine VS.ldc_w dJ6_bitCount_0f7a4_18 kc_J6_266 ?_
  refine VS.iand dJ6_bitCount_0f7a4_21 ?_
  refine VS.iadd dJ6_bitCount_0f7a4_22 ?_
  refine VS.istore_n dJ6_bitCount_0f7a4_23 (by decide) rfl ?_
  refine VS.iload_n dJ6_bitCount_0f7a4_24 rfl ?_
  refine VS.iload_n dJ6_bitCount_0f7a4_25 rfl ?_
  refine VS.iconst (4) dJ6_bitCount_0f7a4_26 rfl ?_
  refine VS.iushr dJ6_bitCount_0f7a4_27 ?_
  refine VS.iadd dJ6_bitCount_0f7a4_28 ?_
  refine VS.ldc_w dJ6_bitCount_0f7a4_29 kc_J6_267 ?_
  refine VS.iand dJ6_bitCount_0f7a4_32 ?_
  refine VS.istore_n dJ6_bitCount_0f7a4_33 (by decide) rfl ?_
  refine VS.iload_n dJ6_bitCount_0f7a4_34 rfl ?_
  refine VS.iload_n dJ6_bitCount_0f7a4_35 rfl ?_
  refine VS.bipush (8) dJ6_bitCount_0f7a4_36 rfl ?_
  refine VS.iushr dJ6_bitCount_0f7a4_38 ?_
  refine VS.iadd dJ6_bitCount_0f7a4_39 ?_
  refine VS.istore_n dJ6_bitCount_0f7a4_40 (by decide) rfl ?_
  refine VS.iload_n dJ6_bitCount_0f7a4_41 rfl ?_
  refine VS.iload_n dJ6_bitCount_0f7a4_42 rfl ?_
  refine VS.bipush (16) dJ6_bitCount_0f7a4_43 rfl ?_
  refine VS.iushr dJ6_bitCount_0f7a4_45 ?_
  refine VS.iadd dJ6_bitCount_0f7a4_46 ?_
  refine VS.istore_n dJ6_bitCount_0f7a4_47 (by decide) rfl ?_
  refine VS.iload_n dJ6_bitCount_0f7a4_48 rfl ?_
  refine VS.bipush (63) dJ6_bitCount_0f7a4_49 rfl ?_
  refine VS.iand dJ6_bitCount_0f7a4_51 ?_
  exact VS.iret dJ6_bitCount_0f7a4_52 (congrArg (fun z => some (Value.int z)) (swar_pc x).symm) (fun _ _ => rfl)
theorem nge8 {i : Nat} (h : i < 8) : ¬ (8 : Int32) ≤ nI i := nI_ge (b := 8) h (by decide)
theorem nge28 {i : Nat} (h : i < 28) : ¬ (28 : Int32) ≤ nI i := nI_ge (b := 28) h (by decide)
theorem arJ_s {p : Int32} {i : Nat} (h : ¬ nI i = p) : arJ p i ||| (1 : Int32) <<< (eI p (nI i) &&& 31) = arJ p (i + 1) := (congrArg (fun z => arJ p i ||| z) (if_neg h)).symm
theorem arJ_z {p : Int32} {i : Nat} (h : nI i = p) : arJ p i ||| 0 = arJ p (i + 1) := (congrArg (fun z => arJ p i ||| z) (if_pos h)).symm
theorem arJ_at {p : Nat} (h : p < 8) : arJ (nI p) 8 = k_at p := by
  revert p; decide +kernel
def thI (p : Nat) : Int32 := (153391689 <<< (nI p &&& 31)) &&& 268435455
/-- how many roads a third has -/
def thN (p : Nat) : Nat := if p = 0 then 10 else 9
theorem thJ_at {p : Nat} (h : p < 3) : thJ (nI p) (thN p) = thI p := by
  revert p; decide +kernel
theorem th_in {p : Nat} (h : p < 3) : ∀ i, i < thN p → ¬ (28 : Int32) ≤ nI p + 3 * nI i := by
  revert p; decide +kernel
theorem th_out {p : Nat} (h : p < 3) : (28 : Int32) ≤ nI p + 3 * nI (thN p) := by
  revert p; decide +kernel
theorem th_s (p : Int32) (i : Nat) : p + 3 * nI i + Int32.ofInt 3 = p + 3 * nI (i + 1) := by
  rw [nI_succ, Int32.mul_add, Int32.add_assoc]; rfl
theorem atP {j : Nat} (h : j < 8) : (if 0 ≤ nI j ∧ nI j < 8 then k_at (nI j).toNatClampNeg else 0) = k_at j := by
  revert j; decide +kernel
theorem nIj {i p : Nat} (hi : i < 8) (hp : p < 8) (h : nI i = nI p) : i = p := (nI_eq (by omega) (by omega)).mp h
theorem pbJ_y {f : Int32} {p i : Nat} (h : ¬ nI i = nI p) (h2 : ¬ f &&& k_at i = 0) : pbJ f p i ||| ((1 : Int32) <<< (nI i &&& 31)) = pbJ f p (i + 1) := by
  have : i ≠ p := fun q => h (by rw [q])
  exact (if_pos ⟨this, h2⟩).symm
theorem pbJ_n1 {f : Int32} {p i : Nat} (hi : i < 8) (hp : p < 8) (h : nI i = nI p) : pbJ f p (i + 1) = pbJ f p i := if_neg (fun q => q.1 (nIj hi hp h))
theorem pbJ_n2 {f : Int32} {p i : Nat} (h : f &&& k_at i = 0) : pbJ f p (i + 1) = pbJ f p i := if_neg (fun q => q.2 h)
set_option maxRecDepth 100000 in
set_option maxHeartbeats 4000000 in
theorem ct_X1_placesBeside (l : Launch) (r : Int32) {p : Nat} (hp : p < 8) : CtN l yX1_placesBeside cX1_placesBeside 5 (some FieldType.int) (rmD 1) [.int r, .int (nI p)] (pbI r p) := by
  refine CtF.of (own := RX1) [some (.int r), some (.int (nI p)), none, none, none] (by decide +kernel) rfl (fun _ => Nat.le_of_ble_eq_true rfl) (fun _ => rfl) ?_
  refine VS.iload_n dX1_placesBeside_0 rfl ?_
  refine VS.iload_n dX1_placesBeside_1 rfl ?_
  refine VS.callN ((atP hp ▸ ct_X1_roadsAt l (nI p) : CtN l yX1_roadsAt cX1_roadsAt 1 (some FieldType.int) (rmD 0) [.int (nI p)] (k_at p))) dX1_placesBeside_2 mi_X1_roadsAt st_X1_roadsAt ml_X1_33 (rmOk_D (by decide) (by decide)) (Nat.le_of_ble_eq_true rfl) rfl ?_
  refine VS.iand dX1_placesBeside_5 ?_
  refine VS.istore_n dX1_placesBeside_6 (by decide) rfl ?_
  refine VS.iconst (0) dX1_placesBeside_7 rfl ?_
  refine VS.istore_n dX1_placesBeside_8 (by decide) rfl ?_
  refine VS.iconst (0) dX1_placesBeside_9 rfl ?_
  refine VS.istore dX1_placesBeside_10 (by decide) rfl ?_
  refine VS.for (i0 := 0) (8) (fun _ => gz) (fun k => [some (.int r), some (.int (nI p)), some (.int (r &&& k_at p)), some (.int (pbJ (r &&& k_at p) p k)), some (.int (nI k))]) (by decide) ?_ (fun i hi ih => ?_)
  · refine VS.iload dX1_placesBeside_12 rfl ?_
    refine VS.bipush (8) dX1_placesBeside_14 rfl ?_
    refine VS.icmp_ge 48 dX1_placesBeside_16 (by decide) (fun _ => ?_) (fun hh => absurd (by decide) hh)
    refine VS.iload_n dX1_placesBeside_48 rfl ?_
    exact VS.iret dX1_placesBeside_49 (rfl) (fun _ _ => rfl)
  · refine VS.iload dX1_placesBeside_12 rfl ?_
    refine VS.bipush (8) dX1_placesBeside_14 rfl ?_
    refine VS.icmp_ge 48 dX1_placesBeside_16 (by decide) (fun hh => absurd hh (nge8 hi)) (fun _ => ?_)
    refine VS.iload dX1_placesBeside_19 rfl ?_
    refine VS.iload_n dX1_placesBeside_21 rfl ?_
    refine VS.icmp_eq 42 dX1_placesBeside_22 (by decide) (fun h_22 => ?_) (fun h_22 => ?_)
    · rw [pbJ_n1 hi hp h_22] at ih
      refine VS.iinc (nI (i + 1)) dX1_placesBeside_42 rfl (by decide) ((nI_succ i).symm) rfl ?_
      refine VS.goto 12 dX1_placesBeside_45 (by decide) ?_
      exact ih
    · refine VS.iload_n dX1_placesBeside_25 rfl ?_
      refine VS.iload dX1_placesBeside_26 rfl ?_
      refine VS.callN ((atP hi ▸ ct_X1_roadsAt l (nI i) : CtN l yX1_roadsAt cX1_roadsAt 1 (some FieldType.int) (rmD 0) [.int (nI i)] (k_at i))) dX1_placesBeside_28 mi_X1_roadsAt st_X1_roadsAt ml_X1_33 (rmOk_D (by decide) (by decide)) (Nat.le_of_ble_eq_true rfl) rfl ?_
      refine VS.iand dX1_placesBeside_31 ?_
      refine VS.if_eq 42 dX1_placesBeside_32 (by decide) (fun h_32 => ?_) (fun h_32 => ?_)
      · rw [pbJ_n2 h_32] at ih
        refine VS.iinc (nI (i + 1)) dX1_placesBeside_42 rfl (by decide) ((nI_succ i).symm) rfl ?_
        refine VS.goto 12 dX1_placesBeside_45 (by decide) ?_
        exact ih
      · refine VS.iload_n dX1_placesBeside_35 rfl ?_
        refine VS.iconst (1) dX1_placesBeside_36 rfl ?_
        refine VS.iload dX1_placesBeside_37 rfl ?_
        refine VS.ishl dX1_placesBeside_39 ?_
        refine VS.ior dX1_placesBeside_40 ?_
        refine VS.val (y := pbJ (r &&& k_at p) p (i + 1)) (pbJ_y h_22 h_32) ?_
        refine VS.istore_n dX1_placesBeside_41 (by decide) rfl ?_
        refine VS.iinc (nI (i + 1)) dX1_placesBeside_42 rfl (by decide) ((nI_succ i).symm) rfl ?_
        refine VS.goto 12 dX1_placesBeside_45 (by decide) ?_
        exact ih
set_option maxRecDepth 100000 in
set_option maxHeartbeats 4000000 in
theorem ct_X1_besideAny (l : Launch) (r : Int32) (m : Int32) : CtN l yX1_besideAny cX1_besideAny 4 (some FieldType.int) (rmD 2) [.int r, .int m] (nbI r m) := by
  refine CtF.of (own := RX1) [some (.int r), some (.int m), none, none] (by decide +kernel) rfl (fun _ => Nat.le_of_ble_eq_true rfl) (fun _ => rfl) ?_
  refine VS.iconst (0) dX1_besideAny_0 rfl ?_
  refine VS.istore_n dX1_besideAny_1 (by decide) rfl ?_
  refine VS.iconst (0) dX1_besideAny_2 rfl ?_
  refine VS.istore_n dX1_besideAny_3 (by decide) rfl ?_
  refine VS.for (i0 := 0) (8) (fun _ => gz) (fun k => [some (.int r), some (.int m), some (.int (nbJ r m k)), some (.int (nI k))]) (by decide) ?_ (fun i hi ih => ?_)
  · refine VS.iload_n dX1_besideAny_4 rfl ?_
    refine VS.bipush (8) dX1_besideAny_5 rfl ?_
    refine VS.icmp_ge 32 dX1_besideAny_7 (by decide) (fun _ => ?_) (fun hh => absurd (by decide) hh)
    refine VS.iload_n dX1_besideAny_32 rfl ?_
    exact VS.iret dX1_besideAny_33 (rfl) (fun _ _ => rfl)
  · refine VS.iload_n dX1_besideAny_4 rfl ?_
    refine VS.bipush (8) dX1_besideAny_5 rfl ?_
    refine VS.icmp_ge 32 dX1_besideAny_7 (by decide) (fun hh => absurd hh (nge8 hi)) (fun _ => ?_)
    refine VS.iload_n dX1_besideAny_10 rfl ?_
    refine VS.iload_n dX1_besideAny_11 rfl ?_
    refine VS.ishr dX1_besideAny_12 ?_
    refine VS.iconst (1) dX1_besideAny_13 rfl ?_
    refine VS.iand dX1_besideAny_14 ?_
    refine VS.if_eq 26 dX1_besideAny_15 (by decide) (fun h_15 => ?_) (fun h_15 => ?_)
    · rw [show nbJ r m (i + 1) = nbJ r m i from if_pos h_15] at ih
      refine VS.iinc (nI (i + 1)) dX1_besideAny_26 rfl (by decide) ((nI_succ i).symm) rfl ?_
      refine VS.goto 4 dX1_besideAny_29 (by decide) ?_
      exact ih
    · refine VS.iload_n dX1_besideAny_18 rfl ?_
      refine VS.iload_n dX1_besideAny_19 rfl ?_
      refine VS.iload_n dX1_besideAny_20 rfl ?_
      refine VS.callN (ct_X1_placesBeside l _ hi) dX1_besideAny_21 mi_X1_placesBeside st_X1_placesBeside ml_X1_40 (rmOk_D (by decide) (by decide)) (Nat.le_of_ble_eq_true rfl) rfl ?_
      refine VS.ior dX1_besideAny_24 ?_
      refine VS.val (y := nbJ r m (i + 1)) (if_neg h_15).symm ?_
      refine VS.istore_n dX1_besideAny_25 (by decide) rfl ?_
      refine VS.iinc (nI (i + 1)) dX1_besideAny_26 rfl (by decide) ((nI_succ i).symm) rfl ?_
      refine VS.goto 4 dX1_besideAny_29 (by decide) ?_
      exact ih
theorem dd_x {r t re : Int32} {n s : Nat} {ed : Int32} (h : ed = 0) : dd r t n s re ed = 99 := by
  cases n with
  | zero => rfl
  | succ n => exact if_pos h
theorem dd_f {r t re : Int32} {n s : Nat} {ed : Int32} (hn : 0 < n) (h : ¬ ed = 0) (h2 : ¬ (ed >>> (t &&& 31)) &&& 1 = 0) : dd r t n s re ed = nI s := by
  cases n with
  | zero => exact absurd hn (Nat.lt_irrefl 0)
  | succ n => exact (if_neg h).trans (if_neg h2)
theorem dd_s {r t f : Int32} {i : Nat} (hi : i < 8) (h : ¬ (bfs r f i).2 = 0) (h2 : ((bfs r f i).2 >>> (t &&& 31)) &&& 1 = 0) : dd r t (8 - i) i (bfs r f i).1 (bfs r f i).2 = dd r t (8 - (i + 1)) (i + 1) (bfs r f (i + 1)).1 (bfs r f (i + 1)).2 := by
  rw [show 8 - i = (8 - (i + 1)) + 1 by omega]
  exact (if_neg h).trans (if_pos h2)
set_option maxRecDepth 100000 in
set_option maxHeartbeats 4000000 in
theorem ct_X1_distance (l : Launch) (r : Int32) (f : Int32) (t : Int32) : CtN l yX1_distance cX1_distance 6 (some FieldType.int) (rmD 3) [.int r, .int f, .int t] (distI r f t) := by
  refine CtF.of (own := RX1) [some (.int r), some (.int f), some (.int t), none, none, none] (by decide +kernel) rfl (fun _ => Nat.le_of_ble_eq_true rfl) (fun _ => rfl) ?_
  refine VS.iconst (1) dX1_distance_0 rfl ?_
  refine VS.iload_n dX1_distance_1 rfl ?_
  refine VS.ishl dX1_distance_2 ?_
  refine VS.istore_n dX1_distance_3 (by decide) rfl ?_
  refine VS.iload_n dX1_distance_4 rfl ?_
  refine VS.istore dX1_distance_5 (by decide) rfl ?_
  refine VS.iconst (0) dX1_distance_7 rfl ?_
  refine VS.istore dX1_distance_8 (by decide) rfl ?_
  refine VS.forH (fun k => distI r f t = dd r t (8 - k) k (bfs r f k).1 (bfs r f k).2) (i0 := 0) (8) (fun _ => gz) (fun k => [some (.int r), some (.int f), some (.int t), some (.int (bfs r f k).1), some (.int (bfs r f k).2), some (.int (nI k))]) (by decide) rfl (fun hy => ?_) (fun i hi hy ih => ?_)
  · refine VS.iload dX1_distance_10 rfl ?_
    refine VS.bipush (8) dX1_distance_12 rfl ?_
    refine VS.icmp_ge 57 dX1_distance_14 (by decide) (fun _ => ?_) (fun hh => absurd (by decide) hh)
    refine VS.bipush (99) dX1_distance_57 rfl ?_
    exact VS.iret dX1_distance_59 (by rw [hy]; rfl) (fun _ _ => rfl)
  · refine VS.iload dX1_distance_10 rfl ?_
    refine VS.bipush (8) dX1_distance_12 rfl ?_
    refine VS.icmp_ge 57 dX1_distance_14 (by decide) (fun hh => absurd hh (nge8 hi)) (fun _ => ?_)
    refine VS.iload dX1_distance_17 rfl ?_
    refine VS.if_eq 57 dX1_distance_19 (by decide) (fun h_19 => ?_) (fun h_19 => ?_)
    · refine VS.bipush (99) dX1_distance_57 rfl ?_
      exact VS.iret dX1_distance_59 (by rw [hy]; exact congrArg (fun z => some (Value.int z)) (dd_x h_19)) (fun _ _ => rfl)
    · refine VS.iload dX1_distance_22 rfl ?_
      refine VS.iload_n dX1_distance_24 rfl ?_
      refine VS.ishr dX1_distance_25 ?_
      refine VS.iconst (1) dX1_distance_26 rfl ?_
      refine VS.iand dX1_distance_27 ?_
      refine VS.if_eq 34 dX1_distance_28 (by decide) (fun h_28 => ?_) (fun h_28 => ?_)
      · refine VS.iload_n dX1_distance_34 rfl ?_
        refine VS.iload dX1_distance_35 rfl ?_
        refine VS.callN (ct_X1_besideAny l _ _) dX1_distance_37 mi_X1_besideAny st_X1_besideAny ml_X1_37 (rmOk_D (by decide) (by decide)) (Nat.le_of_ble_eq_true rfl) rfl ?_
        refine VS.iload_n dX1_distance_40 rfl ?_
        refine VS.iconst (-1) dX1_distance_41 rfl ?_
        refine VS.ixor dX1_distance_42 ?_
        refine VS.iand dX1_distance_43 ?_
        refine VS.istore dX1_distance_44 (by decide) rfl ?_
        refine VS.iload_n dX1_distance_46 rfl ?_
        refine VS.iload dX1_distance_47 rfl ?_
        refine VS.ior dX1_distance_49 ?_
        refine VS.istore_n dX1_distance_50 (by decide) rfl ?_
        refine VS.iinc (nI (i + 1)) dX1_distance_51 rfl (by decide) ((nI_succ i).symm) rfl ?_
        refine VS.goto 10 dX1_distance_54 (by decide) ?_
        exact ih (hy.trans (dd_s hi h_19 h_28))
      · refine VS.iload dX1_distance_31 rfl ?_
        exact VS.iret dX1_distance_33 (by rw [hy]; exact congrArg (fun z => some (Value.int z)) (dd_f (by omega) h_19 h_28)) (fun _ _ => rfl)
theorem folJ_y {r k : Int32} {j : Nat} (h : pcI (k_at j &&& r &&& k) = pcI (k_at j &&& r)) : folJ r k j = k_at j &&& (k ^^^ -1) := if_pos (Or.inl h)
theorem folJ_z {r k : Int32} {j : Nat} (h : pcI (k_at j &&& r &&& k) + pcI (k_at j &&& (k ^^^ -1)) = pcI (k_at j &&& r)) : folJ r k j = k_at j &&& (k ^^^ -1) := if_pos (Or.inr h)
theorem folJ_n {r k : Int32} {j : Nat} (h : ¬ pcI (k_at j &&& r &&& k) = pcI (k_at j &&& r)) (h2 : ¬ pcI (k_at j &&& r &&& k) + pcI (k_at j &&& (k ^^^ -1)) = pcI (k_at j &&& r)) : folJ r k j = 0 := if_neg (fun q => q.elim h h2)
set_option maxRecDepth 100000 in
set_option maxHeartbeats 4000000 in
theorem ct_X1_followingAt (l : Launch) (r : Int32) (k : Int32) {p : Nat} (hp : p < 8) : CtN l yX1_followingAt cX1_followingAt 7 (some FieldType.int) (rmD 1) [.int r, .int k, .int (nI p)] (folJ r k p) := by
  refine CtF.of (own := RX1) [some (.int r), some (.int k), some (.int (nI p)), none, none, none, none] (by decide +kernel) rfl (fun _ => Nat.le_of_ble_eq_true rfl) (fun _ => rfl) ?_
  refine VS.iload_n dX1_followingAt_0 rfl ?_
  refine VS.callN ((atP hp ▸ ct_X1_roadsAt l (nI p) : CtN l yX1_roadsAt cX1_roadsAt 1 (some FieldType.int) (rmD 0) [.int (nI p)] (k_at p))) dX1_followingAt_1 mi_X1_roadsAt st_X1_roadsAt ml_X1_33 (rmOk_D (by decide) (by decide)) (Nat.le_of_ble_eq_true rfl) rfl ?_
  refine VS.istore_n dX1_followingAt_4 (by decide) rfl ?_
  refine VS.iload_n dX1_followingAt_5 rfl ?_
  refine VS.iload_n dX1_followingAt_6 rfl ?_
  refine VS.iconst (-1) dX1_followingAt_7 rfl ?_
  refine VS.ixor dX1_followingAt_8 ?_
  refine VS.iand dX1_followingAt_9 ?_
  refine VS.istore dX1_followingAt_10 (by decide) rfl ?_
  refine VS.iload_n dX1_followingAt_12 rfl ?_
  refine VS.iload_n dX1_followingAt_13 rfl ?_
  refine VS.iand dX1_followingAt_14 ?_
  refine VS.callN (ct_J6_bitCount_0f7a4 l _) dX1_followingAt_15 mi_J6_bitCount_0f7a4 st_J6_bitCount_0f7a4 ml_X1_47 (rmOk_D (by decide) (by decide)) (Nat.le_of_ble_eq_true rfl) rfl ?_
  refine VS.istore dX1_followingAt_18 (by decide) rfl ?_
  refine VS.iload_n dX1_followingAt_20 rfl ?_
  refine VS.iload_n dX1_followingAt_21 rfl ?_
  refine VS.iand dX1_followingAt_22 ?_
  refine VS.iload_n dX1_followingAt_23 rfl ?_
  refine VS.iand dX1_followingAt_24 ?_
  refine VS.callN (ct_J6_bitCount_0f7a4 l _) dX1_followingAt_25 mi_J6_bitCount_0f7a4 st_J6_bitCount_0f7a4 ml_X1_47 (rmOk_D (by decide) (by decide)) (Nat.le_of_ble_eq_true rfl) rfl ?_
  refine VS.istore dX1_followingAt_28 (by decide) rfl ?_
  refine VS.iload dX1_followingAt_30 rfl ?_
  refine VS.iload dX1_followingAt_32 rfl ?_
  refine VS.icmp_eq 50 dX1_followingAt_34 (by decide) (fun h_34 => ?_) (fun h_34 => ?_)
  · refine VS.iload dX1_followingAt_50 rfl ?_
    refine VS.goto 56 dX1_followingAt_52 (by decide) ?_
    exact VS.iret dX1_followingAt_56 (by first | rw [folJ_y h_34] | rw [folJ_z h_47] | rw [folJ_n h_34 h_47]) (fun _ _ => rfl)
  · refine VS.iload dX1_followingAt_37 rfl ?_
    refine VS.iload dX1_followingAt_39 rfl ?_
    refine VS.callN (ct_J6_bitCount_0f7a4 l _) dX1_followingAt_41 mi_J6_bitCount_0f7a4 st_J6_bitCount_0f7a4 ml_X1_47 (rmOk_D (by decide) (by decide)) (Nat.le_of_ble_eq_true rfl) rfl ?_
    refine VS.iadd dX1_followingAt_44 ?_
    refine VS.iload dX1_followingAt_45 rfl ?_
    refine VS.icmp_ne 55 dX1_followingAt_47 (by decide) (fun h_47 => ?_) (fun h_47 => ?_)
    · refine VS.iconst (0) dX1_followingAt_55 rfl ?_
      exact VS.iret dX1_followingAt_56 (by first | rw [folJ_y h_34] | rw [folJ_z h_47] | rw [folJ_n h_34 h_47]) (fun _ _ => rfl)
    · refine VS.iload dX1_followingAt_50 rfl ?_
      refine VS.goto 56 dX1_followingAt_52 (by decide) ?_
      exact VS.iret dX1_followingAt_56 (by first | rw [folJ_y h_34] | rw [folJ_z h_47] | rw [folJ_n h_34 h_47]) (fun _ _ => rfl)
set_option maxRecDepth 100000 in
set_option maxHeartbeats 4000000 in
theorem ct_X1_withWhatFollows (l : Launch) (r : Int32) (k : Int32) : CtN l yX1_withWhatFollows cX1_withWhatFollows 6 (some FieldType.int) (rmD 2) [.int r, .int k] (KK r k) := by
  refine CtF.of (own := RX1) [some (.int r), some (.int k), none, none, none, none] (by decide +kernel) rfl (fun _ => Nat.le_of_ble_eq_true rfl) (fun _ => rfl) ?_
  refine VS.iload_n dX1_withWhatFollows_0 rfl ?_
  refine VS.istore_n dX1_withWhatFollows_1 (by decide) rfl ?_
  refine VS.iconst (0) dX1_withWhatFollows_2 rfl ?_
  refine VS.istore_n dX1_withWhatFollows_3 (by decide) rfl ?_
  refine VS.for (i0 := 0) (28) (fun _ => gz) (fun i => [some (.int r), some (.int k), some (.int (itN (swp r) k i)), some (.int (nI i)), none, none]) (by decide) ?_ (fun i hi ih => ?_)
  · refine VS.iload_n dX1_withWhatFollows_4 rfl ?_
    refine VS.bipush (28) dX1_withWhatFollows_5 rfl ?_
    refine VS.icmp_ge 54 dX1_withWhatFollows_7 (by decide) (fun _ => ?_) (fun hh => absurd (by decide) hh)
    refine VS.iload_n dX1_withWhatFollows_54 rfl ?_
    exact VS.iret dX1_withWhatFollows_55 (rfl) (fun _ _ => rfl)
  · refine VS.iload_n dX1_withWhatFollows_4 rfl ?_
    refine VS.bipush (28) dX1_withWhatFollows_5 rfl ?_
    refine VS.icmp_ge 54 dX1_withWhatFollows_7 (by decide) (fun hh => absurd hh (nge28 hi)) (fun _ => ?_)
    refine VS.iload_n dX1_withWhatFollows_10 rfl ?_
    refine VS.istore dX1_withWhatFollows_11 (by decide) rfl ?_
    refine VS.iconst (0) dX1_withWhatFollows_13 rfl ?_
    refine VS.istore dX1_withWhatFollows_14 (by decide) rfl ?_
    refine VS.for (i0 := 0) (8) (fun _ => gz) (fun j => [some (.int r), some (.int k), some (.int (swJ r (itN (swp r) k i) j)), some (.int (nI i)), some (.int (itN (swp r) k i)), some (.int (nI j))]) (by decide) ?_ (fun j hj jh => ?_)
    · refine VS.iload dX1_withWhatFollows_16 rfl ?_
      refine VS.bipush (8) dX1_withWhatFollows_18 rfl ?_
      refine VS.icmp_ge 39 dX1_withWhatFollows_20 (by decide) (fun _ => ?_) (fun hh => absurd (by decide) hh)
      refine VS.iload_n dX1_withWhatFollows_39 rfl ?_
      refine VS.iload dX1_withWhatFollows_40 rfl ?_
      refine VS.icmp_ne 48 dX1_withWhatFollows_42 (by decide) (fun h_42 => ?_) (fun h_42 => ?_)
      · refine VS.iinc (nI (i + 1)) dX1_withWhatFollows_48 rfl (by decide) ((nI_succ i).symm) rfl ?_
        refine VS.goto 4 dX1_withWhatFollows_51 (by decide) ?_
        exact VS.forget 4 (VS.forget 5 ih)
      · refine VS.goto 54 dX1_withWhatFollows_45 (by decide) ?_
        refine VS.iload_n dX1_withWhatFollows_54 rfl ?_
        exact VS.iret dX1_withWhatFollows_55 (congrArg (fun z => some (Value.int z)) ((itN_stop (f := swp r) (x := k) (i := i) (n := 28) h_42 (by omega)).trans h_42.symm)) (fun _ _ => rfl)
    · refine VS.iload dX1_withWhatFollows_16 rfl ?_
      refine VS.bipush (8) dX1_withWhatFollows_18 rfl ?_
      refine VS.icmp_ge 39 dX1_withWhatFollows_20 (by decide) (fun hh => absurd hh (nge8 hj)) (fun _ => ?_)
      refine VS.iload_n dX1_withWhatFollows_23 rfl ?_
      refine VS.iload_n dX1_withWhatFollows_24 rfl ?_
      refine VS.iload_n dX1_withWhatFollows_25 rfl ?_
      refine VS.iload dX1_withWhatFollows_26 rfl ?_
      refine VS.callN (ct_X1_followingAt l _ _ hj) dX1_withWhatFollows_28 mi_X1_followingAt st_X1_followingAt ml_X1_43 (rmOk_D (by decide) (by decide)) (Nat.le_of_ble_eq_true rfl) rfl ?_
      refine VS.ior dX1_withWhatFollows_31 ?_
      refine VS.istore_n dX1_withWhatFollows_32 (by decide) rfl ?_
      refine VS.iinc (nI (j + 1)) dX1_withWhatFollows_33 rfl (by decide) ((nI_succ j).symm) rfl ?_
      refine VS.goto 16 dX1_withWhatFollows_36 (by decide) ?_
      exact jh
set_option maxRecDepth 100000 in
set_option maxHeartbeats 4000000 in
theorem ct_X2_codeIn (l : Launch) (c : Int64) (j : Int32) : CtN l yX2_codeIn cX2_codeIn 3 (some FieldType.int) (rmD 0) [.long c, .int j] (cdL c j) := by
  refine CtF.of (own := RX2) [some (.long c), none, some (.int j)] (by decide +kernel) rfl (fun _ => Nat.le_of_ble_eq_true rfl) (fun _ => rfl) ?_
  refine VS.lload_n dX2_codeIn_0 rfl ?_
  refine VS.bipush (8) dX2_codeIn_1 rfl ?_
  refine VS.iload_n dX2_codeIn_3 rfl ?_
  refine VS.imul dX2_codeIn_4 ?_
  refine VS.lushr dX2_codeIn_5 ?_
  refine VS.l2i dX2_codeIn_6 ?_
  refine VS.sipush (255) dX2_codeIn_7 rfl ?_
  refine VS.iand dX2_codeIn_10 ?_
  exact VS.iret dX2_codeIn_11 (rfl) (fun _ _ => rfl)
