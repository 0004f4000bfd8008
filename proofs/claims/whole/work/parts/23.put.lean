/-! the reference: put -/
def puN (c : Int64) : Nat → Nat
  | 0 => 0
  | k + 1 => puN c k + (if cdL c (nI k) = 0 then 0 else 1)
def puI (c : Int64) : Nat → Int32
  | 0 => 1
  | k + 1 => if ¬ puI c k = 0 ∧ (cdL c (nI k) = 0 ∨ ((33 ≤ cdL c (nI k) ∧ cdL c (nI k) ≤ 126) ∧ nI (puN c k) = nI k)) then 1 else 0
theorem puN_le (c : Int64) : ∀ k, puN c k ≤ k
  | 0 => Nat.le_refl _
  | k + 1 => by
    have h := puN_le c k
    unfold puN
    split <;> omega
theorem lmask (x : Int64) : (x &&& 255).toInt32 = x.toInt32 &&& 255 := by
  apply Int32.toBitVec_inj.mp
  apply BitVec.eq_of_getLsbD_eq
  intro i hi
  simp [BitVec.getLsbD_signExtend, BitVec.getLsbD_setWidth]
theorem pcd_cdL (c : Int64) (j : Int32) : ((c.toUInt64 >>> ((8 * j).toInt64.toUInt64 &&& Int64.toUInt64 63)).toInt64 &&& 255).toInt32 = cdL c j := lmask _
theorem puI_y1 {c : Int64} {k : Nat} (h : ¬ puI c k = 0) (h2 : cdL c (nI k) = 0) : 1 = puI c (k + 1) := (if_pos ⟨h, Or.inl h2⟩).symm
theorem puI_y2 {c : Int64} {k : Nat} (h : ¬ puI c k = 0) (h2 : 33 ≤ cdL c (nI k) ∧ cdL c (nI k) ≤ 126) (h3 : nI (puN c k) = nI k) : 1 = puI c (k + 1) := (if_pos ⟨h, Or.inr ⟨h2, h3⟩⟩).symm
theorem puI_n1 {c : Int64} {k : Nat} (h : puI c k = 0) : 0 = puI c (k + 1) := (if_neg (fun q => q.1 h)).symm
theorem puI_n2 {c : Int64} {k : Nat} (h0 : ¬ cdL c (nI k) = 0) (h : ¬ (33 ≤ cdL c (nI k) ∧ cdL c (nI k) ≤ 126)) : 0 = puI c (k + 1) := (if_neg (fun q => q.2.elim h0 (fun z => h z.1))).symm
theorem puI_n3 {c : Int64} {k : Nat} (h0 : ¬ cdL c (nI k) = 0) (h : ¬ nI (puN c k) = nI k) : 0 = puI c (k + 1) := (if_neg (fun q => q.2.elim h0 (fun z => h z.2))).symm
theorem puN_y {c : Int64} {k : Nat} (h : ¬ cdL c (nI k) = 0) : nI (puN c k) + 1 = nI (puN c (k + 1)) := by
  show _ = nI (puN c k + (if cdL c (nI k) = 0 then 0 else 1)); rw [if_neg h, nI_succ]
theorem puN_n {c : Int64} {k : Nat} (h : cdL c (nI k) = 0) : nI (puN c k) + 0 = nI (puN c (k + 1)) := by
  show _ = nI (puN c k + (if cdL c (nI k) = 0 then 0 else 1)); rw [if_pos h]; exact Int32.add_zero _
/-- counting down: n - 1 - i -/
def kD (n i : Nat) : Int32 := Int32.ofInt ((n : Int) - 1 - i)
theorem kD_s (n i : Nat) : kD n i + Int32.ofInt (-1) = kD n (i + 1) := by
  unfold kD
  rw [← Int32.ofInt_add]
  congr 1
  omega
theorem kD_n {n i : Nat} (h : i < n) : kD n i = nI (n - 1 - i) := by
  unfold kD nI
  rw [show (n : Int) - 1 - i = ((n - 1 - i : Nat) : Int) by omega]
  rfl
theorem kD_0 {n : Nat} (h : 0 < n) : nI n - 1 = kD n 0 := by
  obtain ⟨m, rfl⟩ : ∃ m, n = m + 1 := ⟨n - 1, by omega⟩
  rw [nI_pred, kD_n (by omega)]
  rfl
theorem kD_e (n : Nat) : kD n n < 0 := by
  unfold kD
  rw [show (n : Int) - 1 - n = -1 by omega]
  decide
theorem kD_p {n i : Nat} (h : i < n) (hn : n ≤ 8) : ¬ kD n i < 0 := by
  rw [kD_n h]; exact nI_pos (by omega)
/-- characters behind the pad -/
def padR (f : Nat → Int32) (c : Int64) (len n i : Nat) : Nat → Int32 := putR f (fun j => cdL c (nI (n - 1 - j))) len i
def mPut (M : SS) (c : Int64) (len n i : Nat) : SS := upC (up2 M 0 6 (nI (len + i))) 5 (padR (M 5) c len n i)
theorem mPut_0 {M : SS} {c : Int64} {len n : Nat} (h : M 0 6 = nI len) : mPut M c len n 0 = M := by
  unfold mPut padR
  rw [putR_0]
  show upC (up2 M 0 6 (nI (len + 0))) 5 ((up2 M 0 6 (nI (len + 0))) 5) = M
  rw [upC_id]
  unfold up2
  have e : upd (M 0) 6 (nI (len + 0)) = M 0 := by
    funext k; unfold upd; split
    · rename_i q; rw [q, h]; rfl
    · rfl
  rw [e, upC_id]
theorem mPut_s {M : SS} {c : Int64} {len n i : Nat} : up2 (up2 (mPut M c len n i) 5 (len + i) (cdL c (nI (n - 1 - i)))) 0 6 (nI (len + i) + 1) = mPut M c len n (i + 1) := by
  unfold mPut up2
  rw [upC_upC, upC_at, upC_comm _ _ _ (by decide : (5 : Nat) ≠ 0), upC_upC, ← nI_succ]
  have e : upd (padR (M 5) c len n i) (len + i) (cdL c (nI (n - 1 - i))) = padR (M 5) c len n (i + 1) := putR_s (M 5) (fun j => cdL c (nI (n - 1 - j))) len i
  rw [e]
  have e2 : upd (upC (upC M 0 (upd (M 0) 6 (nI (len + i)))) 5 (padR (M 5) c len n (i + 1)) 0) 6 (nI (len + i + 1)) = upd (M 0) 6 (nI (len + (i + 1))) := by
    show upd (upd (M 0) 6 _) 6 _ = _
    rw [upd_upd]
    rfl
  rw [e2]
set_option maxRecDepth 100000 in
set_option maxHeartbeats 4000000 in
theorem ct_X7_put_bad (l : Launch) (M : SS) (c : Int64) (hbad : ¬ nI (puN c 8) = 0 → puI c 8 = 0) : CtS l yX7_put cX7_put 7 (some FieldType.int) (rmD 1) [.ref 0, .long c] 7 shM M (some (.int (-2))) (M) := by
  refine CtF.of (own := RX7) [some (.ref 0), some (.long c), none, none, none, none, none] (by decide +kernel) rfl (fun _ => Nat.le_of_ble_eq_true rfl) (fun _ => rfl) ?_
  refine VS.iconst (0) dX7_put_0 rfl ?_
  refine VS.istore_n dX7_put_1 (by decide) rfl ?_
  refine VS.iconst (1) dX7_put_2 rfl ?_
  refine VS.istore dX7_put_3 (by decide) rfl ?_
  refine VS.iconst (0) dX7_put_5 rfl ?_
  refine VS.istore dX7_put_6 (by decide) rfl ?_
  refine VS.forS (i0 := 0) (8) (fun _ => M) (fun k => [some (.ref 0), some (.long c), none, some (.int (nI (puN c k))), some (.int (puI c k)), some (.int (nI k)), none]) (by decide) ?_ (fun k hk ik => ?_)
  · refine VS.iload dX7_put_8 rfl ?_
    refine VS.bipush (8) dX7_put_10 rfl ?_
    refine VS.icmp_ge 83 dX7_put_12 (by decide) (fun _ => ?_) (fun hh => absurd (by decide) hh)
    refine VS.iload_n dX7_put_83 rfl ?_
    refine VS.if_eq 92 dX7_put_84 (by decide) (fun h_84 => ?_) (fun h_84 => ?_)
    · refine VS.bipush (-2) dX7_put_92 rfl ?_
      exact VS.iret dX7_put_94 (rfl) (fun _ _ => rfl)
    · refine VS.iload dX7_put_87 rfl ?_
      refine VS.if_ne 95 dX7_put_89 (by decide) (fun hh => absurd (hbad h_84) hh) (fun _ => ?_)
      refine VS.bipush (-2) dX7_put_92 rfl ?_
      exact VS.iret dX7_put_94 (rfl) (fun _ _ => rfl)
  · refine VS.iload dX7_put_8 rfl ?_
    refine VS.bipush (8) dX7_put_10 rfl ?_
    refine VS.icmp_ge 83 dX7_put_12 (by decide) (fun hh => absurd hh (nge8 hk)) (fun _ => ?_)
    refine VS.lload_n dX7_put_15 rfl ?_
    refine VS.bipush (8) dX7_put_16 rfl ?_
    refine VS.iload dX7_put_18 rfl ?_
    refine VS.imul dX7_put_20 ?_
    refine VS.lushr dX7_put_21 ?_
    refine VS.ldc2 dX7_put_22 kc_X7_157 ?_
    refine VS.land dX7_put_25 ?_
    refine VS.l2i dX7_put_26 ?_
    refine VS.val (y := cdL c (nI k)) (pcd_cdL _ _) ?_
    refine VS.istore dX7_put_27 (by decide) rfl ?_
    refine VS.iload dX7_put_29 rfl ?_
    refine VS.if_eq 61 dX7_put_31 (by decide) (fun h_31 => ?_) (fun h_31 => ?_)
    · refine VS.iconst (0) dX7_put_61 rfl ?_
      refine VS.val (y := puI c (k + 1)) (puI_n1 h_31) ?_
      refine VS.istore dX7_put_62 (by decide) rfl ?_
      refine VS.iload_n dX7_put_64 rfl ?_
      refine VS.iload dX7_put_65 rfl ?_
      refine VS.if_ne 74 dX7_put_67 (by decide) (fun h_67 => ?_) (fun h_67 => ?_)
      · refine VS.iconst (1) dX7_put_74 rfl ?_
        refine VS.iadd dX7_put_75 ?_
        refine VS.val (y := nI (puN c (k + 1))) (puN_y h_67) ?_
        refine VS.istore_n dX7_put_76 (by decide) rfl ?_
        refine VS.iinc (nI (k + 1)) dX7_put_77 rfl (by decide) ((nI_succ k).symm) rfl ?_
        refine VS.goto 8 dX7_put_80 (by decide) ?_
        exact VS.forget 6 ik
      · refine VS.iconst (0) dX7_put_70 rfl ?_
        refine VS.goto 75 dX7_put_71 (by decide) ?_
        refine VS.iadd dX7_put_75 ?_
        refine VS.val (y := nI (puN c (k + 1))) (puN_n h_67) ?_
        refine VS.istore_n dX7_put_76 (by decide) rfl ?_
        refine VS.iinc (nI (k + 1)) dX7_put_77 rfl (by decide) ((nI_succ k).symm) rfl ?_
        refine VS.goto 8 dX7_put_80 (by decide) ?_
        exact VS.forget 6 ik
    · refine VS.iload dX7_put_34 rfl ?_
      refine VS.if_eq 57 dX7_put_36 (by decide) (fun h_36 => ?_) (fun h_36 => ?_)
      · refine VS.iconst (1) dX7_put_57 rfl ?_
        refine VS.goto 62 dX7_put_58 (by decide) ?_
        refine VS.val (y := puI c (k + 1)) (puI_y1 h_31 h_36) ?_
        refine VS.istore dX7_put_62 (by decide) rfl ?_
        refine VS.iload_n dX7_put_64 rfl ?_
        refine VS.iload dX7_put_65 rfl ?_
        refine VS.if_ne 74 dX7_put_67 (by decide) (fun hh => absurd (h_36) hh) (fun _ => ?_)
        refine VS.iconst (0) dX7_put_70 rfl ?_
        refine VS.goto 75 dX7_put_71 (by decide) ?_
        refine VS.iadd dX7_put_75 ?_
        refine VS.val (y := nI (puN c (k + 1))) (puN_n h_36) ?_
        refine VS.istore_n dX7_put_76 (by decide) rfl ?_
        refine VS.iinc (nI (k + 1)) dX7_put_77 rfl (by decide) ((nI_succ k).symm) rfl ?_
        refine VS.goto 8 dX7_put_80 (by decide) ?_
        exact VS.forget 6 ik
      · refine VS.iload dX7_put_39 rfl ?_
        refine VS.bipush (33) dX7_put_41 rfl ?_
        refine VS.bipush (126) dX7_put_43 rfl ?_
        refine VS.callN (ct_X7_in l _ _ _) dX7_put_45 mi_X7_in st_X7_in ml_X7_29 (rmOk_D (by decide) (by decide)) (Nat.le_of_ble_eq_true rfl) rfl ?_
        refine VS.if_eq 61 dX7_put_48 (by decide) (fun h_48 => ?_) (fun h_48 => ?_)
        · refine VS.iconst (0) dX7_put_61 rfl ?_
          refine VS.val (y := puI c (k + 1)) (puI_n2 h_36 (ite10.mp h_48)) ?_
          refine VS.istore dX7_put_62 (by decide) rfl ?_
          refine VS.iload_n dX7_put_64 rfl ?_
          refine VS.iload dX7_put_65 rfl ?_
          refine VS.if_ne 74 dX7_put_67 (by decide) (fun _ => ?_) (fun hh => absurd hh (h_36))
          refine VS.iconst (1) dX7_put_74 rfl ?_
          refine VS.iadd dX7_put_75 ?_
          refine VS.val (y := nI (puN c (k + 1))) (puN_y h_36) ?_
          refine VS.istore_n dX7_put_76 (by decide) rfl ?_
          refine VS.iinc (nI (k + 1)) dX7_put_77 rfl (by decide) ((nI_succ k).symm) rfl ?_
          refine VS.goto 8 dX7_put_80 (by decide) ?_
          exact VS.forget 6 ik
        · refine VS.iload_n dX7_put_51 rfl ?_
          refine VS.iload dX7_put_52 rfl ?_
          refine VS.icmp_ne 61 dX7_put_54 (by decide) (fun h_54 => ?_) (fun h_54 => ?_)
          · refine VS.iconst (0) dX7_put_61 rfl ?_
            refine VS.val (y := puI c (k + 1)) (puI_n3 h_36 h_54) ?_
            refine VS.istore dX7_put_62 (by decide) rfl ?_
            refine VS.iload_n dX7_put_64 rfl ?_
            refine VS.iload dX7_put_65 rfl ?_
            refine VS.if_ne 74 dX7_put_67 (by decide) (fun _ => ?_) (fun hh => absurd hh (h_36))
            refine VS.iconst (1) dX7_put_74 rfl ?_
            refine VS.iadd dX7_put_75 ?_
            refine VS.val (y := nI (puN c (k + 1))) (puN_y h_36) ?_
            refine VS.istore_n dX7_put_76 (by decide) rfl ?_
            refine VS.iinc (nI (k + 1)) dX7_put_77 rfl (by decide) ((nI_succ k).symm) rfl ?_
            refine VS.goto 8 dX7_put_80 (by decide) ?_
            exact VS.forget 6 ik
          · refine VS.iconst (1) dX7_put_57 rfl ?_
            refine VS.goto 62 dX7_put_58 (by decide) ?_
            refine VS.val (y := puI c (k + 1)) (puI_y2 h_31 (ite11 h_48) h_54) ?_
            refine VS.istore dX7_put_62 (by decide) rfl ?_
            refine VS.iload_n dX7_put_64 rfl ?_
            refine VS.iload dX7_put_65 rfl ?_
            refine VS.if_ne 74 dX7_put_67 (by decide) (fun _ => ?_) (fun hh => absurd hh (h_36))
            refine VS.iconst (1) dX7_put_74 rfl ?_
            refine VS.iadd dX7_put_75 ?_
            refine VS.val (y := nI (puN c (k + 1))) (puN_y h_36) ?_
            refine VS.istore_n dX7_put_76 (by decide) rfl ?_
            refine VS.iinc (nI (k + 1)) dX7_put_77 rfl (by decide) ((nI_succ k).symm) rfl ?_
            refine VS.goto 8 dX7_put_80 (by decide) ?_
            exact VS.forget 6 ik
set_option maxRecDepth 100000 in
set_option maxHeartbeats 4000000 in
theorem ct_X7_put_many (l : Launch) (M : SS) (c : Int64) (hn0 : ¬ nI (puN c 8) = 0) (hi0 : ¬ puI c 8 = 0) (hm : ¬ M 0 6 + nI (puN c 8) ≤ 80) : CtS l yX7_put cX7_put 7 (some FieldType.int) (rmD 1) [.ref 0, .long c] 7 shM M (some (.int (-4))) (M) := by
  refine CtF.of (own := RX7) [some (.ref 0), some (.long c), none, none, none, none, none] (by decide +kernel) rfl (fun _ => Nat.le_of_ble_eq_true rfl) (fun _ => rfl) ?_
  refine VS.iconst (0) dX7_put_0 rfl ?_
  refine VS.istore_n dX7_put_1 (by decide) rfl ?_
  refine VS.iconst (1) dX7_put_2 rfl ?_
  refine VS.istore dX7_put_3 (by decide) rfl ?_
  refine VS.iconst (0) dX7_put_5 rfl ?_
  refine VS.istore dX7_put_6 (by decide) rfl ?_
  refine VS.forS (i0 := 0) (8) (fun _ => M) (fun k => [some (.ref 0), some (.long c), none, some (.int (nI (puN c k))), some (.int (puI c k)), some (.int (nI k)), none]) (by decide) ?_ (fun k hk ik => ?_)
  · refine VS.iload dX7_put_8 rfl ?_
    refine VS.bipush (8) dX7_put_10 rfl ?_
    refine VS.icmp_ge 83 dX7_put_12 (by decide) (fun _ => ?_) (fun hh => absurd (by decide) hh)
    refine VS.iload_n dX7_put_83 rfl ?_
    refine VS.if_eq 92 dX7_put_84 (by decide) (fun hh => absurd hh (hn0)) (fun _ => ?_)
    refine VS.iload dX7_put_87 rfl ?_
    refine VS.if_ne 95 dX7_put_89 (by decide) (fun _ => ?_) (fun hh => absurd hh (hi0))
    refine VS.aload_n dX7_put_95 rfl ?_
    refine VS.sgetI 6 dX7_put_96 uw_X7 rfl (by decide) 6 rfl rfl (by decide) fl_X7_151 rfl ?_
    refine VS.iload_n dX7_put_99 rfl ?_
    refine VS.iadd dX7_put_100 ?_
    refine VS.bipush (80) dX7_put_101 rfl ?_
    refine VS.icmp_le 109 dX7_put_103 (by decide) (fun hh => absurd hh (hm)) (fun _ => ?_)
    refine VS.bipush (-4) dX7_put_106 rfl ?_
    exact VS.iret dX7_put_108 (rfl) (fun _ _ => rfl)
  · refine VS.iload dX7_put_8 rfl ?_
    refine VS.bipush (8) dX7_put_10 rfl ?_
    refine VS.icmp_ge 83 dX7_put_12 (by decide) (fun hh => absurd hh (nge8 hk)) (fun _ => ?_)
    refine VS.lload_n dX7_put_15 rfl ?_
    refine VS.bipush (8) dX7_put_16 rfl ?_
    refine VS.iload dX7_put_18 rfl ?_
    refine VS.imul dX7_put_20 ?_
    refine VS.lushr dX7_put_21 ?_
    refine VS.ldc2 dX7_put_22 kc_X7_157 ?_
    refine VS.land dX7_put_25 ?_
    refine VS.l2i dX7_put_26 ?_
    refine VS.val (y := cdL c (nI k)) (pcd_cdL _ _) ?_
    refine VS.istore dX7_put_27 (by decide) rfl ?_
    refine VS.iload dX7_put_29 rfl ?_
    refine VS.if_eq 61 dX7_put_31 (by decide) (fun h_31 => ?_) (fun h_31 => ?_)
    · refine VS.iconst (0) dX7_put_61 rfl ?_
      refine VS.val (y := puI c (k + 1)) (puI_n1 h_31) ?_
      refine VS.istore dX7_put_62 (by decide) rfl ?_
      refine VS.iload_n dX7_put_64 rfl ?_
      refine VS.iload dX7_put_65 rfl ?_
      refine VS.if_ne 74 dX7_put_67 (by decide) (fun h_67 => ?_) (fun h_67 => ?_)
      · refine VS.iconst (1) dX7_put_74 rfl ?_
        refine VS.iadd dX7_put_75 ?_
        refine VS.val (y := nI (puN c (k + 1))) (puN_y h_67) ?_
        refine VS.istore_n dX7_put_76 (by decide) rfl ?_
        refine VS.iinc (nI (k + 1)) dX7_put_77 rfl (by decide) ((nI_succ k).symm) rfl ?_
        refine VS.goto 8 dX7_put_80 (by decide) ?_
        exact VS.forget 6 ik
      · refine VS.iconst (0) dX7_put_70 rfl ?_
        refine VS.goto 75 dX7_put_71 (by decide) ?_
        refine VS.iadd dX7_put_75 ?_
        refine VS.val (y := nI (puN c (k + 1))) (puN_n h_67) ?_
        refine VS.istore_n dX7_put_76 (by decide) rfl ?_
        refine VS.iinc (nI (k + 1)) dX7_put_77 rfl (by decide) ((nI_succ k).symm) rfl ?_
        refine VS.goto 8 dX7_put_80 (by decide) ?_
        exact VS.forget 6 ik
    · refine VS.iload dX7_put_34 rfl ?_
      refine VS.if_eq 57 dX7_put_36 (by decide) (fun h_36 => ?_) (fun h_36 => ?_)
      · refine VS.iconst (1) dX7_put_57 rfl ?_
        refine VS.goto 62 dX7_put_58 (by decide) ?_
        refine VS.val (y := puI c (k + 1)) (puI_y1 h_31 h_36) ?_
        refine VS.istore dX7_put_62 (by decide) rfl ?_
        refine VS.iload_n dX7_put_64 rfl ?_
        refine VS.iload dX7_put_65 rfl ?_
        refine VS.if_ne 74 dX7_put_67 (by decide) (fun hh => absurd (h_36) hh) (fun _ => ?_)
        refine VS.iconst (0) dX7_put_70 rfl ?_
        refine VS.goto 75 dX7_put_71 (by decide) ?_
        refine VS.iadd dX7_put_75 ?_
        refine VS.val (y := nI (puN c (k + 1))) (puN_n h_36) ?_
        refine VS.istore_n dX7_put_76 (by decide) rfl ?_
        refine VS.iinc (nI (k + 1)) dX7_put_77 rfl (by decide) ((nI_succ k).symm) rfl ?_
        refine VS.goto 8 dX7_put_80 (by decide) ?_
        exact VS.forget 6 ik
      · refine VS.iload dX7_put_39 rfl ?_
        refine VS.bipush (33) dX7_put_41 rfl ?_
        refine VS.bipush (126) dX7_put_43 rfl ?_
        refine VS.callN (ct_X7_in l _ _ _) dX7_put_45 mi_X7_in st_X7_in ml_X7_29 (rmOk_D (by decide) (by decide)) (Nat.le_of_ble_eq_true rfl) rfl ?_
        refine VS.if_eq 61 dX7_put_48 (by decide) (fun h_48 => ?_) (fun h_48 => ?_)
        · refine VS.iconst (0) dX7_put_61 rfl ?_
          refine VS.val (y := puI c (k + 1)) (puI_n2 h_36 (ite10.mp h_48)) ?_
          refine VS.istore dX7_put_62 (by decide) rfl ?_
          refine VS.iload_n dX7_put_64 rfl ?_
          refine VS.iload dX7_put_65 rfl ?_
          refine VS.if_ne 74 dX7_put_67 (by decide) (fun _ => ?_) (fun hh => absurd hh (h_36))
          refine VS.iconst (1) dX7_put_74 rfl ?_
          refine VS.iadd dX7_put_75 ?_
          refine VS.val (y := nI (puN c (k + 1))) (puN_y h_36) ?_
          refine VS.istore_n dX7_put_76 (by decide) rfl ?_
          refine VS.iinc (nI (k + 1)) dX7_put_77 rfl (by decide) ((nI_succ k).symm) rfl ?_
          refine VS.goto 8 dX7_put_80 (by decide) ?_
          exact VS.forget 6 ik
        · refine VS.iload_n dX7_put_51 rfl ?_
          refine VS.iload dX7_put_52 rfl ?_
          refine VS.icmp_ne 61 dX7_put_54 (by decide) (fun h_54 => ?_) (fun h_54 => ?_)
          · refine VS.iconst (0) dX7_put_61 rfl ?_
            refine VS.val (y := puI c (k + 1)) (puI_n3 h_36 h_54) ?_
            refine VS.istore dX7_put_62 (by decide) rfl ?_
            refine VS.iload_n dX7_put_64 rfl ?_
            refine VS.iload dX7_put_65 rfl ?_
            refine VS.if_ne 74 dX7_put_67 (by decide) (fun _ => ?_) (fun hh => absurd hh (h_36))
            refine VS.iconst (1) dX7_put_74 rfl ?_
            refine VS.iadd dX7_put_75 ?_
            refine VS.val (y := nI (puN c (k + 1))) (puN_y h_36) ?_
            refine VS.istore_n dX7_put_76 (by decide) rfl ?_
            refine VS.iinc (nI (k + 1)) dX7_put_77 rfl (by decide) ((nI_succ k).symm) rfl ?_
            refine VS.goto 8 dX7_put_80 (by decide) ?_
            exact VS.forget 6 ik
          · refine VS.iconst (1) dX7_put_57 rfl ?_
            refine VS.goto 62 dX7_put_58 (by decide) ?_
            refine VS.val (y := puI c (k + 1)) (puI_y2 h_31 (ite11 h_48) h_54) ?_
            refine VS.istore dX7_put_62 (by decide) rfl ?_
            refine VS.iload_n dX7_put_64 rfl ?_
            refine VS.iload dX7_put_65 rfl ?_
            refine VS.if_ne 74 dX7_put_67 (by decide) (fun _ => ?_) (fun hh => absurd hh (h_36))
            refine VS.iconst (1) dX7_put_74 rfl ?_
            refine VS.iadd dX7_put_75 ?_
            refine VS.val (y := nI (puN c (k + 1))) (puN_y h_36) ?_
            refine VS.istore_n dX7_put_76 (by decide) rfl ?_
            refine VS.iinc (nI (k + 1)) dX7_put_77 rfl (by decide) ((nI_succ k).symm) rfl ?_
            refine VS.goto 8 dX7_put_80 (by decide) ?_
            exact VS.forget 6 ik
set_option maxRecDepth 100000 in
set_option maxHeartbeats 4000000 in
theorem ct_X7_put (l : Launch) (M : SS) (c : Int64) {len : Nat} (hL : M 0 6 = nI len) (hn0 : 0 < puN c 8) (hi0 : ¬ puI c 8 = 0) (hm : len + puN c 8 ≤ 80) : CtS l yX7_put cX7_put 7 (some FieldType.int) (rmD 1) [.ref 0, .long c] 7 shM M (some (.int (nI (len + puN c 8)))) (mPut M c len (puN c 8) (puN c 8)) := by
  refine CtF.of (own := RX7) [some (.ref 0), some (.long c), none, none, none, none, none] (by decide +kernel) rfl (fun _ => Nat.le_of_ble_eq_true rfl) (fun _ => rfl) ?_
  refine VS.iconst (0) dX7_put_0 rfl ?_
  refine VS.istore_n dX7_put_1 (by decide) rfl ?_
  refine VS.iconst (1) dX7_put_2 rfl ?_
  refine VS.istore dX7_put_3 (by decide) rfl ?_
  refine VS.iconst (0) dX7_put_5 rfl ?_
  refine VS.istore dX7_put_6 (by decide) rfl ?_
  refine VS.forS (i0 := 0) (8) (fun _ => M) (fun k => [some (.ref 0), some (.long c), none, some (.int (nI (puN c k))), some (.int (puI c k)), some (.int (nI k)), none]) (by decide) ?_ (fun k hk ik => ?_)
  · refine VS.iload dX7_put_8 rfl ?_
    refine VS.bipush (8) dX7_put_10 rfl ?_
    refine VS.icmp_ge 83 dX7_put_12 (by decide) (fun _ => ?_) (fun hh => absurd (by decide) hh)
    refine VS.iload_n dX7_put_83 rfl ?_
    refine VS.if_eq 92 dX7_put_84 (by decide) (fun hh => absurd hh (nI_ne0 hn0 (by have := puN_le c 8; omega))) (fun _ => ?_)
    refine VS.iload dX7_put_87 rfl ?_
    refine VS.if_ne 95 dX7_put_89 (by decide) (fun _ => ?_) (fun hh => absurd hh (hi0))
    refine VS.aload_n dX7_put_95 rfl ?_
    refine VS.sgetI 6 dX7_put_96 uw_X7 rfl (by decide) 6 rfl rfl (by decide) fl_X7_151 rfl ?_
    refine VS.val (y := nI len) hL ?_
    refine VS.iload_n dX7_put_99 rfl ?_
    refine VS.iadd dX7_put_100 ?_
    refine VS.bipush (80) dX7_put_101 rfl ?_
    refine VS.icmp_le 109 dX7_put_103 (by decide) (fun _ => ?_) (fun hh => absurd (by rw [nI_add]; exact nI_le (b := 80) hm (by decide)) hh)
    refine VS.iload_n dX7_put_109 rfl ?_
    refine VS.iconst (1) dX7_put_110 rfl ?_
    refine VS.isub dX7_put_111 ?_
    refine VS.val (y := kD (puN c 8) 0) (kD_0 hn0) ?_
    refine VS.stt (mPut_0 (c := c) (n := puN c 8) hL).symm ?_
    refine VS.istore dX7_put_112 (by decide) rfl ?_
    refine VS.forS (i0 := 0) (puN c 8) (fun i => mPut M c len (puN c 8) i) (fun i => [some (.ref 0), some (.long c), none, some (.int (nI (puN c 8))), some (.int (puI c 8)), some (.int (kD (puN c 8) i)), none]) (Nat.zero_le _) ?_ (fun i hi ih => ?_)
    · refine VS.iload dX7_put_114 rfl ?_
      refine VS.if_lt 156 dX7_put_116 (by decide) (fun _ => ?_) (fun hh => absurd (kD_e _) hh)
      refine VS.aload_n dX7_put_156 rfl ?_
      refine VS.sgetI 6 dX7_put_157 uw_X7 rfl (by decide) 6 rfl rfl (by decide) fl_X7_151 rfl ?_
      refine VS.val (y := nI (len + puN c 8)) rfl ?_
      exact VS.iret dX7_put_160 (rfl) (shk rfl)
    · refine VS.iload dX7_put_114 rfl ?_
      refine VS.if_lt 156 dX7_put_116 (by decide) (fun hh => absurd hh (kD_p hi (puN_le c 8))) (fun _ => ?_)
      refine VS.aload_n dX7_put_119 rfl ?_
      refine VS.sgetR 6 dX7_put_120 uw_X7 rfl (by decide) 5 rfl rfl (by decide) fl_X7_23 rfl ?_
      refine VS.aload_n dX7_put_123 rfl ?_
      refine VS.sgetI 6 dX7_put_124 uw_X7 rfl (by decide) 6 rfl rfl (by decide) fl_X7_151 rfl ?_
      refine VS.val (y := nI (len + i)) rfl ?_
      refine VS.lload_n dX7_put_127 rfl ?_
      refine VS.bipush (8) dX7_put_128 rfl ?_
      refine VS.iload dX7_put_130 rfl ?_
      refine VS.imul dX7_put_132 ?_
      refine VS.lushr dX7_put_133 ?_
      refine VS.ldc2 dX7_put_134 kc_X7_157 ?_
      refine VS.land dX7_put_137 ?_
      refine VS.l2i dX7_put_138 ?_
      refine VS.val (y := cdL c (kD (puN c 8) i)) (pcd_cdL _ _) ?_
      refine VS.val (y := cdL c (nI (puN c 8 - 1 - i))) (by rw [kD_n hi]) ?_
      refine VS.siast (len + i) dX7_put_139 (by decide) rfl (rfl) (by omega) (by decide) ?_
      refine VS.aload_n dX7_put_140 rfl ?_
      refine VS.dup dX7_put_141 rfl ?_
      refine VS.sgetI 6 dX7_put_142 uw_X7 rfl (by decide) 6 rfl rfl (by decide) fl_X7_151 rfl ?_
      refine VS.val (y := nI (len + i)) rfl ?_
      refine VS.iconst (1) dX7_put_145 rfl ?_
      refine VS.iadd dX7_put_146 ?_
      refine VS.sput 6 dX7_put_147 uw_X7 tyX7 tyX7_ok nmX7 rfl (by decide) 6 rfl rfl (by decide) fl_X7_151 rfl rfl (rfl) (rfl) ?_
      refine VS.stt mPut_s ?_
      refine VS.iinc (kD (puN c 8) (i + 1)) dX7_put_150 rfl (by decide) (kD_s _ _) rfl ?_
      refine VS.goto 114 dX7_put_153 (by decide) ?_
      exact ih
  · refine VS.iload dX7_put_8 rfl ?_
    refine VS.bipush (8) dX7_put_10 rfl ?_
    refine VS.icmp_ge 83 dX7_put_12 (by decide) (fun hh => absurd hh (nge8 hk)) (fun _ => ?_)
    refine VS.lload_n dX7_put_15 rfl ?_
    refine VS.bipush (8) dX7_put_16 rfl ?_
    refine VS.iload dX7_put_18 rfl ?_
    refine VS.imul dX7_put_20 ?_
    refine VS.lushr dX7_put_21 ?_
    refine VS.ldc2 dX7_put_22 kc_X7_157 ?_
    refine VS.land dX7_put_25 ?_
    refine VS.l2i dX7_put_26 ?_
    refine VS.val (y := cdL c (nI k)) (pcd_cdL _ _) ?_
    refine VS.istore dX7_put_27 (by decide) rfl ?_
    refine VS.iload dX7_put_29 rfl ?_
    refine VS.if_eq 61 dX7_put_31 (by decide) (fun h_31 => ?_) (fun h_31 => ?_)
    · refine VS.iconst (0) dX7_put_61 rfl ?_
      refine VS.val (y := puI c (k + 1)) (puI_n1 h_31) ?_
      refine VS.istore dX7_put_62 (by decide) rfl ?_
      refine VS.iload_n dX7_put_64 rfl ?_
      refine VS.iload dX7_put_65 rfl ?_
      refine VS.if_ne 74 dX7_put_67 (by decide) (fun h_67 => ?_) (fun h_67 => ?_)
      · refine VS.iconst (1) dX7_put_74 rfl ?_
        refine VS.iadd dX7_put_75 ?_
        refine VS.val (y := nI (puN c (k + 1))) (puN_y h_67) ?_
        refine VS.istore_n dX7_put_76 (by decide) rfl ?_
        refine VS.iinc (nI (k + 1)) dX7_put_77 rfl (by decide) ((nI_succ k).symm) rfl ?_
        refine VS.goto 8 dX7_put_80 (by decide) ?_
        exact VS.forget 6 ik
      · refine VS.iconst (0) dX7_put_70 rfl ?_
        refine VS.goto 75 dX7_put_71 (by decide) ?_
        refine VS.iadd dX7_put_75 ?_
        refine VS.val (y := nI (puN c (k + 1))) (puN_n h_67) ?_
        refine VS.istore_n dX7_put_76 (by decide) rfl ?_
        refine VS.iinc (nI (k + 1)) dX7_put_77 rfl (by decide) ((nI_succ k).symm) rfl ?_
        refine VS.goto 8 dX7_put_80 (by decide) ?_
        exact VS.forget 6 ik
    · refine VS.iload dX7_put_34 rfl ?_
      refine VS.if_eq 57 dX7_put_36 (by decide) (fun h_36 => ?_) (fun h_36 => ?_)
      · refine VS.iconst (1) dX7_put_57 rfl ?_
        refine VS.goto 62 dX7_put_58 (by decide) ?_
        refine VS.val (y := puI c (k + 1)) (puI_y1 h_31 h_36) ?_
        refine VS.istore dX7_put_62 (by decide) rfl ?_
        refine VS.iload_n dX7_put_64 rfl ?_
        refine VS.iload dX7_put_65 rfl ?_
        refine VS.if_ne 74 dX7_put_67 (by decide) (fun hh => absurd (h_36) hh) (fun _ => ?_)
        refine VS.iconst (0) dX7_put_70 rfl ?_
        refine VS.goto 75 dX7_put_71 (by decide) ?_
        refine VS.iadd dX7_put_75 ?_
        refine VS.val (y := nI (puN c (k + 1))) (puN_n h_36) ?_
        refine VS.istore_n dX7_put_76 (by decide) rfl ?_
        refine VS.iinc (nI (k + 1)) dX7_put_77 rfl (by decide) ((nI_succ k).symm) rfl ?_
        refine VS.goto 8 dX7_put_80 (by decide) ?_
        exact VS.forget 6 ik
      · refine VS.iload dX7_put_39 rfl ?_
        refine VS.bipush (33) dX7_put_41 rfl ?_
        refine VS.bipush (126) dX7_put_43 rfl ?_
        refine VS.callN (ct_X7_in l _ _ _) dX7_put_45 mi_X7_in st_X7_in ml_X7_29 (rmOk_D (by decide) (by decide)) (Nat.le_of_ble_eq_true rfl) rfl ?_
        refine VS.if_eq 61 dX7_put_48 (by decide) (fun h_48 => ?_) (fun h_48 => ?_)
        · refine VS.iconst (0) dX7_put_61 rfl ?_
          refine VS.val (y := puI c (k + 1)) (puI_n2 h_36 (ite10.mp h_48)) ?_
          refine VS.istore dX7_put_62 (by decide) rfl ?_
          refine VS.iload_n dX7_put_64 rfl ?_
          refine VS.iload dX7_put_65 rfl ?_
          refine VS.if_ne 74 dX7_put_67 (by decide) (fun _ => ?_) (fun hh => absurd hh (h_36))
          refine VS.iconst (1) dX7_put_74 rfl ?_
          refine VS.iadd dX7_put_75 ?_
          refine VS.val (y := nI (puN c (k + 1))) (puN_y h_36) ?_
          refine VS.istore_n dX7_put_76 (by decide) rfl ?_
          refine VS.iinc (nI (k + 1)) dX7_put_77 rfl (by decide) ((nI_succ k).symm) rfl ?_
          refine VS.goto 8 dX7_put_80 (by decide) ?_
          exact VS.forget 6 ik
        · refine VS.iload_n dX7_put_51 rfl ?_
          refine VS.iload dX7_put_52 rfl ?_
          refine VS.icmp_ne 61 dX7_put_54 (by decide) (fun h_54 => ?_) (fun h_54 => ?_)
          · refine VS.iconst (0) dX7_put_61 rfl ?_
            refine VS.val (y := puI c (k + 1)) (puI_n3 h_36 h_54) ?_
            refine VS.istore dX7_put_62 (by decide) rfl ?_
            refine VS.iload_n dX7_put_64 rfl ?_
            refine VS.iload dX7_put_65 rfl ?_
            refine VS.if_ne 74 dX7_put_67 (by decide) (fun _ => ?_) (fun hh => absurd hh (h_36))
            refine VS.iconst (1) dX7_put_74 rfl ?_
            refine VS.iadd dX7_put_75 ?_
            refine VS.val (y := nI (puN c (k + 1))) (puN_y h_36) ?_
            refine VS.istore_n dX7_put_76 (by decide) rfl ?_
            refine VS.iinc (nI (k + 1)) dX7_put_77 rfl (by decide) ((nI_succ k).symm) rfl ?_
            refine VS.goto 8 dX7_put_80 (by decide) ?_
            exact VS.forget 6 ik
          · refine VS.iconst (1) dX7_put_57 rfl ?_
            refine VS.goto 62 dX7_put_58 (by decide) ?_
            refine VS.val (y := puI c (k + 1)) (puI_y2 h_31 (ite11 h_48) h_54) ?_
            refine VS.istore dX7_put_62 (by decide) rfl ?_
            refine VS.iload_n dX7_put_64 rfl ?_
            refine VS.iload dX7_put_65 rfl ?_
            refine VS.if_ne 74 dX7_put_67 (by decide) (fun _ => ?_) (fun hh => absurd hh (h_36))
            refine VS.iconst (1) dX7_put_74 rfl ?_
            refine VS.iadd dX7_put_75 ?_
            refine VS.val (y := nI (puN c (k + 1))) (puN_y h_36) ?_
            refine VS.istore_n dX7_put_76 (by decide) rfl ?_
            refine VS.iinc (nI (k + 1)) dX7_put_77 rfl (by decide) ((nI_succ k).symm) rfl ?_
            refine VS.goto 8 dX7_put_80 (by decide) ?_
            exact VS.forget 6 ik
