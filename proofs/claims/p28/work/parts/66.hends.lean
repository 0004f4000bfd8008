/-! the walk of the law's hangs: players, the end -/
theorem ngt_n {a b : Nat} (h : a ≤ b) (hb : b < 2 ^ 31) : ¬ nI a > nI b := nI_nlt h hb
theorem nge_3 {i : Nat} (h : i < 3) : ¬ (3 : Int32) ≤ nI i := nI_ge (b := 3) h (by decide)
theorem rs_3 (f : Nat → Nat) : rs f 3 = S3 f := by show 0 + f 0 + f 1 + f 2 = f 0 + f 1 + f 2; omega
set_option maxRecDepth 100000 in
set_option maxHeartbeats 1500000 in
theorem hg_players (l : Launch) {S M : SS} (hS : RelK S M) (hx : GX (M 1)) {gm tu : Int32} (hgm : gm = M 1 6) {pu li ch hi di : Nat → Nat} (n8 : NumAt (M 1) 8 pu) (n18 : NumAt (M 1) 18 li) (n21 : NumAt (M 1) 21 ch) (n24 : NumAt (M 1) 24 hi) (n27 : NumAt (M 1) 27 di) (hpu : S3 pu ≤ 260) (hhc : ∀ p, p < 3 → hi p ≤ ch p) (hch : S3 ch ≤ 32) (kk : VS l (rmD 6) RL cL_hangs 22 (XF (some .boolean) 77 (some (.int 1)) (shW shK S)) 0 0 77 (shW shK S) 997 [some (.ref 0), some (.int gm), some (.int tu), some (.int 1), some (.int (nI (pcN (rK (M 1))))), some (.int (nI (pcN (rTh (M 1))))), some (.int (nI (pcN (M 1 17)))), some (.int (nI (rs (clN (M 1)) 3))), some (.int (nI (2 * (28 - pcN (rK (M 1)))))), some (.int (nI (rs (deN (M 1)) 8))), some (.int (nI (sm (bt (M 1 0)) (lq 64)))), some (.int (nI (rs pu (3)))), some (.int (nI (rs (clN (M 1)) (3)))), some (.int (nI (rs (shN (M 1)) (3)))), some (.int (nI (rs ch (3)))), some (.int (nI (rs li (3)))), some (.int (nI (rs hi (3)))), some (.int (nI (rs di (3)))), some (.int (nI (3))), none, none, none] []) : VS l (rmD 6) RL cL_hangs 22 (XF (some .boolean) 77 (some (.int 1)) (shW shK S)) 0 0 77 (shW shK S) 807 [some (.ref 0), some (.int gm), some (.int tu), some (.int 1), some (.int (nI (pcN (rK (M 1))))), some (.int (nI (pcN (rTh (M 1))))), some (.int (nI (pcN (M 1 17)))), some (.int (nI (rs (clN (M 1)) 3))), some (.int (nI (2 * (28 - pcN (rK (M 1)))))), some (.int (nI (rs (deN (M 1)) 8))), some (.int (nI (sm (bt (M 1 0)) (lq 64)))), some (.int (nI (rs pu (0)))), some (.int (nI (rs (clN (M 1)) (0)))), some (.int (nI (rs (shN (M 1)) (0)))), some (.int (nI (rs ch (0)))), some (.int (nI (rs li (0)))), some (.int (nI (rs hi (0)))), some (.int (nI (rs di (0)))), some (.int (nI (0))), none, none, none] [] := by
  refine VS.forS (i0 := 0) 3 (fun _ => S) (fun p => [some (.ref 0), some (.int gm), some (.int tu), some (.int 1), some (.int (nI (pcN (rK (M 1))))), some (.int (nI (pcN (rTh (M 1))))), some (.int (nI (pcN (M 1 17)))), some (.int (nI (rs (clN (M 1)) 3))), some (.int (nI (2 * (28 - pcN (rK (M 1)))))), some (.int (nI (rs (deN (M 1)) 8))), some (.int (nI (sm (bt (M 1 0)) (lq 64)))), some (.int (nI (rs pu (p)))), some (.int (nI (rs (clN (M 1)) (p)))), some (.int (nI (rs (shN (M 1)) (p)))), some (.int (nI (rs ch (p)))), some (.int (nI (rs li (p)))), some (.int (nI (rs hi (p)))), some (.int (nI (rs di (p)))), some (.int (nI (p))), none, none, none]) (by decide) ?_ (fun p hp ih => ?_)
  · refine VS.iload dL_hangs_807 rfl ?_
    refine VS.iconst (3) dL_hangs_809 rfl ?_
    refine VS.icmp_ge 997 dL_hangs_810 (by decide) (fun _ => ?_) (fun hh => absurd (by decide) hh)
    exact kk
  · have g1 := S3_ge pu hp
    have g2 := pcN_le (M 1 (11 + p) ||| M 1 (14 + p))
    have g3 : clN (M 1) p ≤ 32 := g2
    have g4 : seN (M 1) p ≤ 32 := pcN_le _
    have g5 := S3_ge ch hp
    have g6 := pcN_le (M 1 17)
    refine VS.iload dL_hangs_807 rfl ?_
    refine VS.iconst (3) dL_hangs_809 rfl ?_
    refine VS.icmp_ge 997 dL_hangs_810 (by decide) (fun hh => absurd hh (nge_3 hp)) (fun _ => ?_)
    refine VS.iload_n dL_hangs_813 rfl ?_
    refine VS.if_eq 997 dL_hangs_814 (by decide) (fun hh => absurd hh (by decide)) (fun _ => ?_)
    refine VS.aload_n dL_hangs_817 rfl ?_
    refine VS.iload dL_hangs_818 rfl ?_
    refine VS.iconst (0) dL_hangs_820 rfl ?_
    refine VS.callT (ak_player l 0 hp S hS) dL_hangs_821 mi_X6_player im_X6_player sel_X6_player ml_L_95 (by decide) rfl rfl (rmOk_D (by decide) (by decide)) (Nat.le_of_ble_eq_true rfl) rfl ?_
    refine VS.val (y := nI (pu p)) (n8 p hp) ?_
    refine VS.if_lt 904 dL_hangs_824 (by decide) (fun hh => absurd hh (nI_pos (by omega))) (fun _ => ?_)
    refine VS.aload_n dL_hangs_827 rfl ?_
    refine VS.iload dL_hangs_828 rfl ?_
    refine VS.iconst (0) dL_hangs_830 rfl ?_
    refine VS.callT (ak_player l 0 hp S hS) dL_hangs_831 mi_X6_player im_X6_player sel_X6_player ml_L_95 (by decide) rfl rfl (rmOk_D (by decide) (by decide)) (Nat.le_of_ble_eq_true rfl) rfl ?_
    refine VS.val (y := nI (pu p)) (n8 p hp) ?_
    refine VS.sipush (9999) dL_hangs_834 rfl ?_
    refine VS.icmp_gt 904 dL_hangs_837 (by decide) (fun hh => absurd hh (ngt_n (b := 9999) (by omega) (by decide))) (fun _ => ?_)
    refine VS.aload_n dL_hangs_840 rfl ?_
    refine VS.iload dL_hangs_841 rfl ?_
    refine VS.iconst (2) dL_hangs_843 rfl ?_
    refine VS.callT (ak_player l 2 hp S hS) dL_hangs_844 mi_X6_player im_X6_player sel_X6_player ml_L_95 (by decide) rfl rfl (rmOk_D (by decide) (by decide)) (Nat.le_of_ble_eq_true rfl) rfl ?_
    refine VS.val (y := nI (shN (M 1) p)) (rfl) ?_
    refine VS.aload_n dL_hangs_847 rfl ?_
    refine VS.iload dL_hangs_848 rfl ?_
    refine VS.iconst (1) dL_hangs_850 rfl ?_
    refine VS.callT (ak_player l 1 hp S hS) dL_hangs_851 mi_X6_player im_X6_player sel_X6_player ml_L_95 (by decide) rfl rfl (rmOk_D (by decide) (by decide)) (Nat.le_of_ble_eq_true rfl) rfl ?_
    refine VS.val (y := nI (clN (M 1) p)) (rfl) ?_
    refine VS.icmp_gt 904 dL_hangs_854 (by decide) (fun hh => absurd hh (ngt_n (sh_cl p) (by omega))) (fun _ => ?_)
    refine VS.aload_n dL_hangs_857 rfl ?_
    refine VS.iload dL_hangs_858 rfl ?_
    refine VS.iconst (5) dL_hangs_860 rfl ?_
    refine VS.callT (ak_player l 5 hp S hS) dL_hangs_861 mi_X6_player im_X6_player sel_X6_player ml_L_95 (by decide) rfl rfl (rmOk_D (by decide) (by decide)) (Nat.le_of_ble_eq_true rfl) rfl ?_
    refine VS.val (y := nI (hi p)) (n24 p hp) ?_
    refine VS.aload_n dL_hangs_864 rfl ?_
    refine VS.iload dL_hangs_865 rfl ?_
    refine VS.iconst (4) dL_hangs_867 rfl ?_
    refine VS.callT (ak_player l 4 hp S hS) dL_hangs_868 mi_X6_player im_X6_player sel_X6_player ml_L_95 (by decide) rfl rfl (rmOk_D (by decide) (by decide)) (Nat.le_of_ble_eq_true rfl) rfl ?_
    refine VS.val (y := nI (ch p)) (n21 p hp) ?_
    refine VS.icmp_gt 904 dL_hangs_871 (by decide) (fun hh => absurd hh (ngt_n (hhc p hp) (by omega))) (fun _ => ?_)
    refine VS.aload_n dL_hangs_874 rfl ?_
    refine VS.iload dL_hangs_875 rfl ?_
    refine VS.bipush (7) dL_hangs_877 rfl ?_
    refine VS.callT (ak_player l 7 hp S hS) dL_hangs_879 mi_X6_player im_X6_player sel_X6_player ml_L_95 (by decide) rfl rfl (rmOk_D (by decide) (by decide)) (Nat.le_of_ble_eq_true rfl) rfl ?_
    refine VS.val (y := nI (seN (M 1) p)) (rfl) ?_
    refine VS.iload dL_hangs_882 rfl ?_
    refine VS.icmp_lt 904 dL_hangs_884 (by decide) (fun hh => absurd hh (nI_nlt (se_k p) (by omega))) (fun _ => ?_)
    refine VS.aload_n dL_hangs_887 rfl ?_
    refine VS.iload dL_hangs_888 rfl ?_
    refine VS.bipush (7) dL_hangs_890 rfl ?_
    refine VS.callT (ak_player l 7 hp S hS) dL_hangs_892 mi_X6_player im_X6_player sel_X6_player ml_L_95 (by decide) rfl rfl (rmOk_D (by decide) (by decide)) (Nat.le_of_ble_eq_true rfl) rfl ?_
    refine VS.val (y := nI (seN (M 1) p)) (rfl) ?_
    refine VS.bipush (9) dL_hangs_895 rfl ?_
    refine VS.icmp_lt 904 dL_hangs_897 (by decide) (fun hh => absurd hh (nI_nlt (b := 9) (se_9 hp) (by omega))) (fun _ => ?_)
    refine VS.iconst (1) dL_hangs_900 rfl ?_
    refine VS.goto 905 dL_hangs_901 (by decide) ?_
    refine VS.istore_n dL_hangs_905 (by decide) rfl ?_
    refine VS.nf [some (.ref 0), some (.int gm), some (.int tu), some (.int 1), some (.int (nI (pcN (rK (M 1))))), some (.int (nI (pcN (rTh (M 1))))), some (.int (nI (pcN (M 1 17)))), some (.int (nI (rs (clN (M 1)) 3))), some (.int (nI (2 * (28 - pcN (rK (M 1)))))), some (.int (nI (rs (deN (M 1)) 8))), some (.int (nI (sm (bt (M 1 0)) (lq 64)))), some (.int (nI (rs pu (p)))), some (.int (nI (rs (clN (M 1)) (p)))), some (.int (nI (rs (shN (M 1)) (p)))), some (.int (nI (rs ch (p)))), some (.int (nI (rs li (p)))), some (.int (nI (rs hi (p)))), some (.int (nI (rs di (p)))), some (.int (nI (p))), none, none, none] rfl ?_
    refine VS.iload dL_hangs_906 rfl ?_
    refine VS.aload_n dL_hangs_908 rfl ?_
    refine VS.iload dL_hangs_909 rfl ?_
    refine VS.iconst (0) dL_hangs_911 rfl ?_
    refine VS.callT (ak_player l 0 hp S hS) dL_hangs_912 mi_X6_player im_X6_player sel_X6_player ml_L_95 (by decide) rfl rfl (rmOk_D (by decide) (by decide)) (Nat.le_of_ble_eq_true rfl) rfl ?_
    refine VS.val (y := nI (pu p)) (n8 p hp) ?_
    refine VS.iadd dL_hangs_915 ?_
    refine VS.val (y := nI (rs pu (p + 1))) (nI_add _ _) ?_
    refine VS.istore dL_hangs_916 (by decide) rfl ?_
    refine VS.iload dL_hangs_918 rfl ?_
    refine VS.aload_n dL_hangs_920 rfl ?_
    refine VS.iload dL_hangs_921 rfl ?_
    refine VS.iconst (1) dL_hangs_923 rfl ?_
    refine VS.callT (ak_player l 1 hp S hS) dL_hangs_924 mi_X6_player im_X6_player sel_X6_player ml_L_95 (by decide) rfl rfl (rmOk_D (by decide) (by decide)) (Nat.le_of_ble_eq_true rfl) rfl ?_
    refine VS.val (y := nI (clN (M 1) p)) (rfl) ?_
    refine VS.iadd dL_hangs_927 ?_
    refine VS.val (y := nI (rs (clN (M 1)) (p + 1))) (nI_add _ _) ?_
    refine VS.istore dL_hangs_928 (by decide) rfl ?_
    refine VS.iload dL_hangs_930 rfl ?_
    refine VS.aload_n dL_hangs_932 rfl ?_
    refine VS.iload dL_hangs_933 rfl ?_
    refine VS.iconst (2) dL_hangs_935 rfl ?_
    refine VS.callT (ak_player l 2 hp S hS) dL_hangs_936 mi_X6_player im_X6_player sel_X6_player ml_L_95 (by decide) rfl rfl (rmOk_D (by decide) (by decide)) (Nat.le_of_ble_eq_true rfl) rfl ?_
    refine VS.val (y := nI (shN (M 1) p)) (rfl) ?_
    refine VS.iadd dL_hangs_939 ?_
    refine VS.val (y := nI (rs (shN (M 1)) (p + 1))) (nI_add _ _) ?_
    refine VS.istore dL_hangs_940 (by decide) rfl ?_
    refine VS.iload dL_hangs_942 rfl ?_
    refine VS.aload_n dL_hangs_944 rfl ?_
    refine VS.iload dL_hangs_945 rfl ?_
    refine VS.iconst (3) dL_hangs_947 rfl ?_
    refine VS.callT (ak_player l 3 hp S hS) dL_hangs_948 mi_X6_player im_X6_player sel_X6_player ml_L_95 (by decide) rfl rfl (rmOk_D (by decide) (by decide)) (Nat.le_of_ble_eq_true rfl) rfl ?_
    refine VS.val (y := nI (li p)) (n18 p hp) ?_
    refine VS.iadd dL_hangs_951 ?_
    refine VS.val (y := nI (rs li (p + 1))) (nI_add _ _) ?_
    refine VS.istore dL_hangs_952 (by decide) rfl ?_
    refine VS.iload dL_hangs_954 rfl ?_
    refine VS.aload_n dL_hangs_956 rfl ?_
    refine VS.iload dL_hangs_957 rfl ?_
    refine VS.iconst (4) dL_hangs_959 rfl ?_
    refine VS.callT (ak_player l 4 hp S hS) dL_hangs_960 mi_X6_player im_X6_player sel_X6_player ml_L_95 (by decide) rfl rfl (rmOk_D (by decide) (by decide)) (Nat.le_of_ble_eq_true rfl) rfl ?_
    refine VS.val (y := nI (ch p)) (n21 p hp) ?_
    refine VS.iadd dL_hangs_963 ?_
    refine VS.val (y := nI (rs ch (p + 1))) (nI_add _ _) ?_
    refine VS.istore dL_hangs_964 (by decide) rfl ?_
    refine VS.iload dL_hangs_966 rfl ?_
    refine VS.aload_n dL_hangs_968 rfl ?_
    refine VS.iload dL_hangs_969 rfl ?_
    refine VS.iconst (5) dL_hangs_971 rfl ?_
    refine VS.callT (ak_player l 5 hp S hS) dL_hangs_972 mi_X6_player im_X6_player sel_X6_player ml_L_95 (by decide) rfl rfl (rmOk_D (by decide) (by decide)) (Nat.le_of_ble_eq_true rfl) rfl ?_
    refine VS.val (y := nI (hi p)) (n24 p hp) ?_
    refine VS.iadd dL_hangs_975 ?_
    refine VS.val (y := nI (rs hi (p + 1))) (nI_add _ _) ?_
    refine VS.istore dL_hangs_976 (by decide) rfl ?_
    refine VS.iload dL_hangs_978 rfl ?_
    refine VS.aload_n dL_hangs_980 rfl ?_
    refine VS.iload dL_hangs_981 rfl ?_
    refine VS.bipush (6) dL_hangs_983 rfl ?_
    refine VS.callT (ak_player l 6 hp S hS) dL_hangs_985 mi_X6_player im_X6_player sel_X6_player ml_L_95 (by decide) rfl rfl (rmOk_D (by decide) (by decide)) (Nat.le_of_ble_eq_true rfl) rfl ?_
    refine VS.val (y := nI (di p)) (n27 p hp) ?_
    refine VS.iadd dL_hangs_988 ?_
    refine VS.val (y := nI (rs di (p + 1))) (nI_add _ _) ?_
    refine VS.istore dL_hangs_989 (by decide) rfl ?_
    refine VS.iinc (nI (p + 1)) dL_hangs_991 rfl (by decide) (nI_1 p) rfl ?_
    refine VS.goto 807 dL_hangs_994 (by decide) ?_
    exact ih
set_option maxRecDepth 100000 in
set_option maxHeartbeats 1500000 in
theorem hg_end (l : Launch) {S M : SS} (hS : RelK S M) (hx : GX (M 1)) {gm tu : Int32} (hgm : gm = M 1 6) {pu li ch hi di : Nat → Nat} (n8 : NumAt (M 1) 8 pu) (n18 : NumAt (M 1) 18 li) (n21 : NumAt (M 1) 21 ch) (n24 : NumAt (M 1) 24 hi) (n27 : NumAt (M 1) 27 di) {cb : Int32} (hcb : AskK l yX6_canBe cX6_canBe 3 (rmD 5) [] M cb) (hv0 : ¬ 0 < M 1 6 → cb = 0) (hv1 : 0 < M 1 6 → 0 < cb ∧ cb < 256) {n np : Nat} (hn : tu = nI n) (hn2 : n ≤ 150) (hdd : S3 di = nD (M 1)) (hdig : ∀ k, k < nD (M 1) → ∃ q, q < 8 ∧ M 1 (32 + k) = nI q) (hlh : S3 li = S3 hi) (hcr : S3 ch = pcN (M 1 17)) (hsum : S3 ch + S3 di ≤ n) (hfin : (M 1 30 = -6 ∧ S3 pu ≤ 60) ∨ ∃ p, p < 3 ∧ M 1 30 = nI p ∧ 0 < di p ∧ gm = 2 ∧ S3 pu ≤ 260) (hdib : ∀ p, p < 3 → di p ≤ 150) (hnp : M 0 2 = nI np) (hnp6 : np ≤ 6) : VS l (rmD 6) RL cL_hangs 22 (XF (some .boolean) 77 (some (.int 1)) (shW shK S)) 0 0 77 (shW shK S) 997 [some (.ref 0), some (.int gm), some (.int tu), some (.int 1), some (.int (nI (pcN (rK (M 1))))), some (.int (nI (pcN (rTh (M 1))))), some (.int (nI (pcN (M 1 17)))), some (.int (nI (rs (clN (M 1)) 3))), some (.int (nI (2 * (28 - pcN (rK (M 1)))))), some (.int (nI (rs (deN (M 1)) 8))), some (.int (nI (sm (bt (M 1 0)) (lq 64)))), some (.int (nI (S3 pu))), some (.int (nI (rs (clN (M 1)) (3)))), some (.int (nI (rs (shN (M 1)) (3)))), some (.int (nI (S3 ch))), some (.int (nI (S3 li))), some (.int (nI (S3 hi))), some (.int (nI (S3 di))), some (.int (nI (3))), none, none, none] [] := by
  have hst := stage_n hx.1
  rw [← hgm] at hst
  have n0 : gm = 0 → ¬ 0 < M 1 6 := fun z y => by rw [← hgm, z] at y; exact absurd y (by decide)
  have n1 : ¬ gm = 0 → 0 < M 1 6 := fun z => by rw [← hgm]; exact hst.mp z
  have h28 : pcN (rK (M 1)) ≤ 28 := by rw [pcN_28 (rK_hi hx.1)]; exact ct_le _ _
  have hsh : rShown (M 1) 0 + rShown (M 1) 1 + rShown (M 1) 2 = nI (rs (shN (M 1)) 3) := by
    show nI (shN (M 1) 0) + nI (shN (M 1) 1) + nI (shN (M 1) 2) = nI (0 + shN (M 1) 0 + shN (M 1) 1 + shN (M 1) 2)
    rw [nI_add, nI_add, Nat.zero_add]
  have hdv : nI (2 * (28 - pcN (rK (M 1)))) / 2 = nI (28 - pcN (rK (M 1))) := by
    have e := pk_div (a := 2 * (28 - pcN (rK (M 1)))) (d := 2) (by omega) (by decide) (by decide)
    rw [show 2 * (28 - pcN (rK (M 1))) / 2 = 28 - pcN (rK (M 1)) by omega] at e
    exact e
  have hde : ¬ gm = 0 → nI (rs (deN (M 1)) 8) = nI (sm (bt (M 1 0)) (lq 64)) := fun z => by
    rw [← end_degrees]
    exact congrArg nI (rs_congr 8 fun a _ => if_pos (n1 z))
  have hd2 : ¬ (0 ≤ nI (S3 di) ∧ nI (S3 di) < nI (nD (M 1))) := fun z => by
    rw [hdd] at z; exact absurd z.2 (nI_nlt (Nat.le_refl _) (by omega))
  have htu : ¬ nI (S3 ch + S3 di) > tu := by rw [hn]; exact ngt_n hsum (by omega)
  refine VS.aload_n dL_hangs_997 rfl ?_
  refine VS.callT (hcb S hS) dL_hangs_998 mi_X6_canBe im_X6_canBe sel_X6_canBe ml_L_98 (by decide) rfl rfl (rmOk_D (by decide) (by decide)) (Nat.le_of_ble_eq_true rfl) rfl ?_
  refine VS.istore dL_hangs_1001 (by decide) rfl ?_
  refine VS.nf [some (.ref 0), some (.int gm), some (.int tu), some (.int 1), some (.int (nI (pcN (rK (M 1))))), some (.int (nI (pcN (rTh (M 1))))), some (.int (nI (pcN (M 1 17)))), some (.int (nI (rs (clN (M 1)) 3))), some (.int (nI (2 * (28 - pcN (rK (M 1)))))), some (.int (nI (rs (deN (M 1)) 8))), some (.int (nI (sm (bt (M 1 0)) (lq 64)))), some (.int (nI (S3 pu))), some (.int (nI (rs (clN (M 1)) (3)))), some (.int (nI (rs (shN (M 1)) (3)))), some (.int (nI (S3 ch))), some (.int (nI (S3 li))), some (.int (nI (S3 hi))), some (.int (nI (S3 di))), some (.int cb), none, none, none] rfl ?_
  refine VS.joinB 1024 [.int 1] (fun k1024 => ?_) ?_
  · by_cases hdn : S3 di = 0
    · refine VS.iload dL_hangs_1003 rfl ?_
      refine VS.if_eq 1019 dL_hangs_1005 (by decide) (fun _ => ?_) (fun hh => absurd (by rw [hdn]; rfl) hh)
      refine VS.iconst (1) dL_hangs_1019 rfl ?_
      refine VS.goto 1024 dL_hangs_1020 (by decide) ?_
      exact k1024
    · have hd1 : S3 di - 1 < nD (M 1) := by omega
      obtain ⟨dq, hdq8, hdq⟩ := hdig (S3 di - 1) (by omega)
      refine VS.iload dL_hangs_1003 rfl ?_
      refine VS.if_eq 1019 dL_hangs_1005 (by decide) (fun hh => absurd hh (nI_ne0 (by omega) (by omega))) (fun _ => ?_)
      refine VS.aload_n dL_hangs_1008 rfl ?_
      refine VS.iload dL_hangs_1009 rfl ?_
      refine VS.iconst (1) dL_hangs_1011 rfl ?_
      refine VS.isub dL_hangs_1012 ?_
      refine VS.val (y := nI (S3 di - 1)) (nI_dec hdn) ?_
      refine VS.callT (ak_dug l hd1 S hS) dL_hangs_1013 mi_X6_dug im_X6_dug sel_X6_dug ml_L_101 (by decide) rfl rfl (rmOk_D (by decide) (by decide)) (Nat.le_of_ble_eq_true rfl) rfl ?_
      refine VS.val (y := nI dq) (hdq) ?_
      refine VS.if_lt 1023 dL_hangs_1016 (by decide) (fun hh => absurd hh (nI_pos (by omega))) (fun _ => ?_)
      refine VS.iconst (1) dL_hangs_1019 rfl ?_
      refine VS.goto 1024 dL_hangs_1020 (by decide) ?_
      exact k1024
  refine VS.istore dL_hangs_1024 (by decide) rfl ?_
  refine VS.nf [some (.ref 0), some (.int gm), some (.int tu), some (.int 1), some (.int (nI (pcN (rK (M 1))))), some (.int (nI (pcN (rTh (M 1))))), some (.int (nI (pcN (M 1 17)))), some (.int (nI (rs (clN (M 1)) 3))), some (.int (nI (2 * (28 - pcN (rK (M 1)))))), some (.int (nI (rs (deN (M 1)) 8))), some (.int (nI (sm (bt (M 1 0)) (lq 64)))), some (.int (nI (S3 pu))), some (.int (nI (rs (clN (M 1)) (3)))), some (.int (nI (rs (shN (M 1)) (3)))), some (.int (nI (S3 ch))), some (.int (nI (S3 li))), some (.int (nI (S3 hi))), some (.int (nI (S3 di))), some (.int cb), some (.int 1), none, none] rfl ?_
  refine VS.iload_n dL_hangs_1026 rfl ?_
  refine VS.if_eq 1293 dL_hangs_1027 (by decide) (fun hh => absurd hh (by decide)) (fun _ => ?_)
  refine VS.iload dL_hangs_1030 rfl ?_
  refine VS.aload_n dL_hangs_1032 rfl ?_
  refine VS.iconst (4) dL_hangs_1033 rfl ?_
  refine VS.callT (ak_count l (c := 4) (by decide) S hS) dL_hangs_1034 mi_X6_count im_X6_count sel_X6_count ml_L_23 (by decide) rfl rfl (rmOk_D (by decide) (by decide)) (Nat.le_of_ble_eq_true rfl) rfl ?_
  refine VS.val (y := nI (pcN (rK (M 1)))) (rfl) ?_
  refine VS.icmp_ne 1293 dL_hangs_1037 (by decide) (fun hh => absurd (rfl) hh) (fun _ => ?_)
  refine VS.iload dL_hangs_1040 rfl ?_
  refine VS.aload_n dL_hangs_1042 rfl ?_
  refine VS.iconst (5) dL_hangs_1043 rfl ?_
  refine VS.callT (ak_count l (c := 5) (by decide) S hS) dL_hangs_1044 mi_X6_count im_X6_count sel_X6_count ml_L_23 (by decide) rfl rfl (rmOk_D (by decide) (by decide)) (Nat.le_of_ble_eq_true rfl) rfl ?_
  refine VS.val (y := nI (pcN (rTh (M 1)))) (rfl) ?_
  refine VS.icmp_ne 1293 dL_hangs_1047 (by decide) (fun hh => absurd (rfl) hh) (fun _ => ?_)
  refine VS.iload dL_hangs_1050 rfl ?_
  refine VS.aload_n dL_hangs_1052 rfl ?_
  refine VS.bipush (7) dL_hangs_1053 rfl ?_
  refine VS.callT (ak_count l (c := 7) (by decide) S hS) dL_hangs_1055 mi_X6_count im_X6_count sel_X6_count ml_L_23 (by decide) rfl rfl (rmOk_D (by decide) (by decide)) (Nat.le_of_ble_eq_true rfl) rfl ?_
  refine VS.val (y := nI (pcN (M 1 17))) (rfl) ?_
  refine VS.icmp_ne 1293 dL_hangs_1058 (by decide) (fun hh => absurd (rfl) hh) (fun _ => ?_)
  refine VS.iload dL_hangs_1061 rfl ?_
  refine VS.iload dL_hangs_1063 rfl ?_
  refine VS.icmp_ne 1293 dL_hangs_1065 (by decide) (fun hh => absurd (rfl) hh) (fun _ => ?_)
  refine VS.iload dL_hangs_1068 rfl ?_
  refine VS.aload_n dL_hangs_1070 rfl ?_
  refine VS.bipush (6) dL_hangs_1071 rfl ?_
  refine VS.callT (ak_count l (c := 6) (by decide) S hS) dL_hangs_1073 mi_X6_count im_X6_count sel_X6_count ml_L_23 (by decide) rfl rfl (rmOk_D (by decide) (by decide)) (Nat.le_of_ble_eq_true rfl) rfl ?_
  refine VS.val (y := nI (rs (shN (M 1)) 3)) (hsh) ?_
  refine VS.icmp_ne 1293 dL_hangs_1076 (by decide) (fun hh => absurd (rfl) hh) (fun _ => ?_)
  refine VS.iload dL_hangs_1079 rfl ?_
  refine VS.iload dL_hangs_1081 rfl ?_
  refine VS.icmp_ne 1293 dL_hangs_1083 (by decide) (fun hh => absurd (congrArg nI hlh) hh) (fun _ => ?_)
  refine VS.iload dL_hangs_1086 rfl ?_
  refine VS.iload dL_hangs_1088 rfl ?_
  refine VS.icmp_ne 1293 dL_hangs_1090 (by decide) (fun hh => absurd (congrArg nI hcr) hh) (fun _ => ?_)
  refine VS.iload dL_hangs_1093 rfl ?_
  refine VS.if_eq 1293 dL_hangs_1095 (by decide) (fun hh => absurd hh (by decide)) (fun _ => ?_)
  refine VS.aload_n dL_hangs_1098 rfl ?_
  refine VS.iload dL_hangs_1099 rfl ?_
  refine VS.callT (ak_dug_no l hd2 S hS) dL_hangs_1101 mi_X6_dug im_X6_dug sel_X6_dug ml_L_101 (by decide) rfl rfl (rmOk_D (by decide) (by decide)) (Nat.le_of_ble_eq_true rfl) rfl ?_
  refine VS.iconst (-1) dL_hangs_1104 rfl ?_
  refine VS.icmp_ne 1293 dL_hangs_1105 (by decide) (fun hh => absurd (rfl) hh) (fun _ => ?_)
  refine VS.iload dL_hangs_1108 rfl ?_
  refine VS.iload dL_hangs_1110 rfl ?_
  refine VS.iadd dL_hangs_1112 ?_
  refine VS.val (y := nI (S3 ch + S3 di)) (nI_add _ _) ?_
  refine VS.iload_n dL_hangs_1113 rfl ?_
  refine VS.icmp_gt 1293 dL_hangs_1114 (by decide) (fun hh => absurd hh (htu)) (fun _ => ?_)
  refine VS.bipush (28) dL_hangs_1117 rfl ?_
  refine VS.iload dL_hangs_1119 rfl ?_
  refine VS.isub dL_hangs_1121 ?_
  refine VS.val (y := nI (28 - pcN (rK (M 1)))) (nI_subN (a := 28) h28) ?_
  refine VS.iload dL_hangs_1122 rfl ?_
  refine VS.iconst (2) dL_hangs_1124 rfl ?_
  refine VS.idiv dL_hangs_1125 (by decide) ?_
  refine VS.val (y := nI (28 - pcN (rK (M 1)))) (hdv) ?_
  refine VS.icmp_ne 1293 dL_hangs_1126 (by decide) (fun hh => absurd (rfl) hh) (fun _ => ?_)
  refine VS.joinB 1140 [] (fun k1140 => ?_) ?_
  · refine VS.iload_n dL_hangs_1129 rfl ?_
    refine VS.if_eq 1140 dL_hangs_1130 (by decide) (fun h_1130 => ?_) (fun h_1130 => ?_)
    · exact k1140
    · refine VS.iload dL_hangs_1133 rfl ?_
      refine VS.iload dL_hangs_1135 rfl ?_
      refine VS.icmp_ne 1293 dL_hangs_1137 (by decide) (fun hh => absurd (hde h_1130) hh) (fun _ => ?_)
      exact k1140
  refine VS.joinB 1165 [] (fun k1165 => ?_) ?_
  · refine VS.iload_n dL_hangs_1140 rfl ?_
    refine VS.if_ne 1152 dL_hangs_1141 (by decide) (fun h_1141 => ?_) (fun h_1141 => ?_)
    · refine VS.iload dL_hangs_1152 rfl ?_
      refine VS.if_le 1293 dL_hangs_1154 (by decide) (fun hh => absurd hh (Int32.not_le.mpr (hv1 (n1 h_1141)).1)) (fun _ => ?_)
      refine VS.iload dL_hangs_1157 rfl ?_
      refine VS.sipush (256) dL_hangs_1159 rfl ?_
      refine VS.icmp_ge 1293 dL_hangs_1162 (by decide) (fun hh => absurd hh (Int32.not_le.mpr (hv1 (n1 h_1141)).2)) (fun _ => ?_)
      exact k1165
    · refine VS.iload dL_hangs_1144 rfl ?_
      refine VS.if_ne 1293 dL_hangs_1146 (by decide) (fun hh => absurd (hv0 (n0 h_1141)) hh) (fun _ => ?_)
      refine VS.goto 1165 dL_hangs_1149 (by decide) ?_
      exact k1165
  refine VS.joinB 1194 [] (fun k1194 => ?_) ?_
  · rcases hfin with ⟨hf, hf60⟩ | ⟨fq, hq3, hfq, hdf, hf6, hf260⟩
    · refine VS.aload_n dL_hangs_1165 rfl ?_
      refine VS.iconst (3) dL_hangs_1166 rfl ?_
      refine VS.callT (ak_count l (c := 3) (by decide) S hS) dL_hangs_1167 mi_X6_count im_X6_count sel_X6_count ml_L_23 (by decide) rfl rfl (rmOk_D (by decide) (by decide)) (Nat.le_of_ble_eq_true rfl) rfl ?_
      refine VS.val (y := M 1 30) (rfl) ?_
      refine VS.bipush (-6) dL_hangs_1170 rfl ?_
      refine VS.icmp_eq 1194 dL_hangs_1172 (by decide) (fun _ => ?_) (fun hh => absurd (hf) hh)
      exact k1194
    · refine VS.aload_n dL_hangs_1165 rfl ?_
      refine VS.iconst (3) dL_hangs_1166 rfl ?_
      refine VS.callT (ak_count l (c := 3) (by decide) S hS) dL_hangs_1167 mi_X6_count im_X6_count sel_X6_count ml_L_23 (by decide) rfl rfl (rmOk_D (by decide) (by decide)) (Nat.le_of_ble_eq_true rfl) rfl ?_
      refine VS.val (y := M 1 30) (rfl) ?_
      refine VS.bipush (-6) dL_hangs_1170 rfl ?_
      refine VS.icmp_eq 1194 dL_hangs_1172 (by decide) (fun hh => absurd hh (by rw [hfq]; exact nI_m6 (by omega))) (fun _ => ?_)
      refine VS.iload_n dL_hangs_1175 rfl ?_
      refine VS.iconst (2) dL_hangs_1176 rfl ?_
      refine VS.icmp_ne 1293 dL_hangs_1177 (by decide) (fun hh => absurd (hf6) hh) (fun _ => ?_)
      refine VS.aload_n dL_hangs_1180 rfl ?_
      refine VS.aload_n dL_hangs_1181 rfl ?_
      refine VS.iconst (3) dL_hangs_1182 rfl ?_
      refine VS.callT (ak_count l (c := 3) (by decide) S hS) dL_hangs_1183 mi_X6_count im_X6_count sel_X6_count ml_L_23 (by decide) rfl rfl (rmOk_D (by decide) (by decide)) (Nat.le_of_ble_eq_true rfl) rfl ?_
      refine VS.val (y := nI fq) (hfq) ?_
      refine VS.bipush (6) dL_hangs_1186 rfl ?_
      refine VS.callT (ak_player l 6 hq3 S hS) dL_hangs_1188 mi_X6_player im_X6_player sel_X6_player ml_L_95 (by decide) rfl rfl (rmOk_D (by decide) (by decide)) (Nat.le_of_ble_eq_true rfl) rfl ?_
      refine VS.val (y := nI (di fq)) (n27 fq hq3) ?_
      refine VS.if_le 1293 dL_hangs_1191 (by decide) (fun hh => absurd hh (nI_nle hdf (Nat.lt_of_le_of_lt (hdib fq hq3) (by decide)))) (fun _ => ?_)
      exact k1194
  refine VS.joinB 1222 [] (fun k1222 => ?_) ?_
  · rcases hfin with ⟨hf, hf60⟩ | ⟨fq, hq3, hfq, hdf, hf6, hf260⟩
    · refine VS.aload_n dL_hangs_1194 rfl ?_
      refine VS.iconst (3) dL_hangs_1195 rfl ?_
      refine VS.callT (ak_count l (c := 3) (by decide) S hS) dL_hangs_1196 mi_X6_count im_X6_count sel_X6_count ml_L_23 (by decide) rfl rfl (rmOk_D (by decide) (by decide)) (Nat.le_of_ble_eq_true rfl) rfl ?_
      refine VS.val (y := M 1 30) (rfl) ?_
      refine VS.bipush (-6) dL_hangs_1199 rfl ?_
      refine VS.icmp_ne 1214 dL_hangs_1201 (by decide) (fun hh => absurd (hf) hh) (fun _ => ?_)
      refine VS.iload dL_hangs_1204 rfl ?_
      refine VS.bipush (60) dL_hangs_1206 rfl ?_
      refine VS.icmp_gt 1293 dL_hangs_1208 (by decide) (fun hh => absurd hh (ngt_n (b := 60) hf60 (by decide))) (fun _ => ?_)
      refine VS.goto 1222 dL_hangs_1211 (by decide) ?_
      exact k1222
    · refine VS.aload_n dL_hangs_1194 rfl ?_
      refine VS.iconst (3) dL_hangs_1195 rfl ?_
      refine VS.callT (ak_count l (c := 3) (by decide) S hS) dL_hangs_1196 mi_X6_count im_X6_count sel_X6_count ml_L_23 (by decide) rfl rfl (rmOk_D (by decide) (by decide)) (Nat.le_of_ble_eq_true rfl) rfl ?_
      refine VS.val (y := M 1 30) (rfl) ?_
      refine VS.bipush (-6) dL_hangs_1199 rfl ?_
      refine VS.icmp_ne 1214 dL_hangs_1201 (by decide) (fun _ => ?_) (fun hh => absurd hh (by rw [hfq]; exact nI_m6 (by omega)))
      refine VS.iload dL_hangs_1214 rfl ?_
      refine VS.sipush (260) dL_hangs_1216 rfl ?_
      refine VS.icmp_gt 1293 dL_hangs_1219 (by decide) (fun hh => absurd hh (ngt_n (b := 260) hf260 (by decide))) (fun _ => ?_)
      exact k1222
  refine VS.joinB 1269 [] (fun k1269 => ?_) ?_
  · by_cases hg0 : gm = 0
    · have hb0 : (if 0 < M 1 6 then rBest (M 1) 0 else -5) = -5 := if_neg (n0 hg0)
      refine VS.iload_n dL_hangs_1222 rfl ?_
      refine VS.if_ne 1239 dL_hangs_1223 (by decide) (fun hh => absurd (hg0) hh) (fun _ => ?_)
      refine VS.aload_n dL_hangs_1226 rfl ?_
      refine VS.iconst (0) dL_hangs_1227 rfl ?_
      refine VS.callT (ak_bestShow l (Or.inl rfl) S hS) dL_hangs_1228 mi_X6_bestShow im_X6_bestShow sel_X6_bestShow ml_L_104 (by decide) rfl rfl (rmOk_D (by decide) (by decide)) (Nat.le_of_ble_eq_true rfl) rfl ?_
      refine VS.val (y := -5) (hb0) ?_
      refine VS.bipush (-5) dL_hangs_1231 rfl ?_
      refine VS.icmp_ne 1293 dL_hangs_1233 (by decide) (fun hh => absurd (rfl) hh) (fun _ => ?_)
      refine VS.goto 1269 dL_hangs_1236 (by decide) ?_
      exact k1269
    · have hb1 : (if 0 < M 1 6 then rBest (M 1) 0 else -5) = rBest (M 1) 0 := if_pos (n1 hg0)
      by_cases h8 : pcN (rK (M 1)) = 28
      · refine VS.iload_n dL_hangs_1222 rfl ?_
        refine VS.if_ne 1239 dL_hangs_1223 (by decide) (fun _ => ?_) (fun hh => absurd hh (hg0))
        refine VS.aload_n dL_hangs_1239 rfl ?_
        refine VS.iconst (0) dL_hangs_1240 rfl ?_
        refine VS.callT (ak_bestShow l (Or.inl rfl) S hS) dL_hangs_1241 mi_X6_bestShow im_X6_bestShow sel_X6_bestShow ml_L_104 (by decide) rfl rfl (rmOk_D (by decide) (by decide)) (Nat.le_of_ble_eq_true rfl) rfl ?_
        refine VS.val (y := rBest (M 1) 0) (hb1) ?_
        refine VS.bipush (-6) dL_hangs_1244 rfl ?_
        refine VS.icmp_ne 1253 dL_hangs_1246 (by decide) (fun hh => absurd ((best_28 hx.1 (n1 hg0)).mpr h8) hh) (fun _ => ?_)
        refine VS.iconst (1) dL_hangs_1249 rfl ?_
        refine VS.goto 1254 dL_hangs_1250 (by decide) ?_
        refine VS.iload dL_hangs_1254 rfl ?_
        refine VS.bipush (28) dL_hangs_1256 rfl ?_
        refine VS.icmp_ne 1265 dL_hangs_1258 (by decide) (fun hh => absurd (congrArg nI h8) hh) (fun _ => ?_)
        refine VS.iconst (1) dL_hangs_1261 rfl ?_
        refine VS.goto 1266 dL_hangs_1262 (by decide) ?_
        refine VS.icmp_ne 1293 dL_hangs_1266 (by decide) (fun hh => absurd (rfl) hh) (fun _ => ?_)
        exact k1269
      · refine VS.iload_n dL_hangs_1222 rfl ?_
        refine VS.if_ne 1239 dL_hangs_1223 (by decide) (fun _ => ?_) (fun hh => absurd hh (hg0))
        refine VS.aload_n dL_hangs_1239 rfl ?_
        refine VS.iconst (0) dL_hangs_1240 rfl ?_
        refine VS.callT (ak_bestShow l (Or.inl rfl) S hS) dL_hangs_1241 mi_X6_bestShow im_X6_bestShow sel_X6_bestShow ml_L_104 (by decide) rfl rfl (rmOk_D (by decide) (by decide)) (Nat.le_of_ble_eq_true rfl) rfl ?_
        refine VS.val (y := rBest (M 1) 0) (hb1) ?_
        refine VS.bipush (-6) dL_hangs_1244 rfl ?_
        refine VS.icmp_ne 1253 dL_hangs_1246 (by decide) (fun _ => ?_) (fun hh => absurd hh (fun z => h8 ((best_28 hx.1 (n1 hg0)).mp z)))
        refine VS.iconst (0) dL_hangs_1253 rfl ?_
        refine VS.iload dL_hangs_1254 rfl ?_
        refine VS.bipush (28) dL_hangs_1256 rfl ?_
        refine VS.icmp_ne 1265 dL_hangs_1258 (by decide) (fun _ => ?_) (fun hh => absurd hh (fun z => h8 ((nI_eq (b := 28) (by omega) (by decide)).mp z)))
        refine VS.iconst (0) dL_hangs_1265 rfl ?_
        refine VS.icmp_ne 1293 dL_hangs_1266 (by decide) (fun hh => absurd (rfl) hh) (fun _ => ?_)
        exact k1269
  refine VS.aload_n dL_hangs_1269 rfl ?_
  refine VS.bipush (13) dL_hangs_1270 rfl ?_
  refine VS.callT (ak_count l (c := 13) (by decide) S hS) dL_hangs_1272 mi_X6_count im_X6_count sel_X6_count ml_L_23 (by decide) rfl rfl (rmOk_D (by decide) (by decide)) (Nat.le_of_ble_eq_true rfl) rfl ?_
  refine VS.val (y := nI np) (hnp) ?_
  refine VS.if_lt 1293 dL_hangs_1275 (by decide) (fun hh => absurd hh (nI_pos (by omega))) (fun _ => ?_)
  refine VS.aload_n dL_hangs_1278 rfl ?_
  refine VS.bipush (13) dL_hangs_1279 rfl ?_
  refine VS.callT (ak_count l (c := 13) (by decide) S hS) dL_hangs_1281 mi_X6_count im_X6_count sel_X6_count ml_L_23 (by decide) rfl rfl (rmOk_D (by decide) (by decide)) (Nat.le_of_ble_eq_true rfl) rfl ?_
  refine VS.val (y := nI np) (hnp) ?_
  refine VS.bipush (7) dL_hangs_1284 rfl ?_
  refine VS.icmp_ge 1293 dL_hangs_1286 (by decide) (fun hh => absurd hh (nI_ge (b := 7) (by omega) (by decide))) (fun _ => ?_)
  refine VS.iconst (1) dL_hangs_1289 rfl ?_
  refine VS.goto 1294 dL_hangs_1290 (by decide) ?_
  exact VS.zret dL_hangs_1294 (by first | rfl | exact nb_ite) (rfl) (fun _ _ => rfl)
set_option maxRecDepth 100000 in
set_option maxHeartbeats 1500000 in
theorem ct_L_hangs (l : Launch) {S M : SS} (hS : RelK S M) (hI : InvM M) : CtS l yL_hangs cL_hangs 22 (some .boolean) (rmD 6) [.ref 0] 77 shK S (some (.int 1)) S := by
  refine CtF.of (own := RL) [some (.ref 0), none, none, none, none, none, none, none, none, none, none, none, none, none, none, none, none, none, none, none, none, none] (by decide +kernel) rfl (fun _ => Nat.le_of_ble_eq_true rfl) (fun _ => rfl) ?_
  obtain ⟨gm, hgm⟩ : ∃ z, z = M 1 6 := ⟨_, rfl⟩
  have hx := hI.1
  obtain ⟨cb, hv0, hv1, hcb⟩ := ak_canBe l hx.1
  obtain ⟨pu, li, ch, hi, di, n2, d, w, ⟨n8, n18, n21, n24, n27⟩, ⟨h7, hn, h31, h5, hw⟩, a1, a2, a3, a4, a5, a6, a7, a8⟩ := id hx.2
  obtain ⟨n, d', tr, g7, gn, g31, gdn, g1, gtr, gd, g6, -⟩ := id hx.1
  have en : n = n2 := (nI_eq (by omega) (by omega)).mp (g7.symm.trans h7)
  subst en
  have ed : d' = d := (nI_eq (by omega) (by omega)).mp (g31.symm.trans h31)
  subst ed
  have hdd : S3 di = nD (M 1) := by unfold nD; rw [h31, nI_clamp (by omega)]; exact a4
  have hdig : ∀ k, k < nD (M 1) → ∃ q, q < 8 ∧ M 1 (32 + k) = nI q := fun k hk => gd k (by omega)
  have p17 := pcN_le (M 1 17)
  have hst := stage_c hx.1
  rw [← hgm] at hst
  have hg1 : ¬ gm < 0 := by rcases hst with h | h | h <;> rw [h] <;> decide
  have hg2 : ¬ (3 : Int32) ≤ gm := by rcases hst with h | h | h <;> rw [h] <;> decide
  have h150 : ¬ nI n < 150 → gm = 2 := fun z => by
    have z' : 150 ≤ n := by
      apply Classical.byContradiction
      intro y
      exact z ((nI_ltI (b := 150) (by omega) (by decide)).mpr (by omega))
    rcases g6 with ⟨-, -, c⟩ | ⟨-, -, c⟩ | ⟨e, -⟩
    · omega
    · omega
    · exact hgm.trans e
  have hfin : (M 1 30 = -6 ∧ S3 pu ≤ 60) ∨ ∃ p, p < 3 ∧ M 1 30 = nI p ∧ 0 < di p ∧ gm = 2 ∧ S3 pu ≤ 260 := by rw [hgm]; exact a6
  have hpu : S3 pu ≤ 260 := by
    rcases a6 with ⟨-, z⟩ | ⟨p, -, -, -, -, z⟩
    · omega
    · exact z
  obtain ⟨np, hnp, hnp6⟩ : ∃ np, M 0 2 = nI np ∧ np ≤ 6 := ⟨_, hI.2.1.2.1, hI.2.1.1⟩
  have k4 := end_known hx.1
  have k5 := end_there hx.1
  have k6 := end_rev hx.1
  have k7 : clA (M 1) (lp 64) (lp 64) (lp 64) = rs (clN (M 1)) 3 := by
    unfold clA
    rw [end_claims hx.2 (p := 0) (by decide), end_claims hx.2 (p := 1) (by decide), end_claims hx.2 (p := 2) (by decide)]
    show clN (M 1) 0 + clN (M 1) 1 + clN (M 1) 2 = 0 + clN (M 1) 0 + clN (M 1) 1 + clN (M 1) 2
    omega
  have k8 : rs (unN (M 1)) 8 = 2 * (28 - pcN (rK (M 1))) := by
    rw [← k4]; exact end_unknown (s := M 1)
  refine VS.aload_n dL_hangs_0 rfl ?_
  refine VS.iconst (2) dL_hangs_1 rfl ?_
  refine VS.callT (ak_count l (c := 2) (by decide) S hS) dL_hangs_2 mi_X6_count im_X6_count sel_X6_count ml_L_23 (by decide) rfl rfl (rmOk_D (by decide) (by decide)) (Nat.le_of_ble_eq_true rfl) rfl ?_
  refine VS.val (y := gm) (hgm.symm) ?_
  refine VS.istore_n dL_hangs_5 (by decide) rfl ?_
  refine VS.aload_n dL_hangs_6 rfl ?_
  refine VS.iconst (0) dL_hangs_7 rfl ?_
  refine VS.callT (ak_count l (c := 0) (by decide) S hS) dL_hangs_8 mi_X6_count im_X6_count sel_X6_count ml_L_23 (by decide) rfl rfl (rmOk_D (by decide) (by decide)) (Nat.le_of_ble_eq_true rfl) rfl ?_
  refine VS.val (y := nI n) (h7) ?_
  refine VS.istore_n dL_hangs_11 (by decide) rfl ?_
  refine VS.nf [some (.ref 0), some (.int gm), some (.int (nI n)), none, none, none, none, none, none, none, none, none, none, none, none, none, none, none, none, none, none, none] rfl ?_
  refine VS.iload_n dL_hangs_12 rfl ?_
  refine VS.if_lt 59 dL_hangs_13 (by decide) (fun hh => absurd hh (hg1)) (fun _ => ?_)
  refine VS.iload_n dL_hangs_16 rfl ?_
  refine VS.iconst (3) dL_hangs_17 rfl ?_
  refine VS.icmp_ge 59 dL_hangs_18 (by decide) (fun hh => absurd hh (hg2)) (fun _ => ?_)
  refine VS.iload_n dL_hangs_21 rfl ?_
  refine VS.if_lt 59 dL_hangs_22 (by decide) (fun hh => absurd hh (nI_pos (by omega))) (fun _ => ?_)
  refine VS.iload_n dL_hangs_25 rfl ?_
  refine VS.sipush (150) dL_hangs_26 rfl ?_
  refine VS.icmp_gt 59 dL_hangs_29 (by decide) (fun hh => absurd hh (ngt_n (b := 150) hn (by decide))) (fun _ => ?_)
  refine VS.aload_n dL_hangs_32 rfl ?_
  refine VS.iconst (1) dL_hangs_33 rfl ?_
  refine VS.callT (ak_count l (c := 1) (by decide) S hS) dL_hangs_34 mi_X6_count im_X6_count sel_X6_count ml_L_23 (by decide) rfl rfl (rmOk_D (by decide) (by decide)) (Nat.le_of_ble_eq_true rfl) rfl ?_
  refine VS.val (y := nI n - nI n / 3 * 3) (congrArg rem3 h7) ?_
  refine VS.iload_n dL_hangs_37 rfl ?_
  refine VS.iconst (3) dL_hangs_38 rfl ?_
  refine VS.irem dL_hangs_39 (by decide) ?_
  refine VS.icmp_ne 59 dL_hangs_40 (by decide) (fun hh => absurd (rfl) hh) (fun _ => ?_)
  refine VS.joinB 55 [] (fun k55 => ?_) ?_
  · refine VS.iload_n dL_hangs_43 rfl ?_
    refine VS.sipush (150) dL_hangs_44 rfl ?_
    refine VS.icmp_lt 55 dL_hangs_47 (by decide) (fun h_47 => ?_) (fun h_47 => ?_)
    · exact k55
    · refine VS.iload_n dL_hangs_50 rfl ?_
      refine VS.iconst (2) dL_hangs_51 rfl ?_
      refine VS.icmp_ne 59 dL_hangs_52 (by decide) (fun hh => absurd (h150 h_47) hh) (fun _ => ?_)
      exact k55
  refine VS.iconst (1) dL_hangs_55 rfl ?_
  refine VS.goto 60 dL_hangs_56 (by decide) ?_
  refine VS.istore_n dL_hangs_60 (by decide) rfl ?_
  refine VS.iconst (0) dL_hangs_61 rfl ?_
  refine VS.istore dL_hangs_62 (by decide) rfl ?_
  refine VS.iconst (0) dL_hangs_64 rfl ?_
  refine VS.istore dL_hangs_65 (by decide) rfl ?_
  refine VS.iconst (0) dL_hangs_67 rfl ?_
  refine VS.istore dL_hangs_68 (by decide) rfl ?_
  refine VS.iconst (0) dL_hangs_70 rfl ?_
  refine VS.istore dL_hangs_71 (by decide) rfl ?_
  refine VS.iconst (0) dL_hangs_73 rfl ?_
  refine VS.istore dL_hangs_74 (by decide) rfl ?_
  refine VS.iconst (0) dL_hangs_76 rfl ?_
  refine VS.istore dL_hangs_77 (by decide) rfl ?_
  refine VS.iconst (0) dL_hangs_79 rfl ?_
  refine VS.istore dL_hangs_80 (by decide) rfl ?_
  refine VS.iconst (0) dL_hangs_82 rfl ?_
  refine VS.istore dL_hangs_83 (by decide) rfl ?_
  refine VS.nf [some (.ref 0), some (.int gm), some (.int (nI n)), some (.int 1), some (.int (nI (sm (bt (rK (M 1))) (lp (8 * (0)))))), some (.int (nI (sm (bt (rTh (M 1))) (lp (8 * (0)))))), some (.int (nI (sm (bt (M 1 17)) (lp (8 * (0)))))), some (.int (nI (clA (M 1) (lp (8 * (0))) (lp (8 * (0))) (lp (8 * (0)))))), some (.int (nI (rs (unN (M 1)) (0)))), some (.int (nI (rs (deN (M 1)) (0)))), some (.int (nI (sm (bt (M 1 0)) (lq (8 * (0)))))), some (.int (nI (0))), none, none, none, none, none, none, none, none, none, none] rfl ?_
  refine hg_out l hS hx hgm ?_
  refine VS.nf [some (.ref 0), some (.int gm), some (.int (nI n)), some (.int 1), some (.int (nI (pcN (rK (M 1))))), some (.int (nI (pcN (rTh (M 1))))), some (.int (nI (pcN (M 1 17)))), some (.int (nI (rs (clN (M 1)) 3))), some (.int (nI (2 * (28 - pcN (rK (M 1)))))), some (.int (nI (rs (deN (M 1)) 8))), some (.int (nI (sm (bt (M 1 0)) (lq 64)))), some (.int (nI 8)), none, none, none, none, none, none, none, none, none, none] (by rw [k4, k5, k6, k7, k8, show 8 * 8 = 64 from rfl]) ?_
  refine VS.iconst (0) dL_hangs_783 rfl ?_
  refine VS.istore dL_hangs_784 (by decide) rfl ?_
  refine VS.iconst (0) dL_hangs_786 rfl ?_
  refine VS.istore dL_hangs_787 (by decide) rfl ?_
  refine VS.iconst (0) dL_hangs_789 rfl ?_
  refine VS.istore dL_hangs_790 (by decide) rfl ?_
  refine VS.iconst (0) dL_hangs_792 rfl ?_
  refine VS.istore dL_hangs_793 (by decide) rfl ?_
  refine VS.iconst (0) dL_hangs_795 rfl ?_
  refine VS.istore dL_hangs_796 (by decide) rfl ?_
  refine VS.iconst (0) dL_hangs_798 rfl ?_
  refine VS.istore dL_hangs_799 (by decide) rfl ?_
  refine VS.iconst (0) dL_hangs_801 rfl ?_
  refine VS.istore dL_hangs_802 (by decide) rfl ?_
  refine VS.iconst (0) dL_hangs_804 rfl ?_
  refine VS.istore dL_hangs_805 (by decide) rfl ?_
  refine VS.nf [some (.ref 0), some (.int gm), some (.int (nI n)), some (.int 1), some (.int (nI (pcN (rK (M 1))))), some (.int (nI (pcN (rTh (M 1))))), some (.int (nI (pcN (M 1 17)))), some (.int (nI (rs (clN (M 1)) 3))), some (.int (nI (2 * (28 - pcN (rK (M 1)))))), some (.int (nI (rs (deN (M 1)) 8))), some (.int (nI (sm (bt (M 1 0)) (lq 64)))), some (.int (nI (rs pu (0)))), some (.int (nI (rs (clN (M 1)) (0)))), some (.int (nI (rs (shN (M 1)) (0)))), some (.int (nI (rs ch (0)))), some (.int (nI (rs li (0)))), some (.int (nI (rs hi (0)))), some (.int (nI (rs di (0)))), some (.int (nI (0))), none, none, none] rfl ?_
  refine hg_players l hS hx hgm n8 n18 n21 n24 n27 (by omega) a3 (by omega) ?_
  refine VS.nf [some (.ref 0), some (.int gm), some (.int (nI n)), some (.int 1), some (.int (nI (pcN (rK (M 1))))), some (.int (nI (pcN (rTh (M 1))))), some (.int (nI (pcN (M 1 17)))), some (.int (nI (rs (clN (M 1)) 3))), some (.int (nI (2 * (28 - pcN (rK (M 1)))))), some (.int (nI (rs (deN (M 1)) 8))), some (.int (nI (sm (bt (M 1 0)) (lq 64)))), some (.int (nI (S3 pu))), some (.int (nI (rs (clN (M 1)) (3)))), some (.int (nI (rs (shN (M 1)) (3)))), some (.int (nI (S3 ch))), some (.int (nI (S3 li))), some (.int (nI (S3 hi))), some (.int (nI (S3 di))), some (.int (nI (3))), none, none, none] (by rw [rs_3 pu, rs_3 ch, rs_3 li, rs_3 hi, rs_3 di]) ?_
  exact hg_end l hS hx hgm n8 n18 n21 n24 n27 hcb hv0 hv1 rfl hn hdd hdig a2 a1 (by omega) hfin (fun p hp => by have := S3_ge di hp; omega) hnp hnp6
