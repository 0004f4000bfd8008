/-! the walk of the law's hangs: the loops over places -/
def unN (s : Nat → Int32) (a : Nat) : Nat := sm (nkB s) (lr a 8)
def deN (s : Nat → Int32) (a : Nat) : Nat := if 0 < s 6 then pcN (k_at a &&& s 0) else 0
theorem ngJ_d (t : Int32) (a : Nat) : ngJ t a (a + 1) = ngJ t a a := by
  show ngJ t a a ||| _ = _
  rw [if_neg (fun z => z.1 rfl)]; exact or_z _
set_option maxRecDepth 100000 in
set_option maxHeartbeats 1500000 in
theorem hg_in (l : Launch) {S M : SS} (hS : RelK S M) (hx : GX (M 1)) {gm tu : Int32} (hgm : gm = M 1 6) {un dg : Int32} {a : Nat} (ha : a < 8) (kk : VS l (rmD 6) RL cL_hangs 22 (XF (some .boolean) 77 (some (.int 1)) (shW shK S)) 0 0 77 (shW shK S) 599 [some (.ref 0), some (.int gm), some (.int tu), some (.int 1), some (.int (nI (sm (bt (rK (M 1))) (lp (8 * a + 8))))), some (.int (nI (sm (bt (rTh (M 1))) (lp (8 * a + 8))))), some (.int (nI (sm (bt (M 1 17)) (lp (8 * a + 8))))), some (.int (nI (clA (M 1) (lp (8 * a + 8)) (lp (8 * a + 8)) (lp (8 * a + 8))))), some (.int un), some (.int dg), some (.int (nI (sm (bt (M 1 0)) (lq (8 * a + 8))))), some (.int (nI a)), some (.int (nI (sm (bt (rTh (M 1))) (lr a (8))))), some (.int (nI (sm (nkB (M 1)) (lr a (8))))), some (.int (ngJ (rTh (M 1)) a (8))), some (.int (nI (8))), none, none, none, none, none, none] []) : VS l (rmD 6) RL cL_hangs 22 (XF (some .boolean) 77 (some (.int 1)) (shW shK S)) 0 0 77 (shW shK S) 108 [some (.ref 0), some (.int gm), some (.int tu), some (.int 1), some (.int (nI (sm (bt (rK (M 1))) (lp (8 * a + 0))))), some (.int (nI (sm (bt (rTh (M 1))) (lp (8 * a + 0))))), some (.int (nI (sm (bt (M 1 17)) (lp (8 * a + 0))))), some (.int (nI (clA (M 1) (lp (8 * a + 0)) (lp (8 * a + 0)) (lp (8 * a + 0))))), some (.int un), some (.int dg), some (.int (nI (sm (bt (M 1 0)) (lq (8 * a + 0))))), some (.int (nI a)), some (.int (nI (sm (bt (rTh (M 1))) (lr a (0))))), some (.int (nI (sm (nkB (M 1)) (lr a (0))))), some (.int (ngJ (rTh (M 1)) a (0))), some (.int (nI (0))), none, none, none, none, none, none] [] := by
  refine VS.forS (i0 := 0) 8 (fun _ => S) (fun b => [some (.ref 0), some (.int gm), some (.int tu), some (.int 1), some (.int (nI (sm (bt (rK (M 1))) (lp (8 * a + b))))), some (.int (nI (sm (bt (rTh (M 1))) (lp (8 * a + b))))), some (.int (nI (sm (bt (M 1 17)) (lp (8 * a + b))))), some (.int (nI (clA (M 1) (lp (8 * a + b)) (lp (8 * a + b)) (lp (8 * a + b))))), some (.int un), some (.int dg), some (.int (nI (sm (bt (M 1 0)) (lq (8 * a + b))))), some (.int (nI a)), some (.int (nI (sm (bt (rTh (M 1))) (lr a (b))))), some (.int (nI (sm (nkB (M 1)) (lr a (b))))), some (.int (ngJ (rTh (M 1)) a (b))), some (.int (nI (b))), none, none, none, none, none, none]) (by decide) ?_ (fun b hb ih => ?_)
  · refine VS.iload dL_hangs_108 rfl ?_
    refine VS.bipush (8) dL_hangs_110 rfl ?_
    refine VS.icmp_ge 599 dL_hangs_112 (by decide) (fun _ => ?_) (fun hh => absurd (by decide) hh)
    exact kk
  · have k593 : VS l (rmD 6) RL cL_hangs 22 (XF (some .boolean) 77 (some (.int 1)) (shW shK S)) 0 0 77 (shW shK S) 593 [some (.ref 0), some (.int gm), some (.int tu), some (.int 1), some (.int (nI (sm (bt (rK (M 1))) (lp (8 * a + b + 1))))), some (.int (nI (sm (bt (rTh (M 1))) (lp (8 * a + b + 1))))), some (.int (nI (sm (bt (M 1 17)) (lp (8 * a + b + 1))))), some (.int (nI (clA (M 1) (lp (8 * a + b + 1)) (lp (8 * a + b + 1)) (lp (8 * a + b + 1))))), some (.int un), some (.int dg), some (.int (nI (sm (bt (M 1 0)) (lq (8 * a + b + 1))))), some (.int (nI a)), some (.int (nI (sm (bt (rTh (M 1))) (lr a (b + 1))))), some (.int (nI (sm (nkB (M 1)) (lr a (b + 1))))), some (.int (ngJ (rTh (M 1)) a (b + 1))), some (.int (nI b)), none, none, none, none, none, none] [] := by
      refine VS.iinc (nI (b + 1)) dL_hangs_593 rfl (by decide) (nI_1 b) rfl ?_
      refine VS.goto 108 dL_hangs_596 (by decide) ?_
      exact ih
    refine VS.iload dL_hangs_108 rfl ?_
    refine VS.bipush (8) dL_hangs_110 rfl ?_
    refine VS.icmp_ge 599 dL_hangs_112 (by decide) (fun hh => absurd hh (nge8 hb)) (fun _ => ?_)
    refine VS.iload_n dL_hangs_115 rfl ?_
    refine VS.if_eq 599 dL_hangs_116 (by decide) (fun hh => absurd hh (by decide)) (fun _ => ?_)
    refine VS.iload dL_hangs_119 rfl ?_
    refine VS.iload dL_hangs_121 rfl ?_
    refine VS.icmp_eq 593 dL_hangs_123 (by decide) (fun h => ?_) (fun h => ?_)
    · have e : a = b := (nI_eq (by omega) (by omega)).mp h
      subst e
      refine VS.nf _ ?_ k593
      rw [lp_d ha, lq_d ha, lr_d, ngJ_d]
    · exact hg_pair l hS hx hgm ha hb (fun z => h (by rw [z])) k593
set_option maxRecDepth 100000 in
set_option maxHeartbeats 1500000 in
theorem hg_row (l : Launch) {S M : SS} (hS : RelK S M) (hx : GX (M 1)) {gm tu : Int32} (hgm : gm = M 1 6) {a : Nat} (ha : a < 8) (kk : VS l (rmD 6) RL cL_hangs 22 (XF (some .boolean) 77 (some (.int 1)) (shW shK S)) 0 0 77 (shW shK S) 85 [some (.ref 0), some (.int gm), some (.int tu), some (.int 1), some (.int (nI (sm (bt (rK (M 1))) (lp (8 * (a + 1)))))), some (.int (nI (sm (bt (rTh (M 1))) (lp (8 * (a + 1)))))), some (.int (nI (sm (bt (M 1 17)) (lp (8 * (a + 1)))))), some (.int (nI (clA (M 1) (lp (8 * (a + 1))) (lp (8 * (a + 1))) (lp (8 * (a + 1)))))), some (.int (nI (rs (unN (M 1)) (a + 1)))), some (.int (nI (rs (deN (M 1)) (a + 1)))), some (.int (nI (sm (bt (M 1 0)) (lq (8 * (a + 1)))))), some (.int (nI (a + 1))), none, none, none, none, none, none, none, none, none, none] []) : VS l (rmD 6) RL cL_hangs 22 (XF (some .boolean) 77 (some (.int 1)) (shW shK S)) 0 0 77 (shW shK S) 599 [some (.ref 0), some (.int gm), some (.int tu), some (.int 1), some (.int (nI (sm (bt (rK (M 1))) (lp (8 * a + 8))))), some (.int (nI (sm (bt (rTh (M 1))) (lp (8 * a + 8))))), some (.int (nI (sm (bt (M 1 17)) (lp (8 * a + 8))))), some (.int (nI (clA (M 1) (lp (8 * a + 8)) (lp (8 * a + 8)) (lp (8 * a + 8))))), some (.int (nI (rs (unN (M 1)) (a)))), some (.int (nI (rs (deN (M 1)) (a)))), some (.int (nI (sm (bt (M 1 0)) (lq (8 * a + 8))))), some (.int (nI a)), some (.int (nI (sm (bt (rTh (M 1))) (lr a (8))))), some (.int (nI (sm (nkB (M 1)) (lr a (8))))), some (.int (ngJ (rTh (M 1)) a (8))), some (.int (nI (8))), none, none, none, none, none, none] [] := by
  obtain ⟨dv, hdv⟩ : ∃ z, z = rPlace (M 1) a (tolN (M 1) a (nD (M 1))) 0 := ⟨_, rfl⟩
  obtain ⟨tl, htl⟩ : ∃ z, z = tolN (M 1) a (nD (M 1)) := ⟨_, rfl⟩
  have ed : dv = if 0 < M 1 6 then pcI (k_at a &&& M 1 0) else -6 := hdv
  have hc := told_c (s := M 1) a (nD (M 1))
  rw [← htl] at hc
  have hst := stage_n hx.1
  rw [← hgm] at hst
  have n0 : gm = 0 → ¬ 0 < M 1 6 := fun z y => by rw [← hgm, z] at y; exact absurd y (by decide)
  have n1 : ¬ gm = 0 → 0 < M 1 6 := fun z => by rw [← hgm]; exact hst.mp z
  have hd0 : gm = 0 → dv = -6 := fun z => by rw [ed, if_neg (n0 z)]
  have hk0 : gm = 0 → nI (sm (bt (rK (M 1))) (lp (8 * a + 8))) = 0 := fun z => by rw [sm_zero (n0 z)]; rfl
  have ht0 : gm = 0 → tl = -6 := fun z => by rw [htl]; exact told_0 hx.1 (n0 z) a
  have b1 := pcN_le (k_at a &&& M 1 0)
  have b2 := deg_lo (s := M 1) ha
  have b3 := deg_hi hx.1 ha
  have b4 := pcN_le (k_at a &&& (rK (M 1) ^^^ -1))
  rw [← nk_lr hx.1 ha] at b4
  have hd1 : ¬ gm = 0 → ¬ dv < nI (sm (bt (rTh (M 1))) (lr a 8)) := fun z => by
    rw [ed, if_pos (n1 z)]
    exact fun y => absurd ((nI_ltI (by omega) (by omega)).mp y) (by omega)
  have hd2 : ¬ gm = 0 → ¬ dv > nI (sm (bt (rTh (M 1))) (lr a 8)) + nI (sm (nkB (M 1)) (lr a 8)) := fun z => by
    rw [ed, if_pos (n1 z), nI_add]
    exact fun y => absurd ((nI_ltI (by omega) (by omega)).mp y) (by omega)
  have hdg1 : ¬ gm = 0 → nI (rs (deN (M 1)) a) + dv = nI (rs (deN (M 1)) (a + 1)) := fun z => by
    rw [ed, if_pos (n1 z)]
    show _ + nI _ = nI (rs (deN (M 1)) a + deN (M 1) a)
    rw [nI_add]; unfold deN; rw [if_pos (n1 z)]
  have hdg0 : gm = 0 → nI (rs (deN (M 1)) a) + 0 = nI (rs (deN (M 1)) (a + 1)) := fun z => by
    show _ = nI (rs (deN (M 1)) a + deN (M 1) a)
    have e : deN (M 1) a = 0 := if_neg (n0 z)
    rw [e]; exact Int32.add_zero _
  refine VS.aload_n dL_hangs_599 rfl ?_
  refine VS.iload dL_hangs_600 rfl ?_
  refine VS.iconst (0) dL_hangs_602 rfl ?_
  refine VS.callT (ak_place l 0 ha S hS) dL_hangs_603 mi_X6_place im_X6_place sel_X6_place ml_L_92 (by decide) rfl rfl (rmOk_D (by decide) (by decide)) (Nat.le_of_ble_eq_true rfl) rfl ?_
  refine VS.val (y := dv) (hdv.symm) ?_
  refine VS.istore dL_hangs_606 (by decide) rfl ?_
  refine VS.aload_n dL_hangs_608 rfl ?_
  refine VS.iload dL_hangs_609 rfl ?_
  refine VS.iconst (3) dL_hangs_611 rfl ?_
  refine VS.callT (ak_place l 3 ha S hS) dL_hangs_612 mi_X6_place im_X6_place sel_X6_place ml_L_92 (by decide) rfl rfl (rmOk_D (by decide) (by decide)) (Nat.le_of_ble_eq_true rfl) rfl ?_
  refine VS.val (y := tl) (htl.symm) ?_
  refine VS.istore dL_hangs_615 (by decide) rfl ?_
  refine VS.nf [some (.ref 0), some (.int gm), some (.int tu), some (.int 1), some (.int (nI (sm (bt (rK (M 1))) (lp (8 * a + 8))))), some (.int (nI (sm (bt (rTh (M 1))) (lp (8 * a + 8))))), some (.int (nI (sm (bt (M 1 17)) (lp (8 * a + 8))))), some (.int (nI (clA (M 1) (lp (8 * a + 8)) (lp (8 * a + 8)) (lp (8 * a + 8))))), some (.int (nI (rs (unN (M 1)) (a)))), some (.int (nI (rs (deN (M 1)) (a)))), some (.int (nI (sm (bt (M 1 0)) (lq (8 * a + 8))))), some (.int (nI a)), some (.int (nI (sm (bt (rTh (M 1))) (lr a (8))))), some (.int (nI (sm (nkB (M 1)) (lr a (8))))), some (.int (ngJ (rTh (M 1)) a (8))), some (.int dv), some (.int tl), none, none, none, none, none] rfl ?_
  refine VS.joinB 690 [] (fun k690 => ?_) ?_
  · rcases hc with h3 | h3 | ⟨k, hk, h3⟩
    · refine VS.iload_n dL_hangs_617 rfl ?_
      refine VS.if_eq 753 dL_hangs_618 (by decide) (fun hh => absurd hh (by decide)) (fun _ => ?_)
      refine VS.iload_n dL_hangs_621 rfl ?_
      refine VS.if_ne 647 dL_hangs_622 (by decide) (fun h_622 => ?_) (fun h_622 => ?_)
      · refine VS.iload dL_hangs_647 rfl ?_
        refine VS.iload dL_hangs_649 rfl ?_
        refine VS.icmp_lt 753 dL_hangs_651 (by decide) (fun hh => absurd hh (hd1 h_622)) (fun _ => ?_)
        refine VS.iload dL_hangs_654 rfl ?_
        refine VS.iload dL_hangs_656 rfl ?_
        refine VS.iload dL_hangs_658 rfl ?_
        refine VS.iadd dL_hangs_660 ?_
        refine VS.icmp_gt 753 dL_hangs_661 (by decide) (fun hh => absurd hh (hd2 h_622)) (fun _ => ?_)
        refine VS.iload dL_hangs_664 rfl ?_
        refine VS.bipush (-6) dL_hangs_666 rfl ?_
        refine VS.icmp_eq 690 dL_hangs_668 (by decide) (fun _ => ?_) (fun hh => absurd (h3) hh)
        exact k690
      · refine VS.iload dL_hangs_625 rfl ?_
        refine VS.bipush (-6) dL_hangs_627 rfl ?_
        refine VS.icmp_ne 753 dL_hangs_629 (by decide) (fun hh => absurd (hd0 h_622) hh) (fun _ => ?_)
        refine VS.iload dL_hangs_632 rfl ?_
        refine VS.if_ne 753 dL_hangs_634 (by decide) (fun hh => absurd (hk0 h_622) hh) (fun _ => ?_)
        refine VS.iload dL_hangs_637 rfl ?_
        refine VS.bipush (-6) dL_hangs_639 rfl ?_
        refine VS.icmp_ne 753 dL_hangs_641 (by decide) (fun hh => absurd (ht0 h_622) hh) (fun _ => ?_)
        refine VS.goto 690 dL_hangs_644 (by decide) ?_
        exact k690
    · refine VS.iload_n dL_hangs_617 rfl ?_
      refine VS.if_eq 753 dL_hangs_618 (by decide) (fun hh => absurd hh (by decide)) (fun _ => ?_)
      refine VS.iload_n dL_hangs_621 rfl ?_
      refine VS.if_ne 647 dL_hangs_622 (by decide) (fun h_622 => ?_) (fun h_622 => ?_)
      · refine VS.iload dL_hangs_647 rfl ?_
        refine VS.iload dL_hangs_649 rfl ?_
        refine VS.icmp_lt 753 dL_hangs_651 (by decide) (fun hh => absurd hh (hd1 h_622)) (fun _ => ?_)
        refine VS.iload dL_hangs_654 rfl ?_
        refine VS.iload dL_hangs_656 rfl ?_
        refine VS.iload dL_hangs_658 rfl ?_
        refine VS.iadd dL_hangs_660 ?_
        refine VS.icmp_gt 753 dL_hangs_661 (by decide) (fun hh => absurd hh (hd2 h_622)) (fun _ => ?_)
        refine VS.iload dL_hangs_664 rfl ?_
        refine VS.bipush (-6) dL_hangs_666 rfl ?_
        refine VS.icmp_eq 690 dL_hangs_668 (by decide) (fun hh => absurd hh (by rw [h3]; decide)) (fun _ => ?_)
        refine VS.iload dL_hangs_671 rfl ?_
        refine VS.if_lt 683 dL_hangs_673 (by decide) (fun hh => absurd hh (by rw [h3]; decide)) (fun _ => ?_)
        refine VS.iload dL_hangs_676 rfl ?_
        refine VS.bipush (8) dL_hangs_678 rfl ?_
        refine VS.icmp_lt 690 dL_hangs_680 (by decide) (fun hh => absurd hh (by rw [h3]; decide)) (fun _ => ?_)
        refine VS.iload dL_hangs_683 rfl ?_
        refine VS.bipush (99) dL_hangs_685 rfl ?_
        refine VS.icmp_ne 753 dL_hangs_687 (by decide) (fun hh => absurd (h3) hh) (fun _ => ?_)
        exact k690
      · refine VS.iload dL_hangs_625 rfl ?_
        refine VS.bipush (-6) dL_hangs_627 rfl ?_
        refine VS.icmp_ne 753 dL_hangs_629 (by decide) (fun hh => absurd (hd0 h_622) hh) (fun _ => ?_)
        refine VS.iload dL_hangs_632 rfl ?_
        refine VS.if_ne 753 dL_hangs_634 (by decide) (fun hh => absurd (hk0 h_622) hh) (fun _ => ?_)
        refine VS.iload dL_hangs_637 rfl ?_
        refine VS.bipush (-6) dL_hangs_639 rfl ?_
        refine VS.icmp_ne 753 dL_hangs_641 (by decide) (fun hh => absurd (ht0 h_622) hh) (fun _ => ?_)
        refine VS.goto 690 dL_hangs_644 (by decide) ?_
        exact k690
    · refine VS.iload_n dL_hangs_617 rfl ?_
      refine VS.if_eq 753 dL_hangs_618 (by decide) (fun hh => absurd hh (by decide)) (fun _ => ?_)
      refine VS.iload_n dL_hangs_621 rfl ?_
      refine VS.if_ne 647 dL_hangs_622 (by decide) (fun h_622 => ?_) (fun h_622 => ?_)
      · refine VS.iload dL_hangs_647 rfl ?_
        refine VS.iload dL_hangs_649 rfl ?_
        refine VS.icmp_lt 753 dL_hangs_651 (by decide) (fun hh => absurd hh (hd1 h_622)) (fun _ => ?_)
        refine VS.iload dL_hangs_654 rfl ?_
        refine VS.iload dL_hangs_656 rfl ?_
        refine VS.iload dL_hangs_658 rfl ?_
        refine VS.iadd dL_hangs_660 ?_
        refine VS.icmp_gt 753 dL_hangs_661 (by decide) (fun hh => absurd hh (hd2 h_622)) (fun _ => ?_)
        refine VS.iload dL_hangs_664 rfl ?_
        refine VS.bipush (-6) dL_hangs_666 rfl ?_
        refine VS.icmp_eq 690 dL_hangs_668 (by decide) (fun hh => absurd hh (by rw [h3]; exact nI_m6 (by omega))) (fun _ => ?_)
        refine VS.iload dL_hangs_671 rfl ?_
        refine VS.if_lt 683 dL_hangs_673 (by decide) (fun hh => absurd hh (by rw [h3]; exact nI_pos (by omega))) (fun _ => ?_)
        refine VS.iload dL_hangs_676 rfl ?_
        refine VS.bipush (8) dL_hangs_678 rfl ?_
        refine VS.icmp_lt 690 dL_hangs_680 (by decide) (fun _ => ?_) (fun hh => absurd (by rw [h3]; exact (nI_ltI (b := 8) (by omega) (by decide)).mpr hk) hh)
        exact k690
      · refine VS.iload dL_hangs_625 rfl ?_
        refine VS.bipush (-6) dL_hangs_627 rfl ?_
        refine VS.icmp_ne 753 dL_hangs_629 (by decide) (fun hh => absurd (hd0 h_622) hh) (fun _ => ?_)
        refine VS.iload dL_hangs_632 rfl ?_
        refine VS.if_ne 753 dL_hangs_634 (by decide) (fun hh => absurd (hk0 h_622) hh) (fun _ => ?_)
        refine VS.iload dL_hangs_637 rfl ?_
        refine VS.bipush (-6) dL_hangs_639 rfl ?_
        refine VS.icmp_ne 753 dL_hangs_641 (by decide) (fun hh => absurd (ht0 h_622) hh) (fun _ => ?_)
        refine VS.goto 690 dL_hangs_644 (by decide) ?_
        exact k690
  refine VS.iload dL_hangs_690 rfl ?_
  refine VS.aload_n dL_hangs_692 rfl ?_
  refine VS.iload dL_hangs_693 rfl ?_
  refine VS.iconst (1) dL_hangs_695 rfl ?_
  refine VS.callT (ak_place l 1 ha S hS) dL_hangs_696 mi_X6_place im_X6_place sel_X6_place ml_L_92 (by decide) rfl rfl (rmOk_D (by decide) (by decide)) (Nat.le_of_ble_eq_true rfl) rfl ?_
  refine VS.val (y := nI (sm (bt (rTh (M 1))) (lr a 8))) (congrArg nI (sm_lr _ ha).symm) ?_
  refine VS.icmp_ne 753 dL_hangs_699 (by decide) (fun hh => absurd (rfl) hh) (fun _ => ?_)
  refine VS.iload dL_hangs_702 rfl ?_
  refine VS.aload_n dL_hangs_704 rfl ?_
  refine VS.iload dL_hangs_705 rfl ?_
  refine VS.iconst (2) dL_hangs_707 rfl ?_
  refine VS.callT (ak_place l 2 ha S hS) dL_hangs_708 mi_X6_place im_X6_place sel_X6_place ml_L_92 (by decide) rfl rfl (rmOk_D (by decide) (by decide)) (Nat.le_of_ble_eq_true rfl) rfl ?_
  refine VS.val (y := nI (sm (nkB (M 1)) (lr a 8))) (congrArg nI (nk_lr hx.1 ha).symm) ?_
  refine VS.icmp_ne 753 dL_hangs_711 (by decide) (fun hh => absurd (rfl) hh) (fun _ => ?_)
  refine VS.iload dL_hangs_714 rfl ?_
  refine VS.aload_n dL_hangs_716 rfl ?_
  refine VS.iload dL_hangs_717 rfl ?_
  refine VS.iconst (4) dL_hangs_719 rfl ?_
  refine VS.callT (ak_place l 4 ha S hS) dL_hangs_720 mi_X6_place im_X6_place sel_X6_place ml_L_92 (by decide) rfl rfl (rmOk_D (by decide) (by decide)) (Nat.le_of_ble_eq_true rfl) rfl ?_
  refine VS.val (y := ngJ (rTh (M 1)) a 8) (rfl) ?_
  refine VS.icmp_ne 753 dL_hangs_723 (by decide) (fun hh => absurd (rfl) hh) (fun _ => ?_)
  refine VS.joinB 749 [] (fun k749 => ?_) ?_
  · refine VS.iload dL_hangs_726 rfl ?_
    refine VS.bipush (-6) dL_hangs_728 rfl ?_
    refine VS.icmp_ne 749 dL_hangs_730 (by decide) (fun h_730 => ?_) (fun h_730 => ?_)
    · exact k749
    · refine VS.iload_n dL_hangs_733 rfl ?_
      refine VS.if_eq 749 dL_hangs_734 (by decide) (fun h_734 => ?_) (fun h_734 => ?_)
      · exact k749
      · refine VS.iload dL_hangs_737 rfl ?_
        refine VS.aload_n dL_hangs_739 rfl ?_
        refine VS.iload dL_hangs_740 rfl ?_
        refine VS.iconst (3) dL_hangs_742 rfl ?_
        refine VS.callT (ak_place l 3 ha S hS) dL_hangs_743 mi_X6_place im_X6_place sel_X6_place ml_L_92 (by decide) rfl rfl (rmOk_D (by decide) (by decide)) (Nat.le_of_ble_eq_true rfl) rfl ?_
        refine VS.val (y := tl) (htl.symm) ?_
        refine VS.icmp_ne 753 dL_hangs_746 (by decide) (fun hh => absurd (rfl) hh) (fun _ => ?_)
        exact k749
  refine VS.iconst (1) dL_hangs_749 rfl ?_
  refine VS.goto 754 dL_hangs_750 (by decide) ?_
  refine VS.istore_n dL_hangs_754 (by decide) rfl ?_
  refine VS.nf [some (.ref 0), some (.int gm), some (.int tu), some (.int 1), some (.int (nI (sm (bt (rK (M 1))) (lp (8 * a + 8))))), some (.int (nI (sm (bt (rTh (M 1))) (lp (8 * a + 8))))), some (.int (nI (sm (bt (M 1 17)) (lp (8 * a + 8))))), some (.int (nI (clA (M 1) (lp (8 * a + 8)) (lp (8 * a + 8)) (lp (8 * a + 8))))), some (.int (nI (rs (unN (M 1)) (a)))), some (.int (nI (rs (deN (M 1)) (a)))), some (.int (nI (sm (bt (M 1 0)) (lq (8 * a + 8))))), some (.int (nI a)), some (.int (nI (sm (bt (rTh (M 1))) (lr a (8))))), some (.int (nI (sm (nkB (M 1)) (lr a (8))))), some (.int (ngJ (rTh (M 1)) a (8))), some (.int dv), some (.int tl), none, none, none, none, none] rfl ?_
  refine VS.joinB 768 [.int (nI (rs (deN (M 1)) (a + 1)))] (fun k768 => ?_) ?_
  · refine VS.iload dL_hangs_755 rfl ?_
    refine VS.iload_n dL_hangs_757 rfl ?_
    refine VS.if_ne 765 dL_hangs_758 (by decide) (fun h_758 => ?_) (fun h_758 => ?_)
    · refine VS.iload dL_hangs_765 rfl ?_
      refine VS.iadd dL_hangs_767 ?_
      refine VS.val (y := nI (rs (deN (M 1)) (a + 1))) (hdg1 h_758) ?_
      exact k768
    · refine VS.iconst (0) dL_hangs_761 rfl ?_
      refine VS.goto 767 dL_hangs_762 (by decide) ?_
      refine VS.iadd dL_hangs_767 ?_
      refine VS.val (y := nI (rs (deN (M 1)) (a + 1))) (hdg0 h_758) ?_
      exact k768
  refine VS.istore dL_hangs_768 (by decide) rfl ?_
  refine VS.iload dL_hangs_770 rfl ?_
  refine VS.iload dL_hangs_772 rfl ?_
  refine VS.iadd dL_hangs_774 ?_
  refine VS.val (y := nI (rs (unN (M 1)) (a + 1))) (nI_add _ _) ?_
  refine VS.istore dL_hangs_775 (by decide) rfl ?_
  refine VS.iinc (nI (a + 1)) dL_hangs_777 rfl (by decide) (nI_1 a) rfl ?_
  refine VS.goto 85 dL_hangs_780 (by decide) ?_
  refine VS.forget 12 ?_
  refine VS.forget 13 ?_
  refine VS.forget 14 ?_
  refine VS.forget 15 ?_
  refine VS.forget 16 ?_
  exact kk
set_option maxRecDepth 100000 in
set_option maxHeartbeats 1500000 in
theorem hg_out (l : Launch) {S M : SS} (hS : RelK S M) (hx : GX (M 1)) {gm tu : Int32} (hgm : gm = M 1 6) (kk : VS l (rmD 6) RL cL_hangs 22 (XF (some .boolean) 77 (some (.int 1)) (shW shK S)) 0 0 77 (shW shK S) 783 [some (.ref 0), some (.int gm), some (.int tu), some (.int 1), some (.int (nI (sm (bt (rK (M 1))) (lp (8 * (8)))))), some (.int (nI (sm (bt (rTh (M 1))) (lp (8 * (8)))))), some (.int (nI (sm (bt (M 1 17)) (lp (8 * (8)))))), some (.int (nI (clA (M 1) (lp (8 * (8))) (lp (8 * (8))) (lp (8 * (8)))))), some (.int (nI (rs (unN (M 1)) (8)))), some (.int (nI (rs (deN (M 1)) (8)))), some (.int (nI (sm (bt (M 1 0)) (lq (8 * (8)))))), some (.int (nI (8))), none, none, none, none, none, none, none, none, none, none] []) : VS l (rmD 6) RL cL_hangs 22 (XF (some .boolean) 77 (some (.int 1)) (shW shK S)) 0 0 77 (shW shK S) 85 [some (.ref 0), some (.int gm), some (.int tu), some (.int 1), some (.int (nI (sm (bt (rK (M 1))) (lp (8 * (0)))))), some (.int (nI (sm (bt (rTh (M 1))) (lp (8 * (0)))))), some (.int (nI (sm (bt (M 1 17)) (lp (8 * (0)))))), some (.int (nI (clA (M 1) (lp (8 * (0))) (lp (8 * (0))) (lp (8 * (0)))))), some (.int (nI (rs (unN (M 1)) (0)))), some (.int (nI (rs (deN (M 1)) (0)))), some (.int (nI (sm (bt (M 1 0)) (lq (8 * (0)))))), some (.int (nI (0))), none, none, none, none, none, none, none, none, none, none] [] := by
  refine VS.forS (i0 := 0) 8 (fun _ => S) (fun a => [some (.ref 0), some (.int gm), some (.int tu), some (.int 1), some (.int (nI (sm (bt (rK (M 1))) (lp (8 * (a)))))), some (.int (nI (sm (bt (rTh (M 1))) (lp (8 * (a)))))), some (.int (nI (sm (bt (M 1 17)) (lp (8 * (a)))))), some (.int (nI (clA (M 1) (lp (8 * (a))) (lp (8 * (a))) (lp (8 * (a)))))), some (.int (nI (rs (unN (M 1)) (a)))), some (.int (nI (rs (deN (M 1)) (a)))), some (.int (nI (sm (bt (M 1 0)) (lq (8 * (a)))))), some (.int (nI (a))), none, none, none, none, none, none, none, none, none, none]) (by decide) ?_ (fun a ha ih => ?_)
  · refine VS.iload dL_hangs_85 rfl ?_
    refine VS.bipush (8) dL_hangs_87 rfl ?_
    refine VS.icmp_ge 783 dL_hangs_89 (by decide) (fun _ => ?_) (fun hh => absurd (by decide) hh)
    exact kk
  · refine VS.iload dL_hangs_85 rfl ?_
    refine VS.bipush (8) dL_hangs_87 rfl ?_
    refine VS.icmp_ge 783 dL_hangs_89 (by decide) (fun hh => absurd hh (nge8 ha)) (fun _ => ?_)
    refine VS.iload_n dL_hangs_92 rfl ?_
    refine VS.if_eq 783 dL_hangs_93 (by decide) (fun hh => absurd hh (by decide)) (fun _ => ?_)
    refine VS.iconst (0) dL_hangs_96 rfl ?_
    refine VS.istore dL_hangs_97 (by decide) rfl ?_
    refine VS.iconst (0) dL_hangs_99 rfl ?_
    refine VS.istore dL_hangs_100 (by decide) rfl ?_
    refine VS.iconst (0) dL_hangs_102 rfl ?_
    refine VS.istore dL_hangs_103 (by decide) rfl ?_
    refine VS.iconst (0) dL_hangs_105 rfl ?_
    refine VS.istore dL_hangs_106 (by decide) rfl ?_
    exact hg_in l hS hx hgm ha (hg_row l hS hx hgm ha ih)
