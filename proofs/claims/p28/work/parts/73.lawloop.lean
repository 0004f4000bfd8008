/-! the law's own walk -/
def cK (N : Nat) (xs : Nat → Int32) (k : Nat) : Int32 := if k = 14 then 2 else cellV N xs k
theorem cK_n (N : Nat) (xs : Nat → Int32) (k : Nat) : ∃ m, m < 2 ^ 31 ∧ cK N xs k = nI m := by
  unfold cK; split
  · exact ⟨2, by decide, rfl⟩
  · exact and_max _
theorem nge44 {i : Nat} (h : i < 44) : ¬ (44 : Int32) ≤ nI i := nI_ge (b := 44) h (by decide)
theorem nge5 {i : Nat} (h : i < 5) : ¬ (5 : Int32) ≤ nI i := nI_ge (b := 5) h (by decide)
set_option maxRecDepth 100000 in
set_option maxHeartbeats 2000000 in
theorem lw_round (l : Launch) {N : Nat} {xs : Nat → Int32} (hN : N ≤ 260) {cl sl : Nat} (hcl : cl ≤ 600000) (hsl : sl ≤ 7302250) {S M : SS} (hI : InvM M) (ho : RelK S M) (hq : RelK (gm S 77) M) {k : Nat} (hk : k < 44) (kk : ∀ S' M' : SS, InvM M' → RelK S' M' → RelK (gm S' 77) M' → VS l room_1 RL cL_law 8 (XL N xs) cl sl 154 (shW sh2 S') 67 [some (.ref 200), some (.ref 0), some (.ref 77), some (.int 1), some (.int (nI (k + 1))), none, none, none] []) : VS l room_1 RL cL_law 8 (XL N xs) cl sl 154 (shW sh2 S) 67 [some (.ref 200), some (.ref 0), some (.ref 77), some (.int 1), some (.int (nI k)), none, none, none] [] := by
  obtain ⟨m, hm, em⟩ := cK_n N xs k
  obtain ⟨v, M2, hI2, hop⟩ := ct_acts l hI hm
  refine VS.iload dL_law_67 rfl ?_
  refine VS.bipush (44) dL_law_69 rfl ?_
  refine VS.icmp_ge 180 dL_law_71 (by decide) (fun hh => absurd hh (nge44 hk)) (fun _ => ?_)
  refine VS.iload_n dL_law_74 rfl ?_
  refine VS.if_eq 180 dL_law_75 (by decide) (fun hh => absurd hh (by decide)) (fun _ => ?_)
  refine VS.joinB 95 [.int (nI m)] (fun k95 => ?_) ?_
  · by_cases h14 : k = 14
    · refine VS.iload dL_law_78 rfl ?_
      refine VS.bipush (14) dL_law_80 rfl ?_
      refine VS.icmp_ne 89 dL_law_82 (by decide) (fun hh => absurd (congrArg nI h14) hh) (fun _ => ?_)
      refine VS.iconst (2) dL_law_85 rfl ?_
      refine VS.val (y := nI m) (by rw [← em]; exact (if_pos h14).symm) ?_
      refine VS.goto 95 dL_law_86 (by decide) ?_
      exact k95
    · refine VS.iload dL_law_78 rfl ?_
      refine VS.bipush (14) dL_law_80 rfl ?_
      refine VS.icmp_ne 89 dL_law_82 (by decide) (fun _ => ?_) (fun hh => absurd hh (fun z => h14 ((nI_eq (b := 14) (by omega) (by decide)).mp z)))
      refine VS.aload_n dL_law_89 rfl ?_
      refine VS.iload dL_law_90 rfl ?_
      refine VS.callX XL.sees (ct_L_cell l hN (by omega)) dL_law_92 mi_L_cell st_L_cell ml_L_116 (RmOk.law (by decide) (by decide) hcl hsl) (Nat.le_of_ble_eq_true rfl) rfl ?_
      refine VS.val (y := nI m) (by rw [← em]; exact (if_neg h14).symm) ?_
      exact k95
  obtain ⟨S2, hC1, hR⟩ := hop S ho
  refine VS.istore dL_law_95 (by decide) rfl ?_
  refine VS.aload_n dL_law_97 rfl ?_
  refine VS.iload dL_law_98 rfl ?_
  refine VS.callRS (fun i => i) shi_o (hC1) dL_law_100 mi_L_acts st_L_acts ml_L_120 (RmOk.law (by decide) (by decide) hcl hsl) (Nat.le_of_ble_eq_true rfl) rfl ?_
  refine VS.stt (mg_o2 S2 S) ?_
  refine VS.istore dL_law_103 (by decide) rfl ?_
  refine VS.nf [some (.ref 200), some (.ref 0), some (.ref 77), some (.int 1), some (.int (nI k)), some (.int (nI m)), some (.int v), none] rfl ?_
  have ho1 : RelK (putG S 0 77 S2) M2 := ro_o hR
  have hq1 : RelK (gm (putG S 0 77 S2) 77) M := ro_q hq
  generalize putG S 0 77 S2 = S1 at ho1 hq1 ⊢
  have k124 : ∀ S3 : SS, RelK S3 M2 → RelK (gm S3 77) M → VS l room_1 RL cL_law 8 (XL N xs) cl sl 154 (shW sh2 S3) 124 [some (.ref 200), some (.ref 0), some (.ref 77), some (.int 1), some (.int (nI k)), some (.int (nI m)), some (.int v), none] [] := by
    intro S3 ho3 hq3
    obtain ⟨S4, hC4, hR4⟩ := hop (gm S3 77) hq3
    refine VS.aload_n dL_law_124 rfl ?_
    refine VS.iload dL_law_125 rfl ?_
    refine VS.callRS (fun i => 77 + i) shi_q (hC4) dL_law_127 mi_L_acts st_L_acts ml_L_120 (RmOk.law (by decide) (by decide) hcl hsl) (Nat.le_of_ble_eq_true rfl) rfl ?_
    refine VS.stt (mg_off 77 77 S4 S3) ?_
    have ho5 : RelK (putG S3 77 77 S4) M2 := rq_o ho3
    have hq5 : RelK (gm (putG S3 77 77 S4) 77) M2 := rq_q hR4
    generalize putG S3 77 77 S4 = S5 at ho5 hq5 ⊢
    refine VS.iload dL_law_130 rfl ?_
    refine VS.icmp_ne 172 dL_law_132 (by decide) (fun hh => absurd (rfl) hh) (fun _ => ?_)
    refine VS.aload_n dL_law_135 rfl ?_
    refine VS.aload_n dL_law_136 rfl ?_
    refine VS.callRS (fun i => i) shi_2 (ct_L_same l ho5 hq5 hI2) dL_law_137 mi_L_same st_L_same ml_L_129 (RmOk.law (by decide) (by decide) hcl hsl) (Nat.le_of_ble_eq_true rfl) rfl ?_
    refine VS.stt (mg_2i S5) ?_
    refine VS.if_eq 172 dL_law_140 (by decide) (fun hh => absurd hh (by decide)) (fun _ => ?_)
    refine VS.joinB 168 [] (fun k168 => ?_) ?_
    · by_cases h5 : k % 5 = 0
      · by_cases h2 : k % 2 = 0
        · refine VS.iload dL_law_143 rfl ?_
          refine VS.iconst (5) dL_law_145 rfl ?_
          refine VS.irem dL_law_146 (by decide) ?_
          refine VS.val (y := nI (k % 5)) (rem_n (d := 5) (by omega) (by decide) (by decide)) ?_
          refine VS.if_gt 168 dL_law_147 (by decide) (fun hh => absurd hh (by rw [h5]; decide)) (fun _ => ?_)
          refine VS.iload dL_law_150 rfl ?_
          refine VS.iconst (2) dL_law_152 rfl ?_
          refine VS.irem dL_law_153 (by decide) ?_
          refine VS.val (y := nI (k % 2)) (rem_n (d := 2) (by omega) (by decide) (by decide)) ?_
          refine VS.if_ne 161 dL_law_154 (by decide) (fun hh => absurd (by rw [h2]; rfl) hh) (fun _ => ?_)
          refine VS.aload_n dL_law_157 rfl ?_
          refine VS.goto 162 dL_law_158 (by decide) ?_
          refine VS.callRS (fun i => i) shi_o (ct_L_hangs l ho5 hI2) dL_law_162 mi_L_hangs st_L_hangs ml_L_110 (RmOk.law (by decide) (by decide) hcl hsl) (Nat.le_of_ble_eq_true rfl) rfl ?_
          refine VS.stt (mg_oi S5) ?_
          refine VS.if_eq 172 dL_law_165 (by decide) (fun hh => absurd hh (by decide)) (fun _ => ?_)
          exact k168
        · refine VS.iload dL_law_143 rfl ?_
          refine VS.iconst (5) dL_law_145 rfl ?_
          refine VS.irem dL_law_146 (by decide) ?_
          refine VS.val (y := nI (k % 5)) (rem_n (d := 5) (by omega) (by decide) (by decide)) ?_
          refine VS.if_gt 168 dL_law_147 (by decide) (fun hh => absurd hh (by rw [h5]; decide)) (fun _ => ?_)
          refine VS.iload dL_law_150 rfl ?_
          refine VS.iconst (2) dL_law_152 rfl ?_
          refine VS.irem dL_law_153 (by decide) ?_
          refine VS.val (y := nI (k % 2)) (rem_n (d := 2) (by omega) (by decide) (by decide)) ?_
          refine VS.if_ne 161 dL_law_154 (by decide) (fun _ => ?_) (fun hh => absurd hh (nI_ne0 (by omega) (by omega)))
          refine VS.aload_n dL_law_161 rfl ?_
          refine VS.callRS (fun i => 77 + i) shi_q (ct_L_hangs l hq5 hI2) dL_law_162 mi_L_hangs st_L_hangs ml_L_110 (RmOk.law (by decide) (by decide) hcl hsl) (Nat.le_of_ble_eq_true rfl) rfl ?_
          refine VS.stt (mg_qi S5) ?_
          refine VS.if_eq 172 dL_law_165 (by decide) (fun hh => absurd hh (by decide)) (fun _ => ?_)
          exact k168
      · refine VS.iload dL_law_143 rfl ?_
        refine VS.iconst (5) dL_law_145 rfl ?_
        refine VS.irem dL_law_146 (by decide) ?_
        refine VS.val (y := nI (k % 5)) (rem_n (d := 5) (by omega) (by decide) (by decide)) ?_
        refine VS.if_gt 168 dL_law_147 (by decide) (fun _ => ?_) (fun hh => absurd ((nI_ltI (a := 0) (by decide) (by omega)).mpr (by omega)) hh)
        exact k168
    refine VS.iconst (1) dL_law_168 rfl ?_
    refine VS.goto 173 dL_law_169 (by decide) ?_
    refine VS.istore_n dL_law_173 (by decide) rfl ?_
    refine VS.iinc (nI (k + 1)) dL_law_174 rfl (by decide) (nI_1 k) rfl ?_
    refine VS.goto 67 dL_law_177 (by decide) ?_
    refine VS.forget 5 ?_
    refine VS.forget 6 ?_
    exact kk S5 M2 hI2 ho5 hq5
  by_cases h3 : k % 3 = 0
  · obtain ⟨S6, hC6, hR6⟩ := ct_refuses l (y := m % 100000) (Nat.mod_lt _ (by decide)) hI.1.1 hq1
    refine VS.iload dL_law_105 rfl ?_
    refine VS.iconst (3) dL_law_107 rfl ?_
    refine VS.irem dL_law_108 (by decide) ?_
    refine VS.val (y := nI (k % 3)) (rem_n (d := 3) (by omega) (by decide) (by decide)) ?_
    refine VS.if_gt 124 dL_law_109 (by decide) (fun hh => absurd hh (by rw [h3]; decide)) (fun _ => ?_)
    refine VS.aload_n dL_law_112 rfl ?_
    refine VS.iload dL_law_113 rfl ?_
    refine VS.ldc dL_law_115 kc_L_124 ?_
    refine VS.irem dL_law_117 (by decide) ?_
    refine VS.val (y := nI (m % 100000)) (rem_n (d := 100000) (by omega) (by decide) (by decide)) ?_
    refine VS.callRS (fun i => 77 + i) shi_q (hC6) dL_law_118 mi_L_refuses st_L_refuses ml_L_125 (RmOk.law (by decide) (by decide) hcl hsl) (Nat.le_of_ble_eq_true rfl) rfl ?_
    refine VS.stt (mg_off 77 77 S6 S1) ?_
    refine VS.if_eq 172 dL_law_121 (by decide) (fun hh => absurd hh (by decide)) (fun _ => ?_)
    exact k124 _ (rq_o ho1) (rq_q hR6)
  · refine VS.iload dL_law_105 rfl ?_
    refine VS.iconst (3) dL_law_107 rfl ?_
    refine VS.irem dL_law_108 (by decide) ?_
    refine VS.val (y := nI (k % 3)) (rem_n (d := 3) (by omega) (by decide) (by decide)) ?_
    refine VS.if_gt 124 dL_law_109 (by decide) (fun _ => ?_) (fun hh => absurd ((nI_ltI (a := 0) (by decide) (by omega)).mpr (by omega)) hh)
    exact k124 _ ho1 hq1
theorem lw_loop1 (l : Launch) {N : Nat} {xs : Nat → Int32} (hN : N ≤ 260) {cl sl : Nat} (hcl : cl ≤ 600000) (hsl : sl ≤ 7302250) (kk : ∀ S' M' : SS, InvM M' → RelK S' M' → RelK (gm S' 77) M' → VS l room_1 RL cL_law 8 (XL N xs) cl sl 154 (shW sh2 S') 180 [some (.ref 200), some (.ref 0), some (.ref 77), some (.int 1), some (.int (nI 44)), none, none, none] []) : ∀ (n k : Nat) (S M : SS), k + n = 44 → InvM M → RelK S M → RelK (gm S 77) M → VS l room_1 RL cL_law 8 (XL N xs) cl sl 154 (shW sh2 S) 67 [some (.ref 200), some (.ref 0), some (.ref 77), some (.int 1), some (.int (nI k)), none, none, none] []
  | 0, k, S, M, hk, hI, ho, hq => by
    have e : k = 44 := by omega
    subst e
    refine VS.iload dL_law_67 rfl ?_
    refine VS.bipush (44) dL_law_69 rfl ?_
    refine VS.icmp_ge 180 dL_law_71 (by decide) (fun _ => ?_) (fun hh => absurd (by decide) hh)
    exact kk S M hI ho hq
  | n + 1, k, S, M, hk, hI, ho, hq => lw_round l hN hcl hsl hI ho hq (by omega) (fun S' M' hI' ho' hq' => lw_loop1 l hN hcl hsl kk n (k + 1) S' M' (by omega) hI' ho' hq')
