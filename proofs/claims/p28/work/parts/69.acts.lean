/-! the law's acts -/
section
variable {l : Launch} {R : Room} {own : String} {cc : ByteArray} {nL : Nat} {X : XT} {cl sl n : Nat} {g : Nat → va_E} {pc : Nat} {L : List (Option Value)} {st : List Value}
theorem VS.ladd {x y : Int64} (d : decode cc pc = .ok (.ladd, 1)) (kk : VS l R own cc nL X cl sl n g (pc + 1) L (.long (x + y) :: st)) : VS l R own cc nL X cl sl n g pc L (.long y :: .long x :: st) := fun p e s m args below meth c D cy A ad Q H locs ls C0 x0 i a hP hS hl => lv_ladd C0.1 C0.2.1 d (kk p e s m args below meth c D cy A ad Q H locs ls C0 x0 i a hP hS hl)
end
def acB (y : Nat) : Int32 := nI ((y % 8 + 1 + y / 8 % 7) % 8)
def zV (y j : Nat) : Int32 := nI (y / 4) >>> (5 * nI j &&& 31)
def kV (y j : Nat) : Int32 := zV y j - zV y j / 8 * 8
theorem act_lift {l : Launch} {M M2 : SS} {m : Nat} {v : Int32} {y : MethodName} {cc : ByteArray} {nL : Nat} {rm : Room} {as : List Value} (hop : OpK l y cc nL rm as M v M2) (hI2 : InvM M2) (hw : ∀ S S2, RelK S M → CtS l y cc nL (some .int) rm (.ref 0 :: as) 77 shK S (some (.int v)) S2 → CtS l yL_acts cL_acts 9 (some .int) (rmD 8) [.ref 0, .int (nI m)] 77 shK S (some (.int v)) S2) : ∃ (v : Int32) (M2 : SS), InvM M2 ∧ OpK l yL_acts cL_acts 9 (rmD 8) [.int (nI m)] M v M2 := ⟨v, M2, hI2, fun S h => by
  obtain ⟨S2, hC, hR⟩ := hop S h
  exact ⟨S2, hw S S2 h hC, hR⟩⟩
theorem act_lift2 {l : Launch} {M M2 : SS} {m : Nat} {v : Int32} {y : MethodName} {cc : ByteArray} {nL : Nat} {rm : Room} {as : List Value} (hop : OpK l y cc nL rm as M v M2) (hI2 : InvM M2) (h34 : M2 3 = M 3 ∧ M2 4 = M 4) (h6 : ¬ v < -6) (hw : ∀ S S2, RelK S M → CtS l y cc nL (some .int) rm (.ref 0 :: as) 77 shK S (some (.int v)) S2 → CtS l yL_acts cL_acts 9 (some .int) (rmD 8) [.ref 0, .int (nI m)] 77 shK S (some (.int v)) S2) : ∃ (v : Int32) (M2 : SS), InvM M2 ∧ (M2 3 = M 3 ∧ M2 4 = M 4) ∧ ¬ v < -6 ∧ OpK l yL_acts cL_acts 9 (rmD 8) [.int (nI m)] M v M2 := ⟨v, M2, hI2, h34, h6, fun S h => by
  obtain ⟨S2, hC, hR⟩ := hop S h
  exact ⟨S2, hw S S2 h hC, hR⟩⟩
theorem rem_n {m d : Nat} (hm : m < 2 ^ 31) (h0 : 0 < d) (hd : d < 2 ^ 31) : nI m - nI m / nI d * nI d = nI (m % d) := pk_rem hm h0 hd
set_option maxRecDepth 100000 in
set_option maxHeartbeats 1500000 in
theorem ac_start {l : Launch} {X : XT} {S : SS} {m : Nat} (hm : m < 2 ^ 31) (kk : VS l (rmD 8) RL cL_acts 9 X 0 0 77 (shW shK S) 30 [some (.ref 0), some (.int (nI m)), some (.int (nI (m / 32))), some (.int (nI (m / 32 % 8))), some (.int (acB (m / 32))), none, none, none, none] [.int (nI (m % 32))]) : VS l (rmD 8) RL cL_acts 9 X 0 0 77 (shW shK S) 0 [some (.ref 0), some (.int (nI m)), none, none, none, none, none, none, none] [] := by
  refine VS.iload_n dL_acts_0 rfl ?_
  refine VS.bipush (32) dL_acts_1 rfl ?_
  refine VS.idiv dL_acts_3 (by decide) ?_
  refine VS.val (y := nI (m / 32)) (pk_div (d := 32) hm (by decide) (by decide)) ?_
  refine VS.istore_n dL_acts_4 (by decide) rfl ?_
  refine VS.iload_n dL_acts_5 rfl ?_
  refine VS.bipush (8) dL_acts_6 rfl ?_
  refine VS.irem dL_acts_8 (by decide) ?_
  refine VS.val (y := nI (m / 32 % 8)) (rem_n (d := 8) (by omega) (by decide) (by decide)) ?_
  refine VS.istore_n dL_acts_9 (by decide) rfl ?_
  refine VS.iload_n dL_acts_10 rfl ?_
  refine VS.iconst (1) dL_acts_11 rfl ?_
  refine VS.iadd dL_acts_12 ?_
  refine VS.val (y := nI (m / 32 % 8 + 1)) (nI_1 _) ?_
  refine VS.iload_n dL_acts_13 rfl ?_
  refine VS.bipush (8) dL_acts_14 rfl ?_
  refine VS.idiv dL_acts_16 (by decide) ?_
  refine VS.val (y := nI (m / 32 / 8)) (pk_div (d := 8) (by omega) (by decide) (by decide)) ?_
  refine VS.bipush (7) dL_acts_17 rfl ?_
  refine VS.irem dL_acts_19 (by decide) ?_
  refine VS.val (y := nI (m / 32 / 8 % 7)) (rem_n (d := 7) (by omega) (by decide) (by decide)) ?_
  refine VS.iadd dL_acts_20 ?_
  refine VS.val (y := nI (m / 32 % 8 + 1 + m / 32 / 8 % 7)) (nI_add _ _) ?_
  refine VS.bipush (8) dL_acts_21 rfl ?_
  refine VS.irem dL_acts_23 (by decide) ?_
  refine VS.val (y := acB (m / 32)) (rem_n (d := 8) (by omega) (by decide) (by decide)) ?_
  refine VS.istore dL_acts_24 (by decide) rfl ?_
  refine VS.nf [some (.ref 0), some (.int (nI m)), some (.int (nI (m / 32))), some (.int (nI (m / 32 % 8))), some (.int (acB (m / 32))), none, none, none, none] rfl ?_
  refine VS.iload_n dL_acts_26 rfl ?_
  refine VS.bipush (32) dL_acts_27 rfl ?_
  refine VS.irem dL_acts_29 (by decide) ?_
  refine VS.val (y := nI (m % 32)) (rem_n (d := 32) hm (by decide) (by decide)) ?_
  exact kk
set_option maxRecDepth 100000 in
set_option maxHeartbeats 1500000 in
theorem ac_set_0 (l : Launch) {M : SS} (hI : InvM M) {m : Nat} (hm : m < 2 ^ 31) (hc : m % 32 = 0) : ∃ (v : Int32) (M2 : SS), InvM M2 ∧ OpK l yL_acts cL_acts 9 (rmD 8) [.int (nI m)] M v M2 := by
  refine act_lift (ok_set l (nI (m / 32 % 4)) (nI (1 + m / 32 / 4 % 20))) (inv_set hI _ _) (fun S S2 h hC => ?_)
  refine CtF.of (own := RL) [some (.ref 0), some (.int (nI m)), none, none, none, none, none, none, none] (by decide +kernel) rfl (fun _ => Nat.le_of_ble_eq_true rfl) (fun _ => rfl) ?_
  refine ac_start hm ?_
  rw [hc]
  refine VS.tableIn 120 dL_acts_30 (by decide) (by decide) rfl (by decide) ?_
  refine VS.aload_n dL_acts_120 rfl ?_
  refine VS.iload_n dL_acts_121 rfl ?_
  refine VS.iconst (4) dL_acts_122 rfl ?_
  refine VS.irem dL_acts_123 (by decide) ?_
  refine VS.val (y := nI (m / 32 % 4)) (rem_n (d := 4) (by omega) (by decide) (by decide)) ?_
  refine VS.iconst (1) dL_acts_124 rfl ?_
  refine VS.iload_n dL_acts_125 rfl ?_
  refine VS.iconst (4) dL_acts_126 rfl ?_
  refine VS.idiv dL_acts_127 (by decide) ?_
  refine VS.val (y := nI (m / 32 / 4)) (pk_div (d := 4) (by omega) (by decide) (by decide)) ?_
  refine VS.bipush (20) dL_acts_128 rfl ?_
  refine VS.irem dL_acts_130 (by decide) ?_
  refine VS.val (y := nI (m / 32 / 4 % 20)) (rem_n (d := 20) (by omega) (by decide) (by decide)) ?_
  refine VS.iadd dL_acts_131 ?_
  refine VS.val (y := nI (1 + m / 32 / 4 % 20)) (nI_add 1 _) ?_
  refine VS.callT (hC) dL_acts_132 mi_X6_set im_X6_set sel_X6_set ml_L_9 (by decide) rfl rfl (rmOk_D (by decide) (by decide)) (Nat.le_of_ble_eq_true rfl) rfl ?_
  exact VS.iret dL_acts_135 (rfl) (fun _ _ => rfl)
set_option maxRecDepth 100000 in
set_option maxHeartbeats 1500000 in
theorem ac_treasure_1 (l : Launch) {M : SS} (hI : InvM M) {m : Nat} (hm : m < 2 ^ 31) (hc : m % 32 = 1) : ∃ (v : Int32) (M2 : SS), InvM M2 ∧ OpK l yL_acts cL_acts 9 (rmD 8) [.int (nI m)] M v M2 := by
  refine act_lift (ok_treasure l (nI (m / 32 % 8))) (inv_treasure hI _) (fun S S2 h hC => ?_)
  refine CtF.of (own := RL) [some (.ref 0), some (.int (nI m)), none, none, none, none, none, none, none] (by decide +kernel) rfl (fun _ => Nat.le_of_ble_eq_true rfl) (fun _ => rfl) ?_
  refine ac_start hm ?_
  rw [hc]
  refine VS.tableIn 136 dL_acts_30 (by decide) (by decide) rfl (by decide) ?_
  refine VS.aload_n dL_acts_136 rfl ?_
  refine VS.iload_n dL_acts_137 rfl ?_
  refine VS.callT (hC) dL_acts_138 mi_X6_treasure im_X6_treasure sel_X6_treasure ml_L_15 (by decide) rfl rfl (rmOk_D (by decide) (by decide)) (Nat.le_of_ble_eq_true rfl) rfl ?_
  exact VS.iret dL_acts_141 (rfl) (fun _ _ => rfl)
set_option maxRecDepth 100000 in
set_option maxHeartbeats 1500000 in
theorem ac_begin_2 (l : Launch) {M : SS} (hI : InvM M) {m : Nat} (hm : m < 2 ^ 31) (hc : m % 32 = 2) : ∃ (v : Int32) (M2 : SS), InvM M2 ∧ OpK l yL_acts cL_acts 9 (rmD 8) [.int (nI m)] M v M2 := by
  refine act_lift (ok_begin l) (inv_begin hI) (fun S S2 h hC => ?_)
  refine CtF.of (own := RL) [some (.ref 0), some (.int (nI m)), none, none, none, none, none, none, none] (by decide +kernel) rfl (fun _ => Nat.le_of_ble_eq_true rfl) (fun _ => rfl) ?_
  refine ac_start hm ?_
  rw [hc]
  refine VS.tableIn 142 dL_acts_30 (by decide) (by decide) rfl (by decide) ?_
  refine VS.aload_n dL_acts_142 rfl ?_
  refine VS.callT (hC) dL_acts_143 mi_X6_begin im_X6_begin sel_X6_begin ml_L_19 (by decide) rfl rfl (rmOk_D (by decide) (by decide)) (Nat.le_of_ble_eq_true rfl) rfl ?_
  exact VS.iret dL_acts_146 (rfl) (fun _ _ => rfl)
set_option maxRecDepth 100000 in
set_option maxHeartbeats 1500000 in
theorem ac_pass_6 (l : Launch) {M : SS} (hI : InvM M) {m : Nat} (hm : m < 2 ^ 31) (hc : m % 32 = 6) : ∃ (v : Int32) (M2 : SS), InvM M2 ∧ OpK l yL_acts cL_acts 9 (rmD 8) [.int (nI m)] M v M2 := by
  refine act_lift (ok_pass l) (inv_pass hI) (fun S S2 h hC => ?_)
  refine CtF.of (own := RL) [some (.ref 0), some (.int (nI m)), none, none, none, none, none, none, none] (by decide +kernel) rfl (fun _ => Nat.le_of_ble_eq_true rfl) (fun _ => rfl) ?_
  refine ac_start hm ?_
  rw [hc]
  refine VS.tableIn 171 dL_acts_30 (by decide) (by decide) rfl (by decide) ?_
  refine VS.aload_n dL_acts_171 rfl ?_
  refine VS.callT (hC) dL_acts_172 mi_X6_pass im_X6_pass sel_X6_pass ml_L_32 (by decide) rfl rfl (rmOk_D (by decide) (by decide)) (Nat.le_of_ble_eq_true rfl) rfl ?_
  exact VS.iret dL_acts_175 (rfl) (fun _ _ => rfl)
set_option maxRecDepth 100000 in
set_option maxHeartbeats 1500000 in
theorem ac_undo_12 (l : Launch) {M : SS} (hI : InvM M) {m : Nat} (hm : m < 2 ^ 31) (hc : m % 32 = 12) : ∃ (v : Int32) (M2 : SS), InvM M2 ∧ OpK l yL_acts cL_acts 9 (rmD 8) [.int (nI m)] M v M2 := by
  refine act_lift (ok_undo l) (inv_undo hI) (fun S S2 h hC => ?_)
  refine CtF.of (own := RL) [some (.ref 0), some (.int (nI m)), none, none, none, none, none, none, none] (by decide +kernel) rfl (fun _ => Nat.le_of_ble_eq_true rfl) (fun _ => rfl) ?_
  refine ac_start hm ?_
  rw [hc]
  refine VS.tableIn 208 dL_acts_30 (by decide) (by decide) rfl (by decide) ?_
  refine VS.aload_n dL_acts_208 rfl ?_
  refine VS.callT (hC) dL_acts_209 mi_X6_undo im_X6_undo sel_X6_undo ml_L_39 (by decide) rfl rfl (rmOk_D (by decide) (by decide)) (Nat.le_of_ble_eq_true rfl) rfl ?_
  exact VS.iret dL_acts_212 (rfl) (fun _ _ => rfl)
set_option maxRecDepth 100000 in
set_option maxHeartbeats 1500000 in
theorem ac_undo_13 (l : Launch) {M : SS} (hI : InvM M) {m : Nat} (hm : m < 2 ^ 31) (hc : m % 32 = 13) : ∃ (v : Int32) (M2 : SS), InvM M2 ∧ OpK l yL_acts cL_acts 9 (rmD 8) [.int (nI m)] M v M2 := by
  refine act_lift (ok_undo l) (inv_undo hI) (fun S S2 h hC => ?_)
  refine CtF.of (own := RL) [some (.ref 0), some (.int (nI m)), none, none, none, none, none, none, none] (by decide +kernel) rfl (fun _ => Nat.le_of_ble_eq_true rfl) (fun _ => rfl) ?_
  refine ac_start hm ?_
  rw [hc]
  refine VS.tableIn 208 dL_acts_30 (by decide) (by decide) rfl (by decide) ?_
  refine VS.aload_n dL_acts_208 rfl ?_
  refine VS.callT (hC) dL_acts_209 mi_X6_undo im_X6_undo sel_X6_undo ml_L_39 (by decide) rfl rfl (rmOk_D (by decide) (by decide)) (Nat.le_of_ble_eq_true rfl) rfl ?_
  exact VS.iret dL_acts_212 (rfl) (fun _ _ => rfl)
set_option maxRecDepth 100000 in
set_option maxHeartbeats 1500000 in
theorem ac_save_14 (l : Launch) {M : SS} (hI : InvM M) {m : Nat} (hm : m < 2 ^ 31) (hc : m % 32 = 14) : ∃ (v : Int32) (M2 : SS), InvM M2 ∧ OpK l yL_acts cL_acts 9 (rmD 8) [.int (nI m)] M v M2 := by
  refine act_lift (ok_save l (q := m / 32 % 2) (by omega)) (inv_save hI (by omega)) (fun S S2 h hC => ?_)
  refine CtF.of (own := RL) [some (.ref 0), some (.int (nI m)), none, none, none, none, none, none, none] (by decide +kernel) rfl (fun _ => Nat.le_of_ble_eq_true rfl) (fun _ => rfl) ?_
  refine ac_start hm ?_
  rw [hc]
  refine VS.tableIn 213 dL_acts_30 (by decide) (by decide) rfl (by decide) ?_
  refine VS.aload_n dL_acts_213 rfl ?_
  refine VS.iload_n dL_acts_214 rfl ?_
  refine VS.iconst (2) dL_acts_215 rfl ?_
  refine VS.irem dL_acts_216 (by decide) ?_
  refine VS.val (y := nI (m / 32 % 2)) (rem_n (d := 2) (by omega) (by decide) (by decide)) ?_
  refine VS.callT (hC) dL_acts_217 mi_X6_save im_X6_save sel_X6_save ml_L_42 (by decide) rfl rfl (rmOk_D (by decide) (by decide)) (Nat.le_of_ble_eq_true rfl) rfl ?_
  exact VS.iret dL_acts_220 (rfl) (fun _ _ => rfl)
set_option maxRecDepth 100000 in
set_option maxHeartbeats 1500000 in
theorem ac_restore_15 (l : Launch) {M : SS} (hI : InvM M) {m : Nat} (hm : m < 2 ^ 31) (hc : m % 32 = 15) : ∃ (v : Int32) (M2 : SS), InvM M2 ∧ OpK l yL_acts cL_acts 9 (rmD 8) [.int (nI m)] M v M2 := by
  refine act_lift (ok_restore l (q := m / 32 % 2) (by omega)) (inv_restore hI (q := m / 32 % 2) (by omega)) (fun S S2 h hC => ?_)
  refine CtF.of (own := RL) [some (.ref 0), some (.int (nI m)), none, none, none, none, none, none, none] (by decide +kernel) rfl (fun _ => Nat.le_of_ble_eq_true rfl) (fun _ => rfl) ?_
  refine ac_start hm ?_
  rw [hc]
  refine VS.tableIn 221 dL_acts_30 (by decide) (by decide) rfl (by decide) ?_
  refine VS.aload_n dL_acts_221 rfl ?_
  refine VS.iload_n dL_acts_222 rfl ?_
  refine VS.iconst (2) dL_acts_223 rfl ?_
  refine VS.irem dL_acts_224 (by decide) ?_
  refine VS.val (y := nI (m / 32 % 2)) (rem_n (d := 2) (by omega) (by decide) (by decide)) ?_
  refine VS.callT (hC) dL_acts_225 mi_X6_restore im_X6_restore sel_X6_restore ml_L_45 (by decide) rfl rfl (rmOk_D (by decide) (by decide)) (Nat.le_of_ble_eq_true rfl) rfl ?_
  exact VS.iret dL_acts_228 (rfl) (fun _ _ => rfl)
set_option maxRecDepth 100000 in
set_option maxHeartbeats 1500000 in
theorem ac_dig_3 (l : Launch) {M : SS} (hI : InvM M) {m : Nat} (hm : m < 2 ^ 31) (hc : m % 32 = 3) : ∃ (v : Int32) (M2 : SS), InvM M2 ∧ OpK l yL_acts cL_acts 9 (rmD 8) [.int (nI m)] M v M2 := by
  by_cases hg : M 1 6 = 0
  · refine act_lift (ok_road l (nI (m / 32 % 8)) (acB (m / 32))) (inv_road hI _ _) (fun S S2 h hC => ?_)
    refine CtF.of (own := RL) [some (.ref 0), some (.int (nI m)), none, none, none, none, none, none, none] (by decide +kernel) rfl (fun _ => Nat.le_of_ble_eq_true rfl) (fun _ => rfl) ?_
    refine ac_start hm ?_
    rw [hc]
    refine VS.tableIn 147 dL_acts_30 (by decide) (by decide) rfl (by decide) ?_
    refine VS.aload_n dL_acts_147 rfl ?_
    refine VS.iconst (2) dL_acts_148 rfl ?_
    refine VS.callT (ak_count l (c := 2) (by decide) S h) dL_acts_149 mi_X6_count im_X6_count sel_X6_count ml_L_23 (by decide) rfl rfl (rmOk_D (by decide) (by decide)) (Nat.le_of_ble_eq_true rfl) rfl ?_
    refine VS.val (y := M 1 6) (rfl) ?_
    refine VS.if_ne 165 dL_acts_152 (by decide) (fun hh => absurd (hg) hh) (fun _ => ?_)
    refine VS.aload_n dL_acts_155 rfl ?_
    refine VS.iload_n dL_acts_156 rfl ?_
    refine VS.iload dL_acts_157 rfl ?_
    refine VS.callT (hC) dL_acts_159 mi_X6_road im_X6_road sel_X6_road ml_L_26 (by decide) rfl rfl (rmOk_D (by decide) (by decide)) (Nat.le_of_ble_eq_true rfl) rfl ?_
    refine VS.goto 170 dL_acts_162 (by decide) ?_
    exact VS.iret dL_acts_170 (rfl) (fun _ _ => rfl)
  · refine act_lift (ok_dig l (nI (m / 32 % 8))) (inv_dig hI _ _) (fun S S2 h hC => ?_)
    refine CtF.of (own := RL) [some (.ref 0), some (.int (nI m)), none, none, none, none, none, none, none] (by decide +kernel) rfl (fun _ => Nat.le_of_ble_eq_true rfl) (fun _ => rfl) ?_
    refine ac_start hm ?_
    rw [hc]
    refine VS.tableIn 147 dL_acts_30 (by decide) (by decide) rfl (by decide) ?_
    refine VS.aload_n dL_acts_147 rfl ?_
    refine VS.iconst (2) dL_acts_148 rfl ?_
    refine VS.callT (ak_count l (c := 2) (by decide) S h) dL_acts_149 mi_X6_count im_X6_count sel_X6_count ml_L_23 (by decide) rfl rfl (rmOk_D (by decide) (by decide)) (Nat.le_of_ble_eq_true rfl) rfl ?_
    refine VS.val (y := M 1 6) (rfl) ?_
    refine VS.if_ne 165 dL_acts_152 (by decide) (fun _ => ?_) (fun hh => absurd hh (hg))
    refine VS.aload_n dL_acts_165 rfl ?_
    refine VS.iload_n dL_acts_166 rfl ?_
    refine VS.callT (hC) dL_acts_167 mi_X6_dig im_X6_dig sel_X6_dig ml_L_29 (by decide) rfl rfl (rmOk_D (by decide) (by decide)) (Nat.le_of_ble_eq_true rfl) rfl ?_
    exact VS.iret dL_acts_170 (rfl) (fun _ _ => rfl)
set_option maxRecDepth 100000 in
set_option maxHeartbeats 1500000 in
theorem ac_dig_4 (l : Launch) {M : SS} (hI : InvM M) {m : Nat} (hm : m < 2 ^ 31) (hc : m % 32 = 4) : ∃ (v : Int32) (M2 : SS), InvM M2 ∧ OpK l yL_acts cL_acts 9 (rmD 8) [.int (nI m)] M v M2 := by
  by_cases hg : M 1 6 = 0
  · refine act_lift (ok_road l (nI (m / 32 % 8)) (acB (m / 32))) (inv_road hI _ _) (fun S S2 h hC => ?_)
    refine CtF.of (own := RL) [some (.ref 0), some (.int (nI m)), none, none, none, none, none, none, none] (by decide +kernel) rfl (fun _ => Nat.le_of_ble_eq_true rfl) (fun _ => rfl) ?_
    refine ac_start hm ?_
    rw [hc]
    refine VS.tableIn 147 dL_acts_30 (by decide) (by decide) rfl (by decide) ?_
    refine VS.aload_n dL_acts_147 rfl ?_
    refine VS.iconst (2) dL_acts_148 rfl ?_
    refine VS.callT (ak_count l (c := 2) (by decide) S h) dL_acts_149 mi_X6_count im_X6_count sel_X6_count ml_L_23 (by decide) rfl rfl (rmOk_D (by decide) (by decide)) (Nat.le_of_ble_eq_true rfl) rfl ?_
    refine VS.val (y := M 1 6) (rfl) ?_
    refine VS.if_ne 165 dL_acts_152 (by decide) (fun hh => absurd (hg) hh) (fun _ => ?_)
    refine VS.aload_n dL_acts_155 rfl ?_
    refine VS.iload_n dL_acts_156 rfl ?_
    refine VS.iload dL_acts_157 rfl ?_
    refine VS.callT (hC) dL_acts_159 mi_X6_road im_X6_road sel_X6_road ml_L_26 (by decide) rfl rfl (rmOk_D (by decide) (by decide)) (Nat.le_of_ble_eq_true rfl) rfl ?_
    refine VS.goto 170 dL_acts_162 (by decide) ?_
    exact VS.iret dL_acts_170 (rfl) (fun _ _ => rfl)
  · refine act_lift (ok_dig l (nI (m / 32 % 8))) (inv_dig hI _ _) (fun S S2 h hC => ?_)
    refine CtF.of (own := RL) [some (.ref 0), some (.int (nI m)), none, none, none, none, none, none, none] (by decide +kernel) rfl (fun _ => Nat.le_of_ble_eq_true rfl) (fun _ => rfl) ?_
    refine ac_start hm ?_
    rw [hc]
    refine VS.tableIn 147 dL_acts_30 (by decide) (by decide) rfl (by decide) ?_
    refine VS.aload_n dL_acts_147 rfl ?_
    refine VS.iconst (2) dL_acts_148 rfl ?_
    refine VS.callT (ak_count l (c := 2) (by decide) S h) dL_acts_149 mi_X6_count im_X6_count sel_X6_count ml_L_23 (by decide) rfl rfl (rmOk_D (by decide) (by decide)) (Nat.le_of_ble_eq_true rfl) rfl ?_
    refine VS.val (y := M 1 6) (rfl) ?_
    refine VS.if_ne 165 dL_acts_152 (by decide) (fun _ => ?_) (fun hh => absurd hh (hg))
    refine VS.aload_n dL_acts_165 rfl ?_
    refine VS.iload_n dL_acts_166 rfl ?_
    refine VS.callT (hC) dL_acts_167 mi_X6_dig im_X6_dig sel_X6_dig ml_L_29 (by decide) rfl rfl (rmOk_D (by decide) (by decide)) (Nat.le_of_ble_eq_true rfl) rfl ?_
    exact VS.iret dL_acts_170 (rfl) (fun _ _ => rfl)
set_option maxRecDepth 100000 in
set_option maxHeartbeats 1500000 in
theorem ac_dig_5 (l : Launch) {M : SS} (hI : InvM M) {m : Nat} (hm : m < 2 ^ 31) (hc : m % 32 = 5) : ∃ (v : Int32) (M2 : SS), InvM M2 ∧ OpK l yL_acts cL_acts 9 (rmD 8) [.int (nI m)] M v M2 := by
  by_cases hg : M 1 6 = 0
  · refine act_lift (ok_road l (nI (m / 32 % 8)) (acB (m / 32))) (inv_road hI _ _) (fun S S2 h hC => ?_)
    refine CtF.of (own := RL) [some (.ref 0), some (.int (nI m)), none, none, none, none, none, none, none] (by decide +kernel) rfl (fun _ => Nat.le_of_ble_eq_true rfl) (fun _ => rfl) ?_
    refine ac_start hm ?_
    rw [hc]
    refine VS.tableIn 147 dL_acts_30 (by decide) (by decide) rfl (by decide) ?_
    refine VS.aload_n dL_acts_147 rfl ?_
    refine VS.iconst (2) dL_acts_148 rfl ?_
    refine VS.callT (ak_count l (c := 2) (by decide) S h) dL_acts_149 mi_X6_count im_X6_count sel_X6_count ml_L_23 (by decide) rfl rfl (rmOk_D (by decide) (by decide)) (Nat.le_of_ble_eq_true rfl) rfl ?_
    refine VS.val (y := M 1 6) (rfl) ?_
    refine VS.if_ne 165 dL_acts_152 (by decide) (fun hh => absurd (hg) hh) (fun _ => ?_)
    refine VS.aload_n dL_acts_155 rfl ?_
    refine VS.iload_n dL_acts_156 rfl ?_
    refine VS.iload dL_acts_157 rfl ?_
    refine VS.callT (hC) dL_acts_159 mi_X6_road im_X6_road sel_X6_road ml_L_26 (by decide) rfl rfl (rmOk_D (by decide) (by decide)) (Nat.le_of_ble_eq_true rfl) rfl ?_
    refine VS.goto 170 dL_acts_162 (by decide) ?_
    exact VS.iret dL_acts_170 (rfl) (fun _ _ => rfl)
  · refine act_lift (ok_dig l (nI (m / 32 % 8))) (inv_dig hI _ _) (fun S S2 h hC => ?_)
    refine CtF.of (own := RL) [some (.ref 0), some (.int (nI m)), none, none, none, none, none, none, none] (by decide +kernel) rfl (fun _ => Nat.le_of_ble_eq_true rfl) (fun _ => rfl) ?_
    refine ac_start hm ?_
    rw [hc]
    refine VS.tableIn 147 dL_acts_30 (by decide) (by decide) rfl (by decide) ?_
    refine VS.aload_n dL_acts_147 rfl ?_
    refine VS.iconst (2) dL_acts_148 rfl ?_
    refine VS.callT (ak_count l (c := 2) (by decide) S h) dL_acts_149 mi_X6_count im_X6_count sel_X6_count ml_L_23 (by decide) rfl rfl (rmOk_D (by decide) (by decide)) (Nat.le_of_ble_eq_true rfl) rfl ?_
    refine VS.val (y := M 1 6) (rfl) ?_
    refine VS.if_ne 165 dL_acts_152 (by decide) (fun _ => ?_) (fun hh => absurd hh (hg))
    refine VS.aload_n dL_acts_165 rfl ?_
    refine VS.iload_n dL_acts_166 rfl ?_
    refine VS.callT (hC) dL_acts_167 mi_X6_dig im_X6_dig sel_X6_dig ml_L_29 (by decide) rfl rfl (rmOk_D (by decide) (by decide)) (Nat.le_of_ble_eq_true rfl) rfl ?_
    exact VS.iret dL_acts_170 (rfl) (fun _ _ => rfl)
set_option maxRecDepth 100000 in
set_option maxHeartbeats 1500000 in
theorem ac_check_7 (l : Launch) {M : SS} (hI : InvM M) {m : Nat} (hm : m < 2 ^ 31) (hc : m % 32 = 7) : ∃ (v : Int32) (M2 : SS), InvM M2 ∧ OpK l yL_acts cL_acts 9 (rmD 8) [.int (nI m)] M v M2 := by
  by_cases hg : M 1 6 = 0
  · refine act_lift (ok_road l (nI (m / 32 % 8)) (acB (m / 32))) (inv_road hI _ _) (fun S S2 h hC => ?_)
    refine CtF.of (own := RL) [some (.ref 0), some (.int (nI m)), none, none, none, none, none, none, none] (by decide +kernel) rfl (fun _ => Nat.le_of_ble_eq_true rfl) (fun _ => rfl) ?_
    refine ac_start hm ?_
    rw [hc]
    refine VS.tableIn 176 dL_acts_30 (by decide) (by decide) rfl (by decide) ?_
    refine VS.aload_n dL_acts_176 rfl ?_
    refine VS.iconst (2) dL_acts_177 rfl ?_
    refine VS.callT (ak_count l (c := 2) (by decide) S h) dL_acts_178 mi_X6_count im_X6_count sel_X6_count ml_L_23 (by decide) rfl rfl (rmOk_D (by decide) (by decide)) (Nat.le_of_ble_eq_true rfl) rfl ?_
    refine VS.val (y := M 1 6) (rfl) ?_
    refine VS.if_ne 194 dL_acts_181 (by decide) (fun hh => absurd (hg) hh) (fun _ => ?_)
    refine VS.aload_n dL_acts_184 rfl ?_
    refine VS.iload_n dL_acts_185 rfl ?_
    refine VS.iload dL_acts_186 rfl ?_
    refine VS.callT (hC) dL_acts_188 mi_X6_road im_X6_road sel_X6_road ml_L_26 (by decide) rfl rfl (rmOk_D (by decide) (by decide)) (Nat.le_of_ble_eq_true rfl) rfl ?_
    refine VS.goto 207 dL_acts_191 (by decide) ?_
    exact VS.iret dL_acts_207 (rfl) (fun _ _ => rfl)
  · refine act_lift (ok_check l (nI (m / 32 / 64 % 3)) (nI (m / 32 % 8)) (acB (m / 32))) (inv_check hI _ _ _) (fun S S2 h hC => ?_)
    refine CtF.of (own := RL) [some (.ref 0), some (.int (nI m)), none, none, none, none, none, none, none] (by decide +kernel) rfl (fun _ => Nat.le_of_ble_eq_true rfl) (fun _ => rfl) ?_
    refine ac_start hm ?_
    rw [hc]
    refine VS.tableIn 176 dL_acts_30 (by decide) (by decide) rfl (by decide) ?_
    refine VS.aload_n dL_acts_176 rfl ?_
    refine VS.iconst (2) dL_acts_177 rfl ?_
    refine VS.callT (ak_count l (c := 2) (by decide) S h) dL_acts_178 mi_X6_count im_X6_count sel_X6_count ml_L_23 (by decide) rfl rfl (rmOk_D (by decide) (by decide)) (Nat.le_of_ble_eq_true rfl) rfl ?_
    refine VS.val (y := M 1 6) (rfl) ?_
    refine VS.if_ne 194 dL_acts_181 (by decide) (fun _ => ?_) (fun hh => absurd hh (hg))
    refine VS.aload_n dL_acts_194 rfl ?_
    refine VS.iload_n dL_acts_195 rfl ?_
    refine VS.bipush (64) dL_acts_196 rfl ?_
    refine VS.idiv dL_acts_198 (by decide) ?_
    refine VS.val (y := nI (m / 32 / 64)) (pk_div (d := 64) (by omega) (by decide) (by decide)) ?_
    refine VS.iconst (3) dL_acts_199 rfl ?_
    refine VS.irem dL_acts_200 (by decide) ?_
    refine VS.val (y := nI (m / 32 / 64 % 3)) (rem_n (d := 3) (by omega) (by decide) (by decide)) ?_
    refine VS.iload_n dL_acts_201 rfl ?_
    refine VS.iload dL_acts_202 rfl ?_
    refine VS.callT (hC) dL_acts_204 mi_X6_check im_X6_check sel_X6_check ml_L_35 (by decide) rfl rfl (rmOk_D (by decide) (by decide)) (Nat.le_of_ble_eq_true rfl) rfl ?_
    exact VS.iret dL_acts_207 (rfl) (fun _ _ => rfl)
set_option maxRecDepth 100000 in
set_option maxHeartbeats 1500000 in
theorem ac_check_8 (l : Launch) {M : SS} (hI : InvM M) {m : Nat} (hm : m < 2 ^ 31) (hc : m % 32 = 8) : ∃ (v : Int32) (M2 : SS), InvM M2 ∧ OpK l yL_acts cL_acts 9 (rmD 8) [.int (nI m)] M v M2 := by
  by_cases hg : M 1 6 = 0
  · refine act_lift (ok_road l (nI (m / 32 % 8)) (acB (m / 32))) (inv_road hI _ _) (fun S S2 h hC => ?_)
    refine CtF.of (own := RL) [some (.ref 0), some (.int (nI m)), none, none, none, none, none, none, none] (by decide +kernel) rfl (fun _ => Nat.le_of_ble_eq_true rfl) (fun _ => rfl) ?_
    refine ac_start hm ?_
    rw [hc]
    refine VS.tableIn 176 dL_acts_30 (by decide) (by decide) rfl (by decide) ?_
    refine VS.aload_n dL_acts_176 rfl ?_
    refine VS.iconst (2) dL_acts_177 rfl ?_
    refine VS.callT (ak_count l (c := 2) (by decide) S h) dL_acts_178 mi_X6_count im_X6_count sel_X6_count ml_L_23 (by decide) rfl rfl (rmOk_D (by decide) (by decide)) (Nat.le_of_ble_eq_true rfl) rfl ?_
    refine VS.val (y := M 1 6) (rfl) ?_
    refine VS.if_ne 194 dL_acts_181 (by decide) (fun hh => absurd (hg) hh) (fun _ => ?_)
    refine VS.aload_n dL_acts_184 rfl ?_
    refine VS.iload_n dL_acts_185 rfl ?_
    refine VS.iload dL_acts_186 rfl ?_
    refine VS.callT (hC) dL_acts_188 mi_X6_road im_X6_road sel_X6_road ml_L_26 (by decide) rfl rfl (rmOk_D (by decide) (by decide)) (Nat.le_of_ble_eq_true rfl) rfl ?_
    refine VS.goto 207 dL_acts_191 (by decide) ?_
    exact VS.iret dL_acts_207 (rfl) (fun _ _ => rfl)
  · refine act_lift (ok_check l (nI (m / 32 / 64 % 3)) (nI (m / 32 % 8)) (acB (m / 32))) (inv_check hI _ _ _) (fun S S2 h hC => ?_)
    refine CtF.of (own := RL) [some (.ref 0), some (.int (nI m)), none, none, none, none, none, none, none] (by decide +kernel) rfl (fun _ => Nat.le_of_ble_eq_true rfl) (fun _ => rfl) ?_
    refine ac_start hm ?_
    rw [hc]
    refine VS.tableIn 176 dL_acts_30 (by decide) (by decide) rfl (by decide) ?_
    refine VS.aload_n dL_acts_176 rfl ?_
    refine VS.iconst (2) dL_acts_177 rfl ?_
    refine VS.callT (ak_count l (c := 2) (by decide) S h) dL_acts_178 mi_X6_count im_X6_count sel_X6_count ml_L_23 (by decide) rfl rfl (rmOk_D (by decide) (by decide)) (Nat.le_of_ble_eq_true rfl) rfl ?_
    refine VS.val (y := M 1 6) (rfl) ?_
    refine VS.if_ne 194 dL_acts_181 (by decide) (fun _ => ?_) (fun hh => absurd hh (hg))
    refine VS.aload_n dL_acts_194 rfl ?_
    refine VS.iload_n dL_acts_195 rfl ?_
    refine VS.bipush (64) dL_acts_196 rfl ?_
    refine VS.idiv dL_acts_198 (by decide) ?_
    refine VS.val (y := nI (m / 32 / 64)) (pk_div (d := 64) (by omega) (by decide) (by decide)) ?_
    refine VS.iconst (3) dL_acts_199 rfl ?_
    refine VS.irem dL_acts_200 (by decide) ?_
    refine VS.val (y := nI (m / 32 / 64 % 3)) (rem_n (d := 3) (by omega) (by decide) (by decide)) ?_
    refine VS.iload_n dL_acts_201 rfl ?_
    refine VS.iload dL_acts_202 rfl ?_
    refine VS.callT (hC) dL_acts_204 mi_X6_check im_X6_check sel_X6_check ml_L_35 (by decide) rfl rfl (rmOk_D (by decide) (by decide)) (Nat.le_of_ble_eq_true rfl) rfl ?_
    exact VS.iret dL_acts_207 (rfl) (fun _ _ => rfl)
set_option maxRecDepth 100000 in
set_option maxHeartbeats 1500000 in
theorem ac_check_9 (l : Launch) {M : SS} (hI : InvM M) {m : Nat} (hm : m < 2 ^ 31) (hc : m % 32 = 9) : ∃ (v : Int32) (M2 : SS), InvM M2 ∧ OpK l yL_acts cL_acts 9 (rmD 8) [.int (nI m)] M v M2 := by
  by_cases hg : M 1 6 = 0
  · refine act_lift (ok_road l (nI (m / 32 % 8)) (acB (m / 32))) (inv_road hI _ _) (fun S S2 h hC => ?_)
    refine CtF.of (own := RL) [some (.ref 0), some (.int (nI m)), none, none, none, none, none, none, none] (by decide +kernel) rfl (fun _ => Nat.le_of_ble_eq_true rfl) (fun _ => rfl) ?_
    refine ac_start hm ?_
    rw [hc]
    refine VS.tableIn 176 dL_acts_30 (by decide) (by decide) rfl (by decide) ?_
    refine VS.aload_n dL_acts_176 rfl ?_
    refine VS.iconst (2) dL_acts_177 rfl ?_
    refine VS.callT (ak_count l (c := 2) (by decide) S h) dL_acts_178 mi_X6_count im_X6_count sel_X6_count ml_L_23 (by decide) rfl rfl (rmOk_D (by decide) (by decide)) (Nat.le_of_ble_eq_true rfl) rfl ?_
    refine VS.val (y := M 1 6) (rfl) ?_
    refine VS.if_ne 194 dL_acts_181 (by decide) (fun hh => absurd (hg) hh) (fun _ => ?_)
    refine VS.aload_n dL_acts_184 rfl ?_
    refine VS.iload_n dL_acts_185 rfl ?_
    refine VS.iload dL_acts_186 rfl ?_
    refine VS.callT (hC) dL_acts_188 mi_X6_road im_X6_road sel_X6_road ml_L_26 (by decide) rfl rfl (rmOk_D (by decide) (by decide)) (Nat.le_of_ble_eq_true rfl) rfl ?_
    refine VS.goto 207 dL_acts_191 (by decide) ?_
    exact VS.iret dL_acts_207 (rfl) (fun _ _ => rfl)
  · refine act_lift (ok_check l (nI (m / 32 / 64 % 3)) (nI (m / 32 % 8)) (acB (m / 32))) (inv_check hI _ _ _) (fun S S2 h hC => ?_)
    refine CtF.of (own := RL) [some (.ref 0), some (.int (nI m)), none, none, none, none, none, none, none] (by decide +kernel) rfl (fun _ => Nat.le_of_ble_eq_true rfl) (fun _ => rfl) ?_
    refine ac_start hm ?_
    rw [hc]
    refine VS.tableIn 176 dL_acts_30 (by decide) (by decide) rfl (by decide) ?_
    refine VS.aload_n dL_acts_176 rfl ?_
    refine VS.iconst (2) dL_acts_177 rfl ?_
    refine VS.callT (ak_count l (c := 2) (by decide) S h) dL_acts_178 mi_X6_count im_X6_count sel_X6_count ml_L_23 (by decide) rfl rfl (rmOk_D (by decide) (by decide)) (Nat.le_of_ble_eq_true rfl) rfl ?_
    refine VS.val (y := M 1 6) (rfl) ?_
    refine VS.if_ne 194 dL_acts_181 (by decide) (fun _ => ?_) (fun hh => absurd hh (hg))
    refine VS.aload_n dL_acts_194 rfl ?_
    refine VS.iload_n dL_acts_195 rfl ?_
    refine VS.bipush (64) dL_acts_196 rfl ?_
    refine VS.idiv dL_acts_198 (by decide) ?_
    refine VS.val (y := nI (m / 32 / 64)) (pk_div (d := 64) (by omega) (by decide) (by decide)) ?_
    refine VS.iconst (3) dL_acts_199 rfl ?_
    refine VS.irem dL_acts_200 (by decide) ?_
    refine VS.val (y := nI (m / 32 / 64 % 3)) (rem_n (d := 3) (by omega) (by decide) (by decide)) ?_
    refine VS.iload_n dL_acts_201 rfl ?_
    refine VS.iload dL_acts_202 rfl ?_
    refine VS.callT (hC) dL_acts_204 mi_X6_check im_X6_check sel_X6_check ml_L_35 (by decide) rfl rfl (rmOk_D (by decide) (by decide)) (Nat.le_of_ble_eq_true rfl) rfl ?_
    exact VS.iret dL_acts_207 (rfl) (fun _ _ => rfl)
set_option maxRecDepth 100000 in
set_option maxHeartbeats 1500000 in
theorem ac_check_10 (l : Launch) {M : SS} (hI : InvM M) {m : Nat} (hm : m < 2 ^ 31) (hc : m % 32 = 10) : ∃ (v : Int32) (M2 : SS), InvM M2 ∧ OpK l yL_acts cL_acts 9 (rmD 8) [.int (nI m)] M v M2 := by
  by_cases hg : M 1 6 = 0
  · refine act_lift (ok_road l (nI (m / 32 % 8)) (acB (m / 32))) (inv_road hI _ _) (fun S S2 h hC => ?_)
    refine CtF.of (own := RL) [some (.ref 0), some (.int (nI m)), none, none, none, none, none, none, none] (by decide +kernel) rfl (fun _ => Nat.le_of_ble_eq_true rfl) (fun _ => rfl) ?_
    refine ac_start hm ?_
    rw [hc]
    refine VS.tableIn 176 dL_acts_30 (by decide) (by decide) rfl (by decide) ?_
    refine VS.aload_n dL_acts_176 rfl ?_
    refine VS.iconst (2) dL_acts_177 rfl ?_
    refine VS.callT (ak_count l (c := 2) (by decide) S h) dL_acts_178 mi_X6_count im_X6_count sel_X6_count ml_L_23 (by decide) rfl rfl (rmOk_D (by decide) (by decide)) (Nat.le_of_ble_eq_true rfl) rfl ?_
    refine VS.val (y := M 1 6) (rfl) ?_
    refine VS.if_ne 194 dL_acts_181 (by decide) (fun hh => absurd (hg) hh) (fun _ => ?_)
    refine VS.aload_n dL_acts_184 rfl ?_
    refine VS.iload_n dL_acts_185 rfl ?_
    refine VS.iload dL_acts_186 rfl ?_
    refine VS.callT (hC) dL_acts_188 mi_X6_road im_X6_road sel_X6_road ml_L_26 (by decide) rfl rfl (rmOk_D (by decide) (by decide)) (Nat.le_of_ble_eq_true rfl) rfl ?_
    refine VS.goto 207 dL_acts_191 (by decide) ?_
    exact VS.iret dL_acts_207 (rfl) (fun _ _ => rfl)
  · refine act_lift (ok_check l (nI (m / 32 / 64 % 3)) (nI (m / 32 % 8)) (acB (m / 32))) (inv_check hI _ _ _) (fun S S2 h hC => ?_)
    refine CtF.of (own := RL) [some (.ref 0), some (.int (nI m)), none, none, none, none, none, none, none] (by decide +kernel) rfl (fun _ => Nat.le_of_ble_eq_true rfl) (fun _ => rfl) ?_
    refine ac_start hm ?_
    rw [hc]
    refine VS.tableIn 176 dL_acts_30 (by decide) (by decide) rfl (by decide) ?_
    refine VS.aload_n dL_acts_176 rfl ?_
    refine VS.iconst (2) dL_acts_177 rfl ?_
    refine VS.callT (ak_count l (c := 2) (by decide) S h) dL_acts_178 mi_X6_count im_X6_count sel_X6_count ml_L_23 (by decide) rfl rfl (rmOk_D (by decide) (by decide)) (Nat.le_of_ble_eq_true rfl) rfl ?_
    refine VS.val (y := M 1 6) (rfl) ?_
    refine VS.if_ne 194 dL_acts_181 (by decide) (fun _ => ?_) (fun hh => absurd hh (hg))
    refine VS.aload_n dL_acts_194 rfl ?_
    refine VS.iload_n dL_acts_195 rfl ?_
    refine VS.bipush (64) dL_acts_196 rfl ?_
    refine VS.idiv dL_acts_198 (by decide) ?_
    refine VS.val (y := nI (m / 32 / 64)) (pk_div (d := 64) (by omega) (by decide) (by decide)) ?_
    refine VS.iconst (3) dL_acts_199 rfl ?_
    refine VS.irem dL_acts_200 (by decide) ?_
    refine VS.val (y := nI (m / 32 / 64 % 3)) (rem_n (d := 3) (by omega) (by decide) (by decide)) ?_
    refine VS.iload_n dL_acts_201 rfl ?_
    refine VS.iload dL_acts_202 rfl ?_
    refine VS.callT (hC) dL_acts_204 mi_X6_check im_X6_check sel_X6_check ml_L_35 (by decide) rfl rfl (rmOk_D (by decide) (by decide)) (Nat.le_of_ble_eq_true rfl) rfl ?_
    exact VS.iret dL_acts_207 (rfl) (fun _ _ => rfl)
set_option maxRecDepth 100000 in
set_option maxHeartbeats 1500000 in
theorem ac_check_11 (l : Launch) {M : SS} (hI : InvM M) {m : Nat} (hm : m < 2 ^ 31) (hc : m % 32 = 11) : ∃ (v : Int32) (M2 : SS), InvM M2 ∧ OpK l yL_acts cL_acts 9 (rmD 8) [.int (nI m)] M v M2 := by
  by_cases hg : M 1 6 = 0
  · refine act_lift (ok_road l (nI (m / 32 % 8)) (acB (m / 32))) (inv_road hI _ _) (fun S S2 h hC => ?_)
    refine CtF.of (own := RL) [some (.ref 0), some (.int (nI m)), none, none, none, none, none, none, none] (by decide +kernel) rfl (fun _ => Nat.le_of_ble_eq_true rfl) (fun _ => rfl) ?_
    refine ac_start hm ?_
    rw [hc]
    refine VS.tableIn 176 dL_acts_30 (by decide) (by decide) rfl (by decide) ?_
    refine VS.aload_n dL_acts_176 rfl ?_
    refine VS.iconst (2) dL_acts_177 rfl ?_
    refine VS.callT (ak_count l (c := 2) (by decide) S h) dL_acts_178 mi_X6_count im_X6_count sel_X6_count ml_L_23 (by decide) rfl rfl (rmOk_D (by decide) (by decide)) (Nat.le_of_ble_eq_true rfl) rfl ?_
    refine VS.val (y := M 1 6) (rfl) ?_
    refine VS.if_ne 194 dL_acts_181 (by decide) (fun hh => absurd (hg) hh) (fun _ => ?_)
    refine VS.aload_n dL_acts_184 rfl ?_
    refine VS.iload_n dL_acts_185 rfl ?_
    refine VS.iload dL_acts_186 rfl ?_
    refine VS.callT (hC) dL_acts_188 mi_X6_road im_X6_road sel_X6_road ml_L_26 (by decide) rfl rfl (rmOk_D (by decide) (by decide)) (Nat.le_of_ble_eq_true rfl) rfl ?_
    refine VS.goto 207 dL_acts_191 (by decide) ?_
    exact VS.iret dL_acts_207 (rfl) (fun _ _ => rfl)
  · refine act_lift (ok_check l (nI (m / 32 / 64 % 3)) (nI (m / 32 % 8)) (acB (m / 32))) (inv_check hI _ _ _) (fun S S2 h hC => ?_)
    refine CtF.of (own := RL) [some (.ref 0), some (.int (nI m)), none, none, none, none, none, none, none] (by decide +kernel) rfl (fun _ => Nat.le_of_ble_eq_true rfl) (fun _ => rfl) ?_
    refine ac_start hm ?_
    rw [hc]
    refine VS.tableIn 176 dL_acts_30 (by decide) (by decide) rfl (by decide) ?_
    refine VS.aload_n dL_acts_176 rfl ?_
    refine VS.iconst (2) dL_acts_177 rfl ?_
    refine VS.callT (ak_count l (c := 2) (by decide) S h) dL_acts_178 mi_X6_count im_X6_count sel_X6_count ml_L_23 (by decide) rfl rfl (rmOk_D (by decide) (by decide)) (Nat.le_of_ble_eq_true rfl) rfl ?_
    refine VS.val (y := M 1 6) (rfl) ?_
    refine VS.if_ne 194 dL_acts_181 (by decide) (fun _ => ?_) (fun hh => absurd hh (hg))
    refine VS.aload_n dL_acts_194 rfl ?_
    refine VS.iload_n dL_acts_195 rfl ?_
    refine VS.bipush (64) dL_acts_196 rfl ?_
    refine VS.idiv dL_acts_198 (by decide) ?_
    refine VS.val (y := nI (m / 32 / 64)) (pk_div (d := 64) (by omega) (by decide) (by decide)) ?_
    refine VS.iconst (3) dL_acts_199 rfl ?_
    refine VS.irem dL_acts_200 (by decide) ?_
    refine VS.val (y := nI (m / 32 / 64 % 3)) (rem_n (d := 3) (by omega) (by decide) (by decide)) ?_
    refine VS.iload_n dL_acts_201 rfl ?_
    refine VS.iload dL_acts_202 rfl ?_
    refine VS.callT (hC) dL_acts_204 mi_X6_check im_X6_check sel_X6_check ml_L_35 (by decide) rfl rfl (rmOk_D (by decide) (by decide)) (Nat.le_of_ble_eq_true rfl) rfl ?_
    exact VS.iret dL_acts_207 (rfl) (fun _ _ => rfl)
theorem chM_34 (M : SS) (bar : Int32) (s2 : Nat → Int32) : chM M bar s2 3 = M 3 ∧ chM M bar s2 4 = M 4 := by
  unfold chM; split <;> exact ⟨rfl, rfl⟩
theorem chV_m6 {bar val : Int32} (hb : ¬ bar < -6) (hv : 0 ≤ val) : ¬ chV bar val < -6 := by
  unfold chV; split
  · exact fun z => absurd (Int32.lt_of_le_of_lt hv z) (by decide)
  · exact hb
theorem wrE_m6 (a b : Int32) : ¬ wrE a b < -6 := by unfold wrE; split <;> (try split) <;> decide
theorem barR_m6 (s : Nat → Int32) (a b : Int32) : ¬ rBarRoad s a b < -6 := by
  unfold rBarRoad; split
  · split <;> decide
  · exact wrE_m6 _ _
theorem barC_m6 (s : Nat → Int32) (a b c : Int32) : ¬ rBarClaim s a b c < -6 := by
  unfold rBarClaim; split
  · split
    · split <;> decide
    · decide
  · exact wrE_m6 _ _
set_option maxRecDepth 100000 in
set_option maxHeartbeats 1500000 in
theorem ac_else (l : Launch) {M : SS} (hI : InvM M) {m : Nat} (hm : m < 2 ^ 31) (hc : 18 < m % 32) : ∃ (v : Int32) (M2 : SS), InvM M2 ∧ (M2 3 = M 3 ∧ M2 4 = M 4) ∧ ¬ v < -6 ∧ OpK l yL_acts cL_acts 9 (rmD 8) [.int (nI m)] M v M2 := by
  by_cases hg : M 1 6 = 0 ∧ 0 < m / 32 % 3
  · refine act_lift2 (ok_road l (nI (m / 32 % 8)) (acB (m / 32))) (inv_road hI _ _) (chM_34 _ _ _) (chV_m6 (barR_m6 _ _ _) (pcI_0 _)) (fun S S2 h hC => ?_)
    refine CtF.of (own := RL) [some (.ref 0), some (.int (nI m)), none, none, none, none, none, none, none] (by decide +kernel) rfl (fun _ => Nat.le_of_ble_eq_true rfl) (fun _ => rfl) ?_
    refine ac_start hm ?_
    refine VS.tableOut 481 dL_acts_30 (Or.inr (by rw [nI_toInt (by omega)]; omega)) (by decide) ?_
    refine VS.aload_n dL_acts_481 rfl ?_
    refine VS.iconst (2) dL_acts_482 rfl ?_
    refine VS.callT (ak_count l (c := 2) (by decide) S h) dL_acts_483 mi_X6_count im_X6_count sel_X6_count ml_L_23 (by decide) rfl rfl (rmOk_D (by decide) (by decide)) (Nat.le_of_ble_eq_true rfl) rfl ?_
    refine VS.val (y := M 1 6) (rfl) ?_
    refine VS.if_ne 505 dL_acts_486 (by decide) (fun hh => absurd (hg.1) hh) (fun _ => ?_)
    refine VS.iload_n dL_acts_489 rfl ?_
    refine VS.iconst (3) dL_acts_490 rfl ?_
    refine VS.irem dL_acts_491 (by decide) ?_
    refine VS.val (y := nI (m / 32 % 3)) (rem_n (d := 3) (by omega) (by decide) (by decide)) ?_
    refine VS.if_le 505 dL_acts_492 (by decide) (fun hh => absurd hh (nI_nle hg.2 (by omega))) (fun _ => ?_)
    refine VS.aload_n dL_acts_495 rfl ?_
    refine VS.iload_n dL_acts_496 rfl ?_
    refine VS.iload dL_acts_497 rfl ?_
    refine VS.callT (hC) dL_acts_499 mi_X6_road im_X6_road sel_X6_road ml_L_26 (by decide) rfl rfl (rmOk_D (by decide) (by decide)) (Nat.le_of_ble_eq_true rfl) rfl ?_
    refine VS.goto 518 dL_acts_502 (by decide) ?_
    exact VS.iret dL_acts_518 (rfl) (fun _ _ => rfl)
  · refine act_lift2 (ok_claim l (nI (m / 32 % 8)) (acB (m / 32)) (nI (m / 32 / 64 % 2))) (inv_claim hI _ _ _) (chM_34 _ _ _) (chV_m6 (barC_m6 _ _ _ _) (pcI_0 _)) (fun S S2 h hC => ?_)
    refine CtF.of (own := RL) [some (.ref 0), some (.int (nI m)), none, none, none, none, none, none, none] (by decide +kernel) rfl (fun _ => Nat.le_of_ble_eq_true rfl) (fun _ => rfl) ?_
    refine ac_start hm ?_
    refine VS.tableOut 481 dL_acts_30 (Or.inr (by rw [nI_toInt (by omega)]; omega)) (by decide) ?_
    by_cases h6 : M 1 6 = 0
    · refine VS.aload_n dL_acts_481 rfl ?_
      refine VS.iconst (2) dL_acts_482 rfl ?_
      refine VS.callT (ak_count l (c := 2) (by decide) S h) dL_acts_483 mi_X6_count im_X6_count sel_X6_count ml_L_23 (by decide) rfl rfl (rmOk_D (by decide) (by decide)) (Nat.le_of_ble_eq_true rfl) rfl ?_
      refine VS.val (y := M 1 6) (rfl) ?_
      refine VS.if_ne 505 dL_acts_486 (by decide) (fun hh => absurd (h6) hh) (fun _ => ?_)
      refine VS.iload_n dL_acts_489 rfl ?_
      refine VS.iconst (3) dL_acts_490 rfl ?_
      refine VS.irem dL_acts_491 (by decide) ?_
      refine VS.val (y := nI (m / 32 % 3)) (rem_n (d := 3) (by omega) (by decide) (by decide)) ?_
      refine VS.if_le 505 dL_acts_492 (by decide) (fun _ => ?_) (fun hh => absurd (by rw [show m / 32 % 3 = 0 from by apply Classical.byContradiction; intro z; exact hg ⟨h6, by omega⟩]; decide) hh)
      refine VS.aload_n dL_acts_505 rfl ?_
      refine VS.iload_n dL_acts_506 rfl ?_
      refine VS.iload dL_acts_507 rfl ?_
      refine VS.iload_n dL_acts_509 rfl ?_
      refine VS.bipush (64) dL_acts_510 rfl ?_
      refine VS.idiv dL_acts_512 (by decide) ?_
      refine VS.val (y := nI (m / 32 / 64)) (pk_div (d := 64) (by omega) (by decide) (by decide)) ?_
      refine VS.iconst (2) dL_acts_513 rfl ?_
      refine VS.irem dL_acts_514 (by decide) ?_
      refine VS.val (y := nI (m / 32 / 64 % 2)) (rem_n (d := 2) (by omega) (by decide) (by decide)) ?_
      refine VS.callT (hC) dL_acts_515 mi_X6_claim im_X6_claim sel_X6_claim ml_L_77 (by decide) rfl rfl (rmOk_D (by decide) (by decide)) (Nat.le_of_ble_eq_true rfl) rfl ?_
      exact VS.iret dL_acts_518 (rfl) (fun _ _ => rfl)
    · refine VS.aload_n dL_acts_481 rfl ?_
      refine VS.iconst (2) dL_acts_482 rfl ?_
      refine VS.callT (ak_count l (c := 2) (by decide) S h) dL_acts_483 mi_X6_count im_X6_count sel_X6_count ml_L_23 (by decide) rfl rfl (rmOk_D (by decide) (by decide)) (Nat.le_of_ble_eq_true rfl) rfl ?_
      refine VS.val (y := M 1 6) (rfl) ?_
      refine VS.if_ne 505 dL_acts_486 (by decide) (fun _ => ?_) (fun hh => absurd hh (h6))
      refine VS.aload_n dL_acts_505 rfl ?_
      refine VS.iload_n dL_acts_506 rfl ?_
      refine VS.iload dL_acts_507 rfl ?_
      refine VS.iload_n dL_acts_509 rfl ?_
      refine VS.bipush (64) dL_acts_510 rfl ?_
      refine VS.idiv dL_acts_512 (by decide) ?_
      refine VS.val (y := nI (m / 32 / 64)) (pk_div (d := 64) (by omega) (by decide) (by decide)) ?_
      refine VS.iconst (2) dL_acts_513 rfl ?_
      refine VS.irem dL_acts_514 (by decide) ?_
      refine VS.val (y := nI (m / 32 / 64 % 2)) (rem_n (d := 2) (by omega) (by decide) (by decide)) ?_
      refine VS.callT (hC) dL_acts_515 mi_X6_claim im_X6_claim sel_X6_claim ml_L_77 (by decide) rfl rfl (rmOk_D (by decide) (by decide)) (Nat.le_of_ble_eq_true rfl) rfl ?_
      exact VS.iret dL_acts_518 (rfl) (fun _ _ => rfl)
