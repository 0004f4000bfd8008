/-! the law's own walk: behind the loop; its beginning -/
set_option maxRecDepth 100000 in
set_option maxHeartbeats 2000000 in
theorem lw_round2 (l : Launch) {N : Nat} {xs : Nat → Int32} (hN : N ≤ 260) {cl sl : Nat} (hcl : cl ≤ 600000) (hsl : sl ≤ 7302250) {S Mo M0 : SS} {kp : Int32} (hI : InvM Mo) (e3 : Mo 3 = M0 3) (e4 : Mo 4 = M0 4) (ho : RelK S Mo) (hq : RelK (gm S 77) M0) {k : Nat} (hk : k < 5) (kk : ∀ S' M' : SS, InvM M' → M' 3 = M0 3 → M' 4 = M0 4 → RelK S' M' → RelK (gm S' 77) M0 → VS l room_1 RL cL_law 8 (XL N xs) cl sl 154 (shW sh2 S') 197 [some (.ref 200), some (.ref 0), some (.ref 77), some (.int 1), some (.int kp), some (.int kp), some (.int (nI (k + 1))), none] []) : VS l room_1 RL cL_law 8 (XL N xs) cl sl 154 (shW sh2 S) 197 [some (.ref 200), some (.ref 0), some (.ref 77), some (.int 1), some (.int kp), some (.int kp), some (.int (nI k)), none] [] := by
  obtain ⟨m1, hm1, em1⟩ : ∃ m1, m1 < 2 ^ 31 ∧ cellV N xs (44 + k) = nI m1 := and_max _
  obtain ⟨v, M2, hI2, ⟨h3, h4⟩, hv6, hop⟩ := ac_else l hI (m := m1 / 32 * 32 + 20) (by omega) (by omega)
  obtain ⟨S2, hC, hR⟩ := hop S ho
  refine VS.iload dL_law_197 rfl ?_
  refine VS.iconst (5) dL_law_199 rfl ?_
  refine VS.icmp_ge 250 dL_law_200 (by decide) (fun hh => absurd hh (nge5 hk)) (fun _ => ?_)
  refine VS.iload_n dL_law_203 rfl ?_
  refine VS.if_eq 250 dL_law_204 (by decide) (fun hh => absurd hh (by decide)) (fun _ => ?_)
  refine VS.aload_n dL_law_207 rfl ?_
  refine VS.aload_n dL_law_208 rfl ?_
  refine VS.bipush (44) dL_law_209 rfl ?_
  refine VS.iload dL_law_211 rfl ?_
  refine VS.iadd dL_law_213 ?_
  refine VS.val (y := nI (44 + k)) (nI_add 44 k) ?_
  refine VS.callX XL.sees (ct_L_cell l hN (by omega)) dL_law_214 mi_L_cell st_L_cell ml_L_116 (RmOk.law (by decide) (by decide) hcl hsl) (Nat.le_of_ble_eq_true rfl) rfl ?_
  refine VS.val (y := nI m1) (em1) ?_
  refine VS.bipush (32) dL_law_217 rfl ?_
  refine VS.idiv dL_law_219 (by decide) ?_
  refine VS.val (y := nI (m1 / 32)) (pk_div (d := 32) hm1 (by decide) (by decide)) ?_
  refine VS.bipush (32) dL_law_220 rfl ?_
  refine VS.imul dL_law_222 ?_
  refine VS.val (y := nI (m1 / 32 * 32)) (nI_mulN _ 32) ?_
  refine VS.bipush (20) dL_law_223 rfl ?_
  refine VS.iadd dL_law_225 ?_
  refine VS.val (y := nI (m1 / 32 * 32 + 20)) (nI_add _ 20) ?_
  refine VS.callRS (fun i => i) shi_o (hC) dL_law_226 mi_L_acts st_L_acts ml_L_120 (RmOk.law (by decide) (by decide) hcl hsl) (Nat.le_of_ble_eq_true rfl) rfl ?_
  refine VS.stt (mg_o2 S2 S) ?_
  refine VS.istore dL_law_229 (by decide) rfl ?_
  refine VS.iload dL_law_231 rfl ?_
  refine VS.bipush (-6) dL_law_233 rfl ?_
  refine VS.icmp_lt 242 dL_law_235 (by decide) (fun hh => absurd hh (hv6)) (fun _ => ?_)
  refine VS.iconst (1) dL_law_238 rfl ?_
  refine VS.goto 243 dL_law_239 (by decide) ?_
  refine VS.istore_n dL_law_243 (by decide) rfl ?_
  refine VS.iinc (nI (k + 1)) dL_law_244 rfl (by decide) (nI_1 k) rfl ?_
  refine VS.goto 197 dL_law_247 (by decide) ?_
  refine VS.forget 7 ?_
  exact kk (putG S 0 77 S2) M2 hI2 (h3.trans e3) (h4.trans e4) (ro_o hR) (ro_q hq)
theorem lw_loop2 (l : Launch) {N : Nat} {xs : Nat → Int32} (hN : N ≤ 260) {cl sl : Nat} (hcl : cl ≤ 600000) (hsl : sl ≤ 7302250) {M0 : SS} {kp : Int32} (kk : ∀ S' M' : SS, InvM M' → M' 3 = M0 3 → M' 4 = M0 4 → RelK S' M' → RelK (gm S' 77) M0 → VS l room_1 RL cL_law 8 (XL N xs) cl sl 154 (shW sh2 S') 250 [some (.ref 200), some (.ref 0), some (.ref 77), some (.int 1), some (.int kp), some (.int kp), some (.int (nI 5)), none] []) : ∀ (n k : Nat) (S Mo : SS), k + n = 5 → InvM Mo → Mo 3 = M0 3 → Mo 4 = M0 4 → RelK S Mo → RelK (gm S 77) M0 → VS l room_1 RL cL_law 8 (XL N xs) cl sl 154 (shW sh2 S) 197 [some (.ref 200), some (.ref 0), some (.ref 77), some (.int 1), some (.int kp), some (.int kp), some (.int (nI k)), none] []
  | 0, k, S, Mo, hk, hI, e3, e4, ho, hq => by
    have e : k = 5 := by omega
    subst e
    refine VS.iload dL_law_197 rfl ?_
    refine VS.iconst (5) dL_law_199 rfl ?_
    refine VS.icmp_ge 250 dL_law_200 (by decide) (fun _ => ?_) (fun hh => absurd (by decide) hh)
    exact kk S Mo hI e3 e4 ho hq
  | n + 1, k, S, Mo, hk, hI, e3, e4, ho, hq => lw_round2 l hN hcl hsl hI e3 e4 ho hq (by omega) (fun S' M' hI' e3' e4' ho' hq' => lw_loop2 l hN hcl hsl kk n (k + 1) S' M' (by omega) hI' e3' e4' ho' hq')
theorem sv_4 (M : SS) : ¬ mSave M 0 4 0 = 0 := by
  show ¬ upd (M 4) 0 1 0 = 0
  rw [upd_at]; decide
theorem sv_3 (M : SS) {k : Nat} (hk : k < 182) : mSave M 0 3 (182 * 0 + k) = M 1 k := by
  show putR (M 3) (M 1) (182 * 0) 182 (182 * 0 + k) = M 1 k
  rw [putR_in (by omega) (by omega)]; exact congrArg (M 1) (by omega)
theorem rs_v {M Mo : SS} (e3 : Mo 3 = mSave M 0 3) (e4 : Mo 4 = mSave M 0 4) : vRest Mo 0 = pcI (M 1 0) := by
  unfold vRest
  rw [e4, if_neg (sv_4 M), e3]
  exact congrArg pcI (sv_3 M (k := 0) (by decide))
theorem rs_1 {M Mo : SS} (e3 : Mo 3 = mSave M 0 3) (e4 : Mo 4 = mSave M 0 4) {k : Nat} (hk : k < 182) : mResK Mo 0 1 k = M 1 k := by
  unfold mResK
  rw [e4, if_neg (sv_4 M)]
  show putR (Mo 1) (fun k => Mo 3 (182 * 0 + k)) 0 182 k = M 1 k
  rw [putR_in (by omega) (by omega), e3]
  exact sv_3 M (k := k - 0) (by omega)
theorem rs_K {M Mo : SS} (e3 : Mo 3 = mSave M 0 3) (e4 : Mo 4 = mSave M 0 4) : pcI (rK (mResK Mo 0 1)) = pcI (rK (M 1)) := congrArg pcI (rK_congr (rs_1 e3 e4 (by decide)) (rs_1 e3 e4 (by decide)) (by rw [rs_1 e3 e4 (k := 6) (by decide)]))
theorem rs_C {M Mo : SS} (e3 : Mo 3 = mSave M 0 3) (e4 : Mo 4 = mSave M 0 4) : rClaims (mResK Mo 0 1) 1 = rClaims (M 1) 1 := by
  unfold rClaims; rw [rs_1 e3 e4 (k := 11 + 1) (by decide), rs_1 e3 e4 (k := 14 + 1) (by decide)]
set_option maxRecDepth 100000 in
set_option maxHeartbeats 2000000 in
theorem lw_last (l : Launch) {N : Nat} {xs : Nat → Int32} (hN : N ≤ 260) {cl sl : Nat} (hcl : cl ≤ 600000) (hsl : sl ≤ 7302250) {S M Mo : SS} (hI : InvM Mo) (e3 : Mo 3 = mSave M 0 3) (e4 : Mo 4 = mSave M 0 4) (ho : RelK S Mo) (hq : RelK (gm S 77) (mSave M 0)) : VS l room_1 RL cL_law 8 (XL N xs) cl sl 154 (shW sh2 S) 250 [some (.ref 200), some (.ref 0), some (.ref 77), some (.int 1), some (.int (pcI (M 1 0))), some (.int (pcI (M 1 0))), some (.int (nI 5)), none] [] := by
  obtain ⟨S1, hC1, hR1⟩ := ok_restore l (q := 0) (by decide) S ho
  obtain ⟨S2, hC2, hR2⟩ := ok_restore l (q := 0) (by decide) _ (ro_q (S2 := S1) hq)
  have ho2 := rq_o (S2 := S2) (ro_o (S := S) hR1)
  have hq2 := rq_q (S := putG S 0 77 S1) hR2
  have hI2 := inv_restore hI (q := 0) (by decide)
  refine VS.iload_n dL_law_250 rfl ?_
  refine VS.if_eq 348 dL_law_251 (by decide) (fun hh => absurd hh (by decide)) (fun _ => ?_)
  refine VS.iload dL_law_254 rfl ?_
  refine VS.iload dL_law_256 rfl ?_
  refine VS.icmp_ne 348 dL_law_258 (by decide) (fun hh => absurd (rfl) hh) (fun _ => ?_)
  refine VS.aload_n dL_law_261 rfl ?_
  refine VS.iconst (0) dL_law_262 rfl ?_
  refine VS.callR (fun i => i) shi_o (hC1) dL_law_263 mi_X6_restore im_X6_restore sel_X6_restore ml_L_45 (by decide) rfl rfl (RmOk.law (by decide) (by decide) hcl hsl) (Nat.le_of_ble_eq_true rfl) rfl ?_
  refine VS.stt (mg_o2 S1 S) ?_
  refine VS.val (y := pcI (M 1 0)) (rs_v e3 e4) ?_
  refine VS.iload dL_law_266 rfl ?_
  refine VS.icmp_ne 348 dL_law_268 (by decide) (fun hh => absurd (rfl) hh) (fun _ => ?_)
  refine VS.aload_n dL_law_271 rfl ?_
  refine VS.iconst (0) dL_law_272 rfl ?_
  refine VS.callR (fun i => 77 + i) shi_q (hC2) dL_law_273 mi_X6_restore im_X6_restore sel_X6_restore ml_L_45 (by decide) rfl rfl (RmOk.law (by decide) (by decide) hcl hsl) (Nat.le_of_ble_eq_true rfl) rfl ?_
  refine VS.stt (mg_off 77 77 S2 _) ?_
  refine VS.val (y := pcI (M 1 0)) (rs_v rfl rfl) ?_
  refine VS.iload dL_law_276 rfl ?_
  refine VS.icmp_ne 348 dL_law_278 (by decide) (fun hh => absurd (rfl) hh) (fun _ => ?_)
  refine VS.aload_n dL_law_281 rfl ?_
  refine VS.iconst (0) dL_law_282 rfl ?_
  refine VS.callR (fun i => i) shi_o (ak_count l (c := 0) (by decide) _ ho2) dL_law_283 mi_X6_count im_X6_count sel_X6_count ml_L_23 (by decide) rfl rfl (RmOk.law (by decide) (by decide) hcl hsl) (Nat.le_of_ble_eq_true rfl) rfl ?_
  refine VS.stt (mg_oi _) ?_
  refine VS.val (y := (mResK Mo 0 1) 7) (rfl) ?_
  refine VS.val (y := M 1 7) (rs_1 e3 e4 (k := 7) (by decide)) ?_
  refine VS.aload_n dL_law_286 rfl ?_
  refine VS.iconst (0) dL_law_287 rfl ?_
  refine VS.callR (fun i => 77 + i) shi_q (ak_count l (c := 0) (by decide) _ hq2) dL_law_288 mi_X6_count im_X6_count sel_X6_count ml_L_23 (by decide) rfl rfl (RmOk.law (by decide) (by decide) hcl hsl) (Nat.le_of_ble_eq_true rfl) rfl ?_
  refine VS.stt (mg_qi _) ?_
  refine VS.val (y := (mResK (mSave M 0) 0 1) 7) (rfl) ?_
  refine VS.val (y := M 1 7) (rs_1 rfl rfl (k := 7) (by decide)) ?_
  refine VS.icmp_ne 348 dL_law_291 (by decide) (fun hh => absurd (rfl) hh) (fun _ => ?_)
  refine VS.aload_n dL_law_294 rfl ?_
  refine VS.iconst (4) dL_law_295 rfl ?_
  refine VS.callR (fun i => i) shi_o (ak_count l (c := 4) (by decide) _ ho2) dL_law_296 mi_X6_count im_X6_count sel_X6_count ml_L_23 (by decide) rfl rfl (RmOk.law (by decide) (by decide) hcl hsl) (Nat.le_of_ble_eq_true rfl) rfl ?_
  refine VS.stt (mg_oi _) ?_
  refine VS.val (y := pcI (rK ((mResK Mo 0 1)))) (rfl) ?_
  refine VS.val (y := pcI (rK (M 1))) (rs_K e3 e4) ?_
  refine VS.aload_n dL_law_299 rfl ?_
  refine VS.iconst (4) dL_law_300 rfl ?_
  refine VS.callR (fun i => 77 + i) shi_q (ak_count l (c := 4) (by decide) _ hq2) dL_law_301 mi_X6_count im_X6_count sel_X6_count ml_L_23 (by decide) rfl rfl (RmOk.law (by decide) (by decide) hcl hsl) (Nat.le_of_ble_eq_true rfl) rfl ?_
  refine VS.stt (mg_qi _) ?_
  refine VS.val (y := pcI (rK ((mResK (mSave M 0) 0 1)))) (rfl) ?_
  refine VS.val (y := pcI (rK (M 1))) (rs_K rfl rfl) ?_
  refine VS.icmp_ne 348 dL_law_304 (by decide) (fun hh => absurd (rfl) hh) (fun _ => ?_)
  refine VS.aload_n dL_law_307 rfl ?_
  refine VS.iconst (0) dL_law_308 rfl ?_
  refine VS.iconst (0) dL_law_309 rfl ?_
  refine VS.callR (fun i => i) shi_o (ak_player l (p := 0) 0 (by decide) _ ho2) dL_law_310 mi_X6_player im_X6_player sel_X6_player ml_L_95 (by decide) rfl rfl (RmOk.law (by decide) (by decide) hcl hsl) (Nat.le_of_ble_eq_true rfl) rfl ?_
  refine VS.stt (mg_oi _) ?_
  refine VS.val (y := (mResK Mo 0 1) 8) (rfl) ?_
  refine VS.val (y := M 1 8) (rs_1 e3 e4 (k := 8) (by decide)) ?_
  refine VS.aload_n dL_law_313 rfl ?_
  refine VS.iconst (0) dL_law_314 rfl ?_
  refine VS.iconst (0) dL_law_315 rfl ?_
  refine VS.callR (fun i => 77 + i) shi_q (ak_player l (p := 0) 0 (by decide) _ hq2) dL_law_316 mi_X6_player im_X6_player sel_X6_player ml_L_95 (by decide) rfl rfl (RmOk.law (by decide) (by decide) hcl hsl) (Nat.le_of_ble_eq_true rfl) rfl ?_
  refine VS.stt (mg_qi _) ?_
  refine VS.val (y := (mResK (mSave M 0) 0 1) 8) (rfl) ?_
  refine VS.val (y := M 1 8) (rs_1 rfl rfl (k := 8) (by decide)) ?_
  refine VS.icmp_ne 348 dL_law_319 (by decide) (fun hh => absurd (rfl) hh) (fun _ => ?_)
  refine VS.aload_n dL_law_322 rfl ?_
  refine VS.iconst (1) dL_law_323 rfl ?_
  refine VS.iconst (1) dL_law_324 rfl ?_
  refine VS.callR (fun i => i) shi_o (ak_player l (p := 1) 1 (by decide) _ ho2) dL_law_325 mi_X6_player im_X6_player sel_X6_player ml_L_95 (by decide) rfl rfl (RmOk.law (by decide) (by decide) hcl hsl) (Nat.le_of_ble_eq_true rfl) rfl ?_
  refine VS.stt (mg_oi _) ?_
  refine VS.val (y := rClaims ((mResK Mo 0 1)) 1) (rfl) ?_
  refine VS.val (y := rClaims (M 1) 1) (rs_C e3 e4) ?_
  refine VS.aload_n dL_law_328 rfl ?_
  refine VS.iconst (1) dL_law_329 rfl ?_
  refine VS.iconst (1) dL_law_330 rfl ?_
  refine VS.callR (fun i => 77 + i) shi_q (ak_player l (p := 1) 1 (by decide) _ hq2) dL_law_331 mi_X6_player im_X6_player sel_X6_player ml_L_95 (by decide) rfl rfl (RmOk.law (by decide) (by decide) hcl hsl) (Nat.le_of_ble_eq_true rfl) rfl ?_
  refine VS.stt (mg_qi _) ?_
  refine VS.val (y := rClaims ((mResK (mSave M 0) 0 1)) 1) (rfl) ?_
  refine VS.val (y := rClaims (M 1) 1) (rs_C rfl rfl) ?_
  refine VS.icmp_ne 348 dL_law_334 (by decide) (fun hh => absurd (rfl) hh) (fun _ => ?_)
  refine VS.aload_n dL_law_337 rfl ?_
  refine VS.callRS (fun i => i) shi_o (ct_L_hangs l ho2 hI2) dL_law_338 mi_L_hangs st_L_hangs ml_L_110 (RmOk.law (by decide) (by decide) hcl hsl) (Nat.le_of_ble_eq_true rfl) rfl ?_
  refine VS.stt (mg_oi _) ?_
  refine VS.if_eq 348 dL_law_341 (by decide) (fun hh => absurd hh (by decide)) (fun _ => ?_)
  refine VS.iconst (1) dL_law_344 rfl ?_
  refine VS.goto 349 dL_law_345 (by decide) ?_
  exact VS.lwret hcl hsl dL_law_349
set_option maxRecDepth 100000 in
set_option maxHeartbeats 2000000 in
theorem lw_tail (l : Launch) {N : Nat} {xs : Nat → Int32} (hN : N ≤ 260) {cl sl : Nat} (hcl : cl ≤ 600000) (hsl : sl ≤ 7302250) {S M : SS} (hI : InvM M) (ho : RelK S M) (hq : RelK (gm S 77) M) : VS l room_1 RL cL_law 8 (XL N xs) cl sl 154 (shW sh2 S) 180 [some (.ref 200), some (.ref 0), some (.ref 77), some (.int 1), some (.int (nI 44)), none, none, none] [] := by
  obtain ⟨S1, hC1, hR1⟩ := ok_save l (q := 0) (by decide) S ho
  obtain ⟨S2, hC2, hR2⟩ := ok_save l (q := 0) (by decide) _ (ro_q (S2 := S1) hq)
  refine VS.aload_n dL_law_180 rfl ?_
  refine VS.iconst (0) dL_law_181 rfl ?_
  refine VS.callR (fun i => i) shi_o (hC1) dL_law_182 mi_X6_save im_X6_save sel_X6_save ml_L_42 (by decide) rfl rfl (RmOk.law (by decide) (by decide) hcl hsl) (Nat.le_of_ble_eq_true rfl) rfl ?_
  refine VS.stt (mg_o2 S1 S) ?_
  refine VS.istore dL_law_185 (by decide) rfl ?_
  refine VS.aload_n dL_law_187 rfl ?_
  refine VS.iconst (0) dL_law_188 rfl ?_
  refine VS.callR (fun i => 77 + i) shi_q (hC2) dL_law_189 mi_X6_save im_X6_save sel_X6_save ml_L_42 (by decide) rfl rfl (RmOk.law (by decide) (by decide) hcl hsl) (Nat.le_of_ble_eq_true rfl) rfl ?_
  refine VS.stt (mg_off 77 77 S2 _) ?_
  refine VS.istore dL_law_192 (by decide) rfl ?_
  refine VS.iconst (0) dL_law_194 rfl ?_
  refine VS.istore dL_law_195 (by decide) rfl ?_
  exact lw_loop2 l hN hcl hsl (M0 := mSave M 0) (fun S' M' hI' e3 e4 ho' hq' => lw_last l hN hcl hsl hI' e3 e4 ho' hq') 5 0 _ (mSave M 0) rfl (inv_save hI (by decide)) rfl rfl (rq_o (ro_o hR1)) (rq_q hR2)
set_option maxRecDepth 100000 in
set_option maxHeartbeats 2000000 in
theorem law_start (l : Launch) {N : Nat} {xs : Nat → Int32} (hN : N ≤ 260) (g : Nat → va_E) : VS l room_1 RL cL_law 8 (XL N xs) 0 0 0 g 0 [some (.ref 200), none, none, none, none, none, none, none] [] := by
  refine VC.start (fun k hk => absurd hk (Nat.not_lt_zero _)) ?_
  refine VC.new 5 fsX6 dL_law_0 uw_X6 tyX6 tyX6_ok rfl cl_L_10 ins_X6 ini_X6 (fun j hj => by rcases (show j = 0 ∨ j = 1 ∨ j = 2 ∨ j = 3 ∨ j = 4 by omega) with rfl | rfl | rfl | rfl | rfl <;> rfl) rfl XL.g (by decide) XL.new (by decide) rfl rfl ?_
  refine VC.lift (VS.dup dL_law_3 rfl) ?_
  refine VC.callI (ct_X6_init l) dL_law_4 mi_X6_init rfl im_X6_init ml_L_109 ⟨⟨by decide, by decide⟩, ⟨rfl, rfl⟩, by decide, by decide⟩ (Nat.le_of_ble_eq_true rfl) rfl (fun _ _ _ => rfl) XL.g XL.new (by decide) (by decide) clo_X6 rfl rfl ?_
  refine VC.lift (VS.astore_n dL_law_7 (by decide) rfl) ?_
  refine VC.new 5 fsX6 dL_law_8 uw_X6 tyX6 tyX6_ok rfl cl_L_10 ins_X6 ini_X6 (fun j hj => by rcases (show j = 0 ∨ j = 1 ∨ j = 2 ∨ j = 3 ∨ j = 4 by omega) with rfl | rfl | rfl | rfl | rfl <;> rfl) rfl XL.g (by decide) XL.new (by decide) rfl rfl ?_
  refine VC.lift (VS.dup dL_law_11 rfl) ?_
  refine VC.callI (ct_X6_init l) dL_law_12 mi_X6_init rfl im_X6_init ml_L_109 ⟨⟨by decide, by decide⟩, ⟨rfl, rfl⟩, by decide, by decide⟩ (Nat.le_of_ble_eq_true rfl) rfl (fun _ _ _ => rfl) XL.g XL.new (by decide) (by decide) clo_X6 rfl rfl ?_
  refine VC.lift (VS.astore_n dL_law_15 (by decide) rfl) ?_
  refine VC.drop ?_
  refine VS.heap law_world ?_
  refine VS.aload_n dL_law_16 rfl ?_
  refine VS.callR (fun i => i) shi_o (ct_X6_undo_no l sL2 (f := 0) (by decide) rfl rfl) dL_law_17 mi_X6_undo im_X6_undo sel_X6_undo ml_L_39 (by decide) rfl rfl (RmOk.law (by decide) (by decide) (by decide) (by decide)) (Nat.le_of_ble_eq_true rfl) rfl ?_
  refine VS.stt (mg_oi sL2) ?_
  refine VS.bipush (-5) dL_law_20 rfl ?_
  refine VS.icmp_ne 62 dL_law_22 (by decide) (fun hh => absurd (rfl) hh) (fun _ => ?_)
  refine VS.aload_n dL_law_25 rfl ?_
  refine VS.iconst (0) dL_law_26 rfl ?_
  refine VS.callR (fun i => i) shi_o (ct_X6_restore_no0 l sL2 rfl) dL_law_27 mi_X6_restore im_X6_restore sel_X6_restore ml_L_45 (by decide) rfl rfl (RmOk.law (by decide) (by decide) (by decide) (by decide)) (Nat.le_of_ble_eq_true rfl) rfl ?_
  refine VS.stt (mg_oi sL2) ?_
  refine VS.bipush (-5) dL_law_30 rfl ?_
  refine VS.icmp_ne 62 dL_law_32 (by decide) (fun hh => absurd (rfl) hh) (fun _ => ?_)
  refine VS.aload_n dL_law_35 rfl ?_
  refine VS.callR (fun i => i) shi_o (r0_fault l r0_o) dL_law_36 mi_X6_fault im_X6_fault sel_X6_fault ml_L_71 (by decide) rfl rfl (RmOk.law (by decide) (by decide) (by decide) (by decide)) (Nat.le_of_ble_eq_true rfl) rfl ?_
  refine VS.stt (mg_oi sL2) ?_
  refine VS.if_ne 62 dL_law_39 (by decide) (fun hh => absurd (rfl) hh) (fun _ => ?_)
  refine VS.aload_n dL_law_42 rfl ?_
  refine VS.callR (fun i => i) shi_o (r0_carry l r0_o) dL_law_43 mi_X6_carryOut im_X6_carryOut sel_X6_carryOut ml_L_74 (by decide) rfl rfl (RmOk.law (by decide) (by decide) (by decide) (by decide)) (Nat.le_of_ble_eq_true rfl) rfl ?_
  refine VS.stt (mg_oi sL2) ?_
  refine VS.bipush (-3) dL_law_46 rfl ?_
  refine VS.icmp_ne 62 dL_law_48 (by decide) (fun hh => absurd (rfl) hh) (fun _ => ?_)
  refine VS.aload_n dL_law_51 rfl ?_
  refine VS.callRS (fun i => i) shi_o (ct_L_hangs l r0_o.toK inv0) dL_law_52 mi_L_hangs st_L_hangs ml_L_110 (RmOk.law (by decide) (by decide) (by decide) (by decide)) (Nat.le_of_ble_eq_true rfl) rfl ?_
  refine VS.stt (mg_oi sL2) ?_
  refine VS.if_eq 62 dL_law_55 (by decide) (fun hh => absurd hh (by decide)) (fun _ => ?_)
  refine VS.iconst (1) dL_law_58 rfl ?_
  refine VS.goto 63 dL_law_59 (by decide) ?_
  refine VS.istore_n dL_law_63 (by decide) rfl ?_
  refine VS.iconst (0) dL_law_64 rfl ?_
  refine VS.istore dL_law_65 (by decide) rfl ?_
  exact lw_loop1 l hN (by decide) (by decide) (fun S' M' hI' ho' hq' => lw_tail l hN (by decide) (by decide) hI' ho' hq') 44 0 sL2 mG0 rfl inv0 r0_o.toK r0_q.toK
