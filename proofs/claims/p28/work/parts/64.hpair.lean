set_option maxRecDepth 100000 in
set_option maxHeartbeats 1500000 in
theorem hg_pair1 (l : Launch) {S M : SS} (hS : RelK S M) (hx : GX (M 1)) {gm tu un dg : Int32} (hgm : gm = M 1 6) {a b : Nat} (ha : a < 8) (hb : b < 8) (hne : a ≠ b) {al ye no ow rv wy : Int32} (hal : al = rSeen (M 1) (nI (ek a b))) (hye : ye = clJ (M 1) 11 (nI (ek a b)) 3) (hno : no = clJ (M 1) 14 (nI (ek a b)) 3) (how : ow = sb (M 1 0) (nI (ek a b))) (hrv : rv = sb (M 1 17) (nI (ek a b))) (hwy : wy = wayV (M 1) a b) (hc : (al = -6 ∧ bt (rK (M 1)) (ek a b) = false ∧ bt (rTh (M 1)) (ek a b) = false) ∨ (al = 1 ∧ bt (rK (M 1)) (ek a b) = true ∧ bt (rTh (M 1)) (ek a b) = true ∧ ow = 1) ∨ (al = 0 ∧ bt (rK (M 1)) (ek a b) = true ∧ bt (rTh (M 1)) (ek a b) = false ∧ ow = 0)) (kk : VS l (rmD 6) RL cL_hangs 22 (XF (some .boolean) 77 (some (.int 1)) (shW shK S)) 0 0 77 (shW shK S) 358 [some (.ref 0), some (.int gm), some (.int tu), some (.int 1), some (.int (nI (sm (bt (rK (M 1))) (lp (8 * a + b))))), some (.int (nI (sm (bt (rTh (M 1))) (lp (8 * a + b))))), some (.int (nI (sm (bt (M 1 17)) (lp (8 * a + b))))), some (.int (nI (clA (M 1) (lp (8 * a + b)) (lp (8 * a + b)) (lp (8 * a + b))))), some (.int un), some (.int dg), some (.int (nI (sm (bt (M 1 0)) (lq (8 * a + b))))), some (.int (nI a)), some (.int (nI (sm (bt (rTh (M 1))) (lr a b)))), some (.int (nI (sm (nkB (M 1)) (lr a b)))), some (.int (ngJ (rTh (M 1)) a b)), some (.int (nI b)), some (.int (nI (ek a b))), some (.int al), some (.int ye), some (.int no), some (.int ow), none] []) : VS l (rmD 6) RL cL_hangs 22 (XF (some .boolean) 77 (some (.int 1)) (shW shK S)) 0 0 77 (shW shK S) 126 [some (.ref 0), some (.int gm), some (.int tu), some (.int 1), some (.int (nI (sm (bt (rK (M 1))) (lp (8 * a + b))))), some (.int (nI (sm (bt (rTh (M 1))) (lp (8 * a + b))))), some (.int (nI (sm (bt (M 1 17)) (lp (8 * a + b))))), some (.int (nI (clA (M 1) (lp (8 * a + b)) (lp (8 * a + b)) (lp (8 * a + b))))), some (.int un), some (.int dg), some (.int (nI (sm (bt (M 1 0)) (lq (8 * a + b))))), some (.int (nI a)), some (.int (nI (sm (bt (rTh (M 1))) (lr a b)))), some (.int (nI (sm (nkB (M 1)) (lr a b)))), some (.int (ngJ (rTh (M 1)) a b)), some (.int (nI b)), none, none, none, none, none, none] [] := by
  obtain ⟨he, hk, hsy, hw⟩ := ek_ok a ha b hb hne
  obtain ⟨he2, -, -, hw2⟩ := ek_ok b hb a ha (Ne.symm hne)
  rw [hsy] at he2
  have hyn : ye &&& no = 0 := by rw [hye, hno]; exact yn_0 hx.1 hk
  have hye2 := yn_r (M 1) 11 hk
  have hno2 := yn_r (M 1) 14 hk
  rw [← hye] at hye2
  rw [← hno] at hno2
  have how2 : ow = 0 ∨ ow = 1 := how ▸ sb_01 _ _
  have hao : ¬ al = -6 → al = ow := fun z => by
    rcases hc with ⟨e, -⟩ | ⟨e, -, -, e4⟩ | ⟨e, -, -, e4⟩
    · exact absurd e z
    · rw [e, e4]
    · rw [e, e4]
  have hK0 : bt (rK (M 1)) (ek a b) = true → ¬ al < 0 := fun z => by
    rcases hc with ⟨-, e, -⟩ | ⟨e, -⟩ | ⟨e, -⟩
    · rw [e] at z; exact absurd z (by decide)
    · rw [e]; decide
    · rw [e]; decide
  have hK1 : bt (rK (M 1)) (ek a b) = false → al < 0 := fun z => by
    rcases hc with ⟨e, -⟩ | ⟨-, e, -⟩ | ⟨-, e, -⟩
    · rw [e]; decide
    · rw [e] at z; exact absurd z (by decide)
    · rw [e] at z; exact absurd z (by decide)
  have hrv2 : ¬ rv = 0 → ¬ al < 0 := fun z => hK0 ((rev_known hx hk).resolve_left (fun y => z (hrv.trans y)))
  have hsh : ¬ gm = 0 → (bt (rK (M 1)) (ek a b) = true → rShows (M 1) (nI a) (nI b) = 0) ∧ (bt (rK (M 1)) (ek a b) = false → ¬ rShows (M 1) (nI a) (nI b) = 0) := fun z => shows_c ((stage_n hx.1).mp (hgm ▸ z)) he hw hk
  refine VS.aload_n dL_hangs_126 rfl ?_
  refine VS.iload dL_hangs_127 rfl ?_
  refine VS.iload dL_hangs_129 rfl ?_
  refine VS.iconst (0) dL_hangs_131 rfl ?_
  refine VS.callT (ak_ofRoad l 0 hw S hS) dL_hangs_132 mi_X6_ofRoad im_X6_ofRoad sel_X6_ofRoad ml_L_80 (by decide) rfl rfl (rmOk_D (by decide) (by decide)) (Nat.le_of_ble_eq_true rfl) rfl ?_
  refine VS.val (y := nI (ek a b)) (he) ?_
  refine VS.istore dL_hangs_135 (by decide) rfl ?_
  refine VS.aload_n dL_hangs_137 rfl ?_
  refine VS.iload dL_hangs_138 rfl ?_
  refine VS.iload dL_hangs_140 rfl ?_
  refine VS.iconst (3) dL_hangs_142 rfl ?_
  refine VS.callT (ak_ofRoad l 3 hw S hS) dL_hangs_143 mi_X6_ofRoad im_X6_ofRoad sel_X6_ofRoad ml_L_80 (by decide) rfl rfl (rmOk_D (by decide) (by decide)) (Nat.le_of_ble_eq_true rfl) rfl ?_
  refine VS.val (y := al) ((congrArg (rSeen (M 1)) he).trans hal.symm) ?_
  refine VS.istore dL_hangs_146 (by decide) rfl ?_
  refine VS.aload_n dL_hangs_148 rfl ?_
  refine VS.iload dL_hangs_149 rfl ?_
  refine VS.iload dL_hangs_151 rfl ?_
  refine VS.iconst (4) dL_hangs_153 rfl ?_
  refine VS.callT (ak_ofRoad l 4 hw S hS) dL_hangs_154 mi_X6_ofRoad im_X6_ofRoad sel_X6_ofRoad ml_L_80 (by decide) rfl rfl (rmOk_D (by decide) (by decide)) (Nat.le_of_ble_eq_true rfl) rfl ?_
  refine VS.val (y := ye) ((congrArg (fun z => clJ (M 1) 11 z 3) he).trans hye.symm) ?_
  refine VS.istore dL_hangs_157 (by decide) rfl ?_
  refine VS.aload_n dL_hangs_159 rfl ?_
  refine VS.iload dL_hangs_160 rfl ?_
  refine VS.iload dL_hangs_162 rfl ?_
  refine VS.iconst (5) dL_hangs_164 rfl ?_
  refine VS.callT (ak_ofRoad l 5 hw S hS) dL_hangs_165 mi_X6_ofRoad im_X6_ofRoad sel_X6_ofRoad ml_L_80 (by decide) rfl rfl (rmOk_D (by decide) (by decide)) (Nat.le_of_ble_eq_true rfl) rfl ?_
  refine VS.val (y := no) ((congrArg (fun z => clJ (M 1) 14 z 3) he).trans hno.symm) ?_
  refine VS.istore dL_hangs_168 (by decide) rfl ?_
  refine VS.nf [some (.ref 0), some (.int gm), some (.int tu), some (.int 1), some (.int (nI (sm (bt (rK (M 1))) (lp (8 * a + b))))), some (.int (nI (sm (bt (rTh (M 1))) (lp (8 * a + b))))), some (.int (nI (sm (bt (M 1 17)) (lp (8 * a + b))))), some (.int (nI (clA (M 1) (lp (8 * a + b)) (lp (8 * a + b)) (lp (8 * a + b))))), some (.int un), some (.int dg), some (.int (nI (sm (bt (M 1 0)) (lq (8 * a + b))))), some (.int (nI a)), some (.int (nI (sm (bt (rTh (M 1))) (lr a b)))), some (.int (nI (sm (nkB (M 1)) (lr a b)))), some (.int (ngJ (rTh (M 1)) a b)), some (.int (nI b)), some (.int (nI (ek a b))), some (.int al), some (.int ye), some (.int no), none, none] rfl ?_
  refine VS.aload_n dL_hangs_170 rfl ?_
  refine VS.iload dL_hangs_171 rfl ?_
  refine VS.iconst (3) dL_hangs_173 rfl ?_
  refine VS.irem dL_hangs_174 (by decide) ?_
  refine VS.val (y := nI (ek a b % 3)) (rem3_k hk) ?_
  refine VS.iload dL_hangs_175 rfl ?_
  refine VS.iload dL_hangs_177 rfl ?_
  refine VS.callT (ak_knows l (Nat.mod_lt _ (by decide)) hw S hS) dL_hangs_179 mi_X6_knows im_X6_knows sel_X6_knows ml_L_83 (by decide) rfl rfl (rmOk_D (by decide) (by decide)) (Nat.le_of_ble_eq_true rfl) rfl ?_
  refine VS.val (y := ow) ((knows_own he hk).trans how.symm) ?_
  refine VS.istore dL_hangs_182 (by decide) rfl ?_
  refine VS.iload dL_hangs_184 rfl ?_
  refine VS.if_lt 356 dL_hangs_186 (by decide) (fun hh => absurd hh (nI_pos (by omega))) (fun _ => ?_)
  refine VS.iload dL_hangs_189 rfl ?_
  refine VS.bipush (28) dL_hangs_191 rfl ?_
  refine VS.icmp_ge 356 dL_hangs_193 (by decide) (fun hh => absurd hh (nI_ge (b := 28) hk (by decide))) (fun _ => ?_)
  refine VS.aload_n dL_hangs_196 rfl ?_
  refine VS.iload dL_hangs_197 rfl ?_
  refine VS.iload dL_hangs_199 rfl ?_
  refine VS.iconst (0) dL_hangs_201 rfl ?_
  refine VS.callT (ak_ofRoad l 0 hw2 S hS) dL_hangs_202 mi_X6_ofRoad im_X6_ofRoad sel_X6_ofRoad ml_L_80 (by decide) rfl rfl (rmOk_D (by decide) (by decide)) (Nat.le_of_ble_eq_true rfl) rfl ?_
  refine VS.val (y := nI (ek a b)) (he2) ?_
  refine VS.iload dL_hangs_205 rfl ?_
  refine VS.icmp_ne 356 dL_hangs_207 (by decide) (fun hh => absurd (rfl) hh) (fun _ => ?_)
  refine VS.aload_n dL_hangs_210 rfl ?_
  refine VS.iload dL_hangs_211 rfl ?_
  refine VS.iload dL_hangs_213 rfl ?_
  refine VS.iconst (1) dL_hangs_215 rfl ?_
  refine VS.callT (ak_ofRoad l 1 hw S hS) dL_hangs_216 mi_X6_ofRoad im_X6_ofRoad sel_X6_ofRoad ml_L_80 (by decide) rfl rfl (rmOk_D (by decide) (by decide)) (Nat.le_of_ble_eq_true rfl) rfl ?_
  refine VS.val (y := nI (ek a b % 3)) ((congrArg rem3 he).trans (rem3_k hk)) ?_
  refine VS.iload dL_hangs_219 rfl ?_
  refine VS.iconst (3) dL_hangs_221 rfl ?_
  refine VS.irem dL_hangs_222 (by decide) ?_
  refine VS.val (y := nI (ek a b % 3)) (rem3_k hk) ?_
  refine VS.icmp_ne 356 dL_hangs_223 (by decide) (fun hh => absurd (rfl) hh) (fun _ => ?_)
  refine VS.iload dL_hangs_226 rfl ?_
  refine VS.iload dL_hangs_228 rfl ?_
  refine VS.iand dL_hangs_230 ?_
  refine VS.if_ne 356 dL_hangs_231 (by decide) (fun hh => absurd (hyn) hh) (fun _ => ?_)
  refine VS.iload dL_hangs_234 rfl ?_
  refine VS.if_lt 356 dL_hangs_236 (by decide) (fun hh => absurd hh (Int32.not_lt.mpr hye2.1)) (fun _ => ?_)
  refine VS.iload dL_hangs_239 rfl ?_
  refine VS.bipush (8) dL_hangs_241 rfl ?_
  refine VS.icmp_ge 356 dL_hangs_243 (by decide) (fun hh => absurd hh (Int32.not_le.mpr hye2.2)) (fun _ => ?_)
  refine VS.iload dL_hangs_246 rfl ?_
  refine VS.if_lt 356 dL_hangs_248 (by decide) (fun hh => absurd hh (Int32.not_lt.mpr hno2.1)) (fun _ => ?_)
  refine VS.iload dL_hangs_251 rfl ?_
  refine VS.bipush (8) dL_hangs_253 rfl ?_
  refine VS.icmp_ge 356 dL_hangs_255 (by decide) (fun hh => absurd hh (Int32.not_le.mpr hno2.2)) (fun _ => ?_)
  refine VS.nf [some (.ref 0), some (.int gm), some (.int tu), some (.int 1), some (.int (nI (sm (bt (rK (M 1))) (lp (8 * a + b))))), some (.int (nI (sm (bt (rTh (M 1))) (lp (8 * a + b))))), some (.int (nI (sm (bt (M 1 17)) (lp (8 * a + b))))), some (.int (nI (clA (M 1) (lp (8 * a + b)) (lp (8 * a + b)) (lp (8 * a + b))))), some (.int un), some (.int dg), some (.int (nI (sm (bt (M 1 0)) (lq (8 * a + b))))), some (.int (nI a)), some (.int (nI (sm (bt (rTh (M 1))) (lr a b)))), some (.int (nI (sm (nkB (M 1)) (lr a b)))), some (.int (ngJ (rTh (M 1)) a b)), some (.int (nI b)), some (.int (nI (ek a b))), some (.int al), some (.int ye), some (.int no), some (.int ow), none] rfl ?_
  refine VS.joinB 269 [] (fun k269 => ?_) ?_
  · refine VS.iload dL_hangs_258 rfl ?_
    refine VS.if_eq 269 dL_hangs_260 (by decide) (fun h_260 => ?_) (fun h_260 => ?_)
    · exact k269
    · refine VS.iload dL_hangs_263 rfl ?_
      refine VS.iconst (1) dL_hangs_265 rfl ?_
      refine VS.icmp_ne 356 dL_hangs_266 (by decide) (fun hh => absurd (how2.resolve_left h_260) hh) (fun _ => ?_)
      exact k269
  refine VS.joinB 283 [] (fun k283 => ?_) ?_
  · refine VS.iload dL_hangs_269 rfl ?_
    refine VS.bipush (-6) dL_hangs_271 rfl ?_
    refine VS.icmp_eq 283 dL_hangs_273 (by decide) (fun h_273 => ?_) (fun h_273 => ?_)
    · exact k283
    · refine VS.iload dL_hangs_276 rfl ?_
      refine VS.iload dL_hangs_278 rfl ?_
      refine VS.icmp_ne 356 dL_hangs_280 (by decide) (fun hh => absurd (hao h_273) hh) (fun _ => ?_)
      exact k283
  refine VS.joinB 300 [] (fun k300 => ?_) ?_
  · refine VS.aload_n dL_hangs_283 rfl ?_
    refine VS.iload dL_hangs_284 rfl ?_
    refine VS.iload dL_hangs_286 rfl ?_
    refine VS.iconst (2) dL_hangs_288 rfl ?_
    refine VS.callT (ak_ofRoad l 2 hw S hS) dL_hangs_289 mi_X6_ofRoad im_X6_ofRoad sel_X6_ofRoad ml_L_80 (by decide) rfl rfl (rmOk_D (by decide) (by decide)) (Nat.le_of_ble_eq_true rfl) rfl ?_
    refine VS.val (y := rv) ((congrArg (sb (M 1 17)) he).trans hrv.symm) ?_
    refine VS.if_eq 300 dL_hangs_292 (by decide) (fun h_292 => ?_) (fun h_292 => ?_)
    · exact k300
    · refine VS.iload dL_hangs_295 rfl ?_
      refine VS.if_lt 356 dL_hangs_297 (by decide) (fun hh => absurd hh (hrv2 h_292)) (fun _ => ?_)
      exact k300
  refine VS.aload_n dL_hangs_300 rfl ?_
  refine VS.iload dL_hangs_301 rfl ?_
  refine VS.iconst (1) dL_hangs_303 rfl ?_
  refine VS.iadd dL_hangs_304 ?_
  refine VS.iconst (3) dL_hangs_305 rfl ?_
  refine VS.irem dL_hangs_306 (by decide) ?_
  refine VS.val (y := nI ((ek a b + 1) % 3)) (rem3_k1 hk) ?_
  refine VS.iload dL_hangs_307 rfl ?_
  refine VS.iload dL_hangs_309 rfl ?_
  refine VS.callT (ak_knows l (Nat.mod_lt _ (by decide)) hw S hS) dL_hangs_311 mi_X6_knows im_X6_knows sel_X6_knows ml_L_83 (by decide) rfl rfl (rmOk_D (by decide) (by decide)) (Nat.le_of_ble_eq_true rfl) rfl ?_
  refine VS.val (y := al) ((knows_next he hk).trans hal.symm) ?_
  refine VS.iload dL_hangs_314 rfl ?_
  refine VS.icmp_ne 356 dL_hangs_316 (by decide) (fun hh => absurd (rfl) hh) (fun _ => ?_)
  refine VS.joinB 352 [] (fun k352 => ?_) ?_
  · rcases bool_c (bt (rK (M 1)) (ek a b)) with hK | hK
    · refine VS.iload_n dL_hangs_319 rfl ?_
      refine VS.if_eq 352 dL_hangs_320 (by decide) (fun h_320 => ?_) (fun h_320 => ?_)
      · exact k352
      · refine VS.aload_n dL_hangs_323 rfl ?_
        refine VS.iload dL_hangs_324 rfl ?_
        refine VS.iload dL_hangs_326 rfl ?_
        refine VS.callT (ak_shows l _ _ S hS) dL_hangs_328 mi_X6_shows im_X6_shows sel_X6_shows ml_L_86 (by decide) rfl rfl (rmOk_D (by decide) (by decide)) (Nat.le_of_ble_eq_true rfl) rfl ?_
        refine VS.if_ne 338 dL_hangs_331 (by decide) (fun hh => absurd ((hsh h_320).1 hK) hh) (fun _ => ?_)
        refine VS.iconst (1) dL_hangs_334 rfl ?_
        refine VS.goto 339 dL_hangs_335 (by decide) ?_
        refine VS.iload dL_hangs_339 rfl ?_
        refine VS.if_lt 348 dL_hangs_341 (by decide) (fun hh => absurd hh (hK0 hK)) (fun _ => ?_)
        refine VS.iconst (1) dL_hangs_344 rfl ?_
        refine VS.goto 349 dL_hangs_345 (by decide) ?_
        refine VS.icmp_ne 356 dL_hangs_349 (by decide) (fun hh => absurd (rfl) hh) (fun _ => ?_)
        exact k352
    · refine VS.iload_n dL_hangs_319 rfl ?_
      refine VS.if_eq 352 dL_hangs_320 (by decide) (fun h_320 => ?_) (fun h_320 => ?_)
      · exact k352
      · refine VS.aload_n dL_hangs_323 rfl ?_
        refine VS.iload dL_hangs_324 rfl ?_
        refine VS.iload dL_hangs_326 rfl ?_
        refine VS.callT (ak_shows l _ _ S hS) dL_hangs_328 mi_X6_shows im_X6_shows sel_X6_shows ml_L_86 (by decide) rfl rfl (rmOk_D (by decide) (by decide)) (Nat.le_of_ble_eq_true rfl) rfl ?_
        refine VS.if_ne 338 dL_hangs_331 (by decide) (fun _ => ?_) (fun hh => absurd hh ((hsh h_320).2 hK))
        refine VS.iconst (0) dL_hangs_338 rfl ?_
        refine VS.iload dL_hangs_339 rfl ?_
        refine VS.if_lt 348 dL_hangs_341 (by decide) (fun _ => ?_) (fun hh => absurd (hK1 hK) hh)
        refine VS.iconst (0) dL_hangs_348 rfl ?_
        refine VS.icmp_ne 356 dL_hangs_349 (by decide) (fun hh => absurd (rfl) hh) (fun _ => ?_)
        exact k352
  refine VS.iconst (1) dL_hangs_352 rfl ?_
  refine VS.goto 357 dL_hangs_353 (by decide) ?_
  refine VS.istore_n dL_hangs_357 (by decide) rfl ?_
  exact kk
set_option maxRecDepth 100000 in
set_option maxHeartbeats 1500000 in
theorem hg_pair2 (l : Launch) {S M : SS} (hS : RelK S M) (hx : GX (M 1)) {gm tu un dg : Int32} (hgm : gm = M 1 6) {a b : Nat} (ha : a < 8) (hb : b < 8) (hne : a ≠ b) {al ye no ow rv wy : Int32} (hal : al = rSeen (M 1) (nI (ek a b))) (hye : ye = clJ (M 1) 11 (nI (ek a b)) 3) (hno : no = clJ (M 1) 14 (nI (ek a b)) 3) (how : ow = sb (M 1 0) (nI (ek a b))) (hrv : rv = sb (M 1 17) (nI (ek a b))) (hwy : wy = wayV (M 1) a b) (hc : (al = -6 ∧ bt (rK (M 1)) (ek a b) = false ∧ bt (rTh (M 1)) (ek a b) = false) ∨ (al = 1 ∧ bt (rK (M 1)) (ek a b) = true ∧ bt (rTh (M 1)) (ek a b) = true ∧ ow = 1) ∨ (al = 0 ∧ bt (rK (M 1)) (ek a b) = true ∧ bt (rTh (M 1)) (ek a b) = false ∧ ow = 0)) (kk : VS l (rmD 6) RL cL_hangs 22 (XF (some .boolean) 77 (some (.int 1)) (shW shK S)) 0 0 77 (shW shK S) 487 [some (.ref 0), some (.int gm), some (.int tu), some (.int 1), some (.int (nI (sm (bt (rK (M 1))) (lp (8 * a + b + 1))))), some (.int (nI (sm (bt (rTh (M 1))) (lp (8 * a + b + 1))))), some (.int (nI (sm (bt (M 1 17)) (lp (8 * a + b + 1))))), some (.int (nI (clA (M 1) (lp (8 * a + b)) (lp (8 * a + b)) (lp (8 * a + b))))), some (.int un), some (.int dg), some (.int (nI (sm (bt (M 1 0)) (lq (8 * a + b + 1))))), some (.int (nI a)), some (.int (nI (sm (bt (rTh (M 1))) (lr a (b + 1))))), some (.int (nI (sm (nkB (M 1)) (lr a (b + 1))))), some (.int (ngJ (rTh (M 1)) a (b + 1))), some (.int (nI b)), some (.int (nI (ek a b))), some (.int al), some (.int ye), some (.int no), some (.int ow), none] []) : VS l (rmD 6) RL cL_hangs 22 (XF (some .boolean) 77 (some (.int 1)) (shW shK S)) 0 0 77 (shW shK S) 358 [some (.ref 0), some (.int gm), some (.int tu), some (.int 1), some (.int (nI (sm (bt (rK (M 1))) (lp (8 * a + b))))), some (.int (nI (sm (bt (rTh (M 1))) (lp (8 * a + b))))), some (.int (nI (sm (bt (M 1 17)) (lp (8 * a + b))))), some (.int (nI (clA (M 1) (lp (8 * a + b)) (lp (8 * a + b)) (lp (8 * a + b))))), some (.int un), some (.int dg), some (.int (nI (sm (bt (M 1 0)) (lq (8 * a + b))))), some (.int (nI a)), some (.int (nI (sm (bt (rTh (M 1))) (lr a b)))), some (.int (nI (sm (nkB (M 1)) (lr a b)))), some (.int (ngJ (rTh (M 1)) a b)), some (.int (nI b)), some (.int (nI (ek a b))), some (.int al), some (.int ye), some (.int no), some (.int ow), none] [] := by
  obtain ⟨he, hk, hsy, hw⟩ := ek_ok a ha b hb hne
  obtain ⟨he2, -, -, hw2⟩ := ek_ok b hb a ha (Ne.symm hne)
  rw [hsy] at he2
  refine VS.joinB 372 [.int (nI (sm (bt (rTh (M 1))) (lr a (b + 1))))] (fun k372 => ?_) ?_
  · rcases hc with ⟨e1, e2, e3⟩ | ⟨e1, e2, e3, e4⟩ | ⟨e1, e2, e3, e4⟩
    · refine VS.iload dL_hangs_358 rfl ?_
      refine VS.iload dL_hangs_360 rfl ?_
      refine VS.iconst (1) dL_hangs_362 rfl ?_
      refine VS.icmp_ne 370 dL_hangs_363 (by decide) (fun _ => ?_) (fun hh => absurd hh (by rw [e1]; decide))
      refine VS.iconst (0) dL_hangs_370 rfl ?_
      refine VS.iadd dL_hangs_371 ?_
      refine VS.val (y := nI (sm (bt (rTh (M 1))) (lr a (b + 1)))) (acc (z := 0) rfl (by rw [lr_nat _ hne, if_neg (by rw [e3]; decide)])) ?_
      exact k372
    · refine VS.iload dL_hangs_358 rfl ?_
      refine VS.iload dL_hangs_360 rfl ?_
      refine VS.iconst (1) dL_hangs_362 rfl ?_
      refine VS.icmp_ne 370 dL_hangs_363 (by decide) (fun hh => absurd (e1) hh) (fun _ => ?_)
      refine VS.iconst (1) dL_hangs_366 rfl ?_
      refine VS.goto 371 dL_hangs_367 (by decide) ?_
      refine VS.iadd dL_hangs_371 ?_
      refine VS.val (y := nI (sm (bt (rTh (M 1))) (lr a (b + 1)))) (acc (z := 1) rfl (by rw [lr_nat _ hne, if_pos e3])) ?_
      exact k372
    · refine VS.iload dL_hangs_358 rfl ?_
      refine VS.iload dL_hangs_360 rfl ?_
      refine VS.iconst (1) dL_hangs_362 rfl ?_
      refine VS.icmp_ne 370 dL_hangs_363 (by decide) (fun _ => ?_) (fun hh => absurd hh (by rw [e1]; decide))
      refine VS.iconst (0) dL_hangs_370 rfl ?_
      refine VS.iadd dL_hangs_371 ?_
      refine VS.val (y := nI (sm (bt (rTh (M 1))) (lr a (b + 1)))) (acc (z := 0) rfl (by rw [lr_nat _ hne, if_neg (by rw [e3]; decide)])) ?_
      exact k372
  refine VS.istore dL_hangs_372 (by decide) rfl ?_
  refine VS.nf [some (.ref 0), some (.int gm), some (.int tu), some (.int 1), some (.int (nI (sm (bt (rK (M 1))) (lp (8 * a + b))))), some (.int (nI (sm (bt (rTh (M 1))) (lp (8 * a + b))))), some (.int (nI (sm (bt (M 1 17)) (lp (8 * a + b))))), some (.int (nI (clA (M 1) (lp (8 * a + b)) (lp (8 * a + b)) (lp (8 * a + b))))), some (.int un), some (.int dg), some (.int (nI (sm (bt (M 1 0)) (lq (8 * a + b))))), some (.int (nI a)), some (.int (nI (sm (bt (rTh (M 1))) (lr a (b + 1))))), some (.int (nI (sm (nkB (M 1)) (lr a b)))), some (.int (ngJ (rTh (M 1)) a b)), some (.int (nI b)), some (.int (nI (ek a b))), some (.int al), some (.int ye), some (.int no), some (.int ow), none] rfl ?_
  refine VS.joinB 389 [.int (nI (sm (nkB (M 1)) (lr a (b + 1))))] (fun k389 => ?_) ?_
  · rcases hc with ⟨e1, e2, e3⟩ | ⟨e1, e2, e3, e4⟩ | ⟨e1, e2, e3, e4⟩
    · refine VS.iload dL_hangs_374 rfl ?_
      refine VS.iload dL_hangs_376 rfl ?_
      refine VS.bipush (-6) dL_hangs_378 rfl ?_
      refine VS.icmp_ne 387 dL_hangs_380 (by decide) (fun hh => absurd (e1) hh) (fun _ => ?_)
      refine VS.iconst (1) dL_hangs_383 rfl ?_
      refine VS.goto 388 dL_hangs_384 (by decide) ?_
      refine VS.iadd dL_hangs_388 ?_
      refine VS.val (y := nI (sm (nkB (M 1)) (lr a (b + 1)))) (acc (z := 1) rfl (by rw [lr_nat _ hne, if_pos (by unfold nkB; rw [e2]; rfl)])) ?_
      exact k389
    · refine VS.iload dL_hangs_374 rfl ?_
      refine VS.iload dL_hangs_376 rfl ?_
      refine VS.bipush (-6) dL_hangs_378 rfl ?_
      refine VS.icmp_ne 387 dL_hangs_380 (by decide) (fun _ => ?_) (fun hh => absurd hh (by rw [e1]; decide))
      refine VS.iconst (0) dL_hangs_387 rfl ?_
      refine VS.iadd dL_hangs_388 ?_
      refine VS.val (y := nI (sm (nkB (M 1)) (lr a (b + 1)))) (acc (z := 0) rfl (by rw [lr_nat _ hne, if_neg (by unfold nkB; rw [e2]; decide)])) ?_
      exact k389
    · refine VS.iload dL_hangs_374 rfl ?_
      refine VS.iload dL_hangs_376 rfl ?_
      refine VS.bipush (-6) dL_hangs_378 rfl ?_
      refine VS.icmp_ne 387 dL_hangs_380 (by decide) (fun _ => ?_) (fun hh => absurd hh (by rw [e1]; decide))
      refine VS.iconst (0) dL_hangs_387 rfl ?_
      refine VS.iadd dL_hangs_388 ?_
      refine VS.val (y := nI (sm (nkB (M 1)) (lr a (b + 1)))) (acc (z := 0) rfl (by rw [lr_nat _ hne, if_neg (by unfold nkB; rw [e2]; decide)])) ?_
      exact k389
  refine VS.istore dL_hangs_389 (by decide) rfl ?_
  refine VS.nf [some (.ref 0), some (.int gm), some (.int tu), some (.int 1), some (.int (nI (sm (bt (rK (M 1))) (lp (8 * a + b))))), some (.int (nI (sm (bt (rTh (M 1))) (lp (8 * a + b))))), some (.int (nI (sm (bt (M 1 17)) (lp (8 * a + b))))), some (.int (nI (clA (M 1) (lp (8 * a + b)) (lp (8 * a + b)) (lp (8 * a + b))))), some (.int un), some (.int dg), some (.int (nI (sm (bt (M 1 0)) (lq (8 * a + b))))), some (.int (nI a)), some (.int (nI (sm (bt (rTh (M 1))) (lr a (b + 1))))), some (.int (nI (sm (nkB (M 1)) (lr a (b + 1))))), some (.int (ngJ (rTh (M 1)) a b)), some (.int (nI b)), some (.int (nI (ek a b))), some (.int al), some (.int ye), some (.int no), some (.int ow), none] rfl ?_
  refine VS.joinB 408 [.int (ngJ (rTh (M 1)) a (b + 1))] (fun k408 => ?_) ?_
  · rcases hc with ⟨e1, e2, e3⟩ | ⟨e1, e2, e3, e4⟩ | ⟨e1, e2, e3, e4⟩
    · refine VS.iload dL_hangs_391 rfl ?_
      refine VS.iload dL_hangs_393 rfl ?_
      refine VS.iconst (1) dL_hangs_395 rfl ?_
      refine VS.icmp_ne 406 dL_hangs_396 (by decide) (fun _ => ?_) (fun hh => absurd hh (by rw [e1]; decide))
      refine VS.iconst (0) dL_hangs_406 rfl ?_
      refine VS.ior dL_hangs_407 ?_
      refine VS.val (y := ngJ (rTh (M 1)) a (b + 1)) (ngK_n (fun z => by rw [he, sb_k _ (show ek a b < 32 by omega), if_neg (by rw [e3]; decide)] at z; exact absurd z.2 (by decide))) ?_
      exact k408
    · refine VS.iload dL_hangs_391 rfl ?_
      refine VS.iload dL_hangs_393 rfl ?_
      refine VS.iconst (1) dL_hangs_395 rfl ?_
      refine VS.icmp_ne 406 dL_hangs_396 (by decide) (fun hh => absurd (e1) hh) (fun _ => ?_)
      refine VS.iconst (1) dL_hangs_399 rfl ?_
      refine VS.iload dL_hangs_400 rfl ?_
      refine VS.ishl dL_hangs_402 ?_
      refine VS.goto 407 dL_hangs_403 (by decide) ?_
      refine VS.ior dL_hangs_407 ?_
      refine VS.val (y := ngJ (rTh (M 1)) a (b + 1)) (ngK_y hne ha hb (by rw [he, sb_k _ (show ek a b < 32 by omega), if_pos e3])) ?_
      exact k408
    · refine VS.iload dL_hangs_391 rfl ?_
      refine VS.iload dL_hangs_393 rfl ?_
      refine VS.iconst (1) dL_hangs_395 rfl ?_
      refine VS.icmp_ne 406 dL_hangs_396 (by decide) (fun _ => ?_) (fun hh => absurd hh (by rw [e1]; decide))
      refine VS.iconst (0) dL_hangs_406 rfl ?_
      refine VS.ior dL_hangs_407 ?_
      refine VS.val (y := ngJ (rTh (M 1)) a (b + 1)) (ngK_n (fun z => by rw [he, sb_k _ (show ek a b < 32 by omega), if_neg (by rw [e3]; decide)] at z; exact absurd z.2 (by decide))) ?_
      exact k408
  refine VS.istore dL_hangs_408 (by decide) rfl ?_
  refine VS.nf [some (.ref 0), some (.int gm), some (.int tu), some (.int 1), some (.int (nI (sm (bt (rK (M 1))) (lp (8 * a + b))))), some (.int (nI (sm (bt (rTh (M 1))) (lp (8 * a + b))))), some (.int (nI (sm (bt (M 1 17)) (lp (8 * a + b))))), some (.int (nI (clA (M 1) (lp (8 * a + b)) (lp (8 * a + b)) (lp (8 * a + b))))), some (.int un), some (.int dg), some (.int (nI (sm (bt (M 1 0)) (lq (8 * a + b))))), some (.int (nI a)), some (.int (nI (sm (bt (rTh (M 1))) (lr a (b + 1))))), some (.int (nI (sm (nkB (M 1)) (lr a (b + 1))))), some (.int (ngJ (rTh (M 1)) a (b + 1))), some (.int (nI b)), some (.int (nI (ek a b))), some (.int al), some (.int ye), some (.int no), some (.int ow), none] rfl ?_
  refine VS.iload dL_hangs_410 rfl ?_
  refine VS.iload dL_hangs_412 rfl ?_
  refine VS.iadd dL_hangs_414 ?_
  refine VS.val (y := nI (sm (bt (M 1 0)) (lq (8 * a + b + 1)))) (by rw [how, sb_iB _ hk, lq_nat _ hb hne]; exact nI_bit _ _) ?_
  refine VS.istore dL_hangs_415 (by decide) rfl ?_
  refine VS.nf [some (.ref 0), some (.int gm), some (.int tu), some (.int 1), some (.int (nI (sm (bt (rK (M 1))) (lp (8 * a + b))))), some (.int (nI (sm (bt (rTh (M 1))) (lp (8 * a + b))))), some (.int (nI (sm (bt (M 1 17)) (lp (8 * a + b))))), some (.int (nI (clA (M 1) (lp (8 * a + b)) (lp (8 * a + b)) (lp (8 * a + b))))), some (.int un), some (.int dg), some (.int (nI (sm (bt (M 1 0)) (lq (8 * a + b + 1))))), some (.int (nI a)), some (.int (nI (sm (bt (rTh (M 1))) (lr a (b + 1))))), some (.int (nI (sm (nkB (M 1)) (lr a (b + 1))))), some (.int (ngJ (rTh (M 1)) a (b + 1))), some (.int (nI b)), some (.int (nI (ek a b))), some (.int al), some (.int ye), some (.int no), some (.int ow), none] rfl ?_
  refine VS.joinB 437 [.int (nI (sm (bt (rK (M 1))) (lp (8 * a + b + 1))))] (fun k437 => ?_) ?_
  · by_cases hab : a < b
    · rcases hc with ⟨e1, e2, e3⟩ | ⟨e1, e2, e3, e4⟩ | ⟨e1, e2, e3, e4⟩
      · refine VS.iload dL_hangs_417 rfl ?_
        refine VS.iload dL_hangs_419 rfl ?_
        refine VS.iload dL_hangs_421 rfl ?_
        refine VS.icmp_ge 435 dL_hangs_423 (by decide) (fun hh => absurd hh (nI_ge hab (by omega))) (fun _ => ?_)
        refine VS.iload dL_hangs_426 rfl ?_
        refine VS.if_lt 435 dL_hangs_428 (by decide) (fun _ => ?_) (fun hh => absurd (by rw [e1]; decide) hh)
        refine VS.iconst (0) dL_hangs_435 rfl ?_
        refine VS.iadd dL_hangs_436 ?_
        refine VS.val (y := nI (sm (bt (rK (M 1))) (lp (8 * a + b + 1)))) (acc (z := 0) rfl (by rw [lp_nat _ hb, if_neg (fun z => by rw [e2] at z; exact absurd z.2 (by decide))])) ?_
        exact k437
      · refine VS.iload dL_hangs_417 rfl ?_
        refine VS.iload dL_hangs_419 rfl ?_
        refine VS.iload dL_hangs_421 rfl ?_
        refine VS.icmp_ge 435 dL_hangs_423 (by decide) (fun hh => absurd hh (nI_ge hab (by omega))) (fun _ => ?_)
        refine VS.iload dL_hangs_426 rfl ?_
        refine VS.if_lt 435 dL_hangs_428 (by decide) (fun hh => absurd hh (by rw [e1]; decide)) (fun _ => ?_)
        refine VS.iconst (1) dL_hangs_431 rfl ?_
        refine VS.goto 436 dL_hangs_432 (by decide) ?_
        refine VS.iadd dL_hangs_436 ?_
        refine VS.val (y := nI (sm (bt (rK (M 1))) (lp (8 * a + b + 1)))) (acc (z := 1) rfl (by rw [lp_nat _ hb, if_pos ⟨hab, e2⟩])) ?_
        exact k437
      · refine VS.iload dL_hangs_417 rfl ?_
        refine VS.iload dL_hangs_419 rfl ?_
        refine VS.iload dL_hangs_421 rfl ?_
        refine VS.icmp_ge 435 dL_hangs_423 (by decide) (fun hh => absurd hh (nI_ge hab (by omega))) (fun _ => ?_)
        refine VS.iload dL_hangs_426 rfl ?_
        refine VS.if_lt 435 dL_hangs_428 (by decide) (fun hh => absurd hh (by rw [e1]; decide)) (fun _ => ?_)
        refine VS.iconst (1) dL_hangs_431 rfl ?_
        refine VS.goto 436 dL_hangs_432 (by decide) ?_
        refine VS.iadd dL_hangs_436 ?_
        refine VS.val (y := nI (sm (bt (rK (M 1))) (lp (8 * a + b + 1)))) (acc (z := 1) rfl (by rw [lp_nat _ hb, if_pos ⟨hab, e2⟩])) ?_
        exact k437
    · refine VS.iload dL_hangs_417 rfl ?_
      refine VS.iload dL_hangs_419 rfl ?_
      refine VS.iload dL_hangs_421 rfl ?_
      refine VS.icmp_ge 435 dL_hangs_423 (by decide) (fun _ => ?_) (fun hh => absurd (nI_le (by omega) (by omega)) hh)
      refine VS.iconst (0) dL_hangs_435 rfl ?_
      refine VS.iadd dL_hangs_436 ?_
      refine VS.val (y := nI (sm (bt (rK (M 1))) (lp (8 * a + b + 1)))) (acc (z := 0) rfl (by rw [lp_nat _ hb, if_neg (fun z => hab z.1)])) ?_
      exact k437
  refine VS.istore dL_hangs_437 (by decide) rfl ?_
  refine VS.nf [some (.ref 0), some (.int gm), some (.int tu), some (.int 1), some (.int (nI (sm (bt (rK (M 1))) (lp (8 * a + b + 1))))), some (.int (nI (sm (bt (rTh (M 1))) (lp (8 * a + b))))), some (.int (nI (sm (bt (M 1 17)) (lp (8 * a + b))))), some (.int (nI (clA (M 1) (lp (8 * a + b)) (lp (8 * a + b)) (lp (8 * a + b))))), some (.int un), some (.int dg), some (.int (nI (sm (bt (M 1 0)) (lq (8 * a + b + 1))))), some (.int (nI a)), some (.int (nI (sm (bt (rTh (M 1))) (lr a (b + 1))))), some (.int (nI (sm (nkB (M 1)) (lr a (b + 1))))), some (.int (ngJ (rTh (M 1)) a (b + 1))), some (.int (nI b)), some (.int (nI (ek a b))), some (.int al), some (.int ye), some (.int no), some (.int ow), none] rfl ?_
  refine VS.joinB 460 [.int (nI (sm (bt (rTh (M 1))) (lp (8 * a + b + 1))))] (fun k460 => ?_) ?_
  · by_cases hab : a < b
    · rcases hc with ⟨e1, e2, e3⟩ | ⟨e1, e2, e3, e4⟩ | ⟨e1, e2, e3, e4⟩
      · refine VS.iload dL_hangs_439 rfl ?_
        refine VS.iload dL_hangs_441 rfl ?_
        refine VS.iload dL_hangs_443 rfl ?_
        refine VS.icmp_ge 458 dL_hangs_445 (by decide) (fun hh => absurd hh (nI_ge hab (by omega))) (fun _ => ?_)
        refine VS.iload dL_hangs_448 rfl ?_
        refine VS.iconst (1) dL_hangs_450 rfl ?_
        refine VS.icmp_ne 458 dL_hangs_451 (by decide) (fun _ => ?_) (fun hh => absurd hh (by rw [e1]; decide))
        refine VS.iconst (0) dL_hangs_458 rfl ?_
        refine VS.iadd dL_hangs_459 ?_
        refine VS.val (y := nI (sm (bt (rTh (M 1))) (lp (8 * a + b + 1)))) (acc (z := 0) rfl (by rw [lp_nat _ hb, if_neg (fun z => by rw [e3] at z; exact absurd z.2 (by decide))])) ?_
        exact k460
      · refine VS.iload dL_hangs_439 rfl ?_
        refine VS.iload dL_hangs_441 rfl ?_
        refine VS.iload dL_hangs_443 rfl ?_
        refine VS.icmp_ge 458 dL_hangs_445 (by decide) (fun hh => absurd hh (nI_ge hab (by omega))) (fun _ => ?_)
        refine VS.iload dL_hangs_448 rfl ?_
        refine VS.iconst (1) dL_hangs_450 rfl ?_
        refine VS.icmp_ne 458 dL_hangs_451 (by decide) (fun hh => absurd (e1) hh) (fun _ => ?_)
        refine VS.iconst (1) dL_hangs_454 rfl ?_
        refine VS.goto 459 dL_hangs_455 (by decide) ?_
        refine VS.iadd dL_hangs_459 ?_
        refine VS.val (y := nI (sm (bt (rTh (M 1))) (lp (8 * a + b + 1)))) (acc (z := 1) rfl (by rw [lp_nat _ hb, if_pos ⟨hab, e3⟩])) ?_
        exact k460
      · refine VS.iload dL_hangs_439 rfl ?_
        refine VS.iload dL_hangs_441 rfl ?_
        refine VS.iload dL_hangs_443 rfl ?_
        refine VS.icmp_ge 458 dL_hangs_445 (by decide) (fun hh => absurd hh (nI_ge hab (by omega))) (fun _ => ?_)
        refine VS.iload dL_hangs_448 rfl ?_
        refine VS.iconst (1) dL_hangs_450 rfl ?_
        refine VS.icmp_ne 458 dL_hangs_451 (by decide) (fun _ => ?_) (fun hh => absurd hh (by rw [e1]; decide))
        refine VS.iconst (0) dL_hangs_458 rfl ?_
        refine VS.iadd dL_hangs_459 ?_
        refine VS.val (y := nI (sm (bt (rTh (M 1))) (lp (8 * a + b + 1)))) (acc (z := 0) rfl (by rw [lp_nat _ hb, if_neg (fun z => by rw [e3] at z; exact absurd z.2 (by decide))])) ?_
        exact k460
    · refine VS.iload dL_hangs_439 rfl ?_
      refine VS.iload dL_hangs_441 rfl ?_
      refine VS.iload dL_hangs_443 rfl ?_
      refine VS.icmp_ge 458 dL_hangs_445 (by decide) (fun _ => ?_) (fun hh => absurd (nI_le (by omega) (by omega)) hh)
      refine VS.iconst (0) dL_hangs_458 rfl ?_
      refine VS.iadd dL_hangs_459 ?_
      refine VS.val (y := nI (sm (bt (rTh (M 1))) (lp (8 * a + b + 1)))) (acc (z := 0) rfl (by rw [lp_nat _ hb, if_neg (fun z => hab z.1)])) ?_
      exact k460
  refine VS.istore dL_hangs_460 (by decide) rfl ?_
  refine VS.nf [some (.ref 0), some (.int gm), some (.int tu), some (.int 1), some (.int (nI (sm (bt (rK (M 1))) (lp (8 * a + b + 1))))), some (.int (nI (sm (bt (rTh (M 1))) (lp (8 * a + b + 1))))), some (.int (nI (sm (bt (M 1 17)) (lp (8 * a + b))))), some (.int (nI (clA (M 1) (lp (8 * a + b)) (lp (8 * a + b)) (lp (8 * a + b))))), some (.int un), some (.int dg), some (.int (nI (sm (bt (M 1 0)) (lq (8 * a + b + 1))))), some (.int (nI a)), some (.int (nI (sm (bt (rTh (M 1))) (lr a (b + 1))))), some (.int (nI (sm (nkB (M 1)) (lr a (b + 1))))), some (.int (ngJ (rTh (M 1)) a (b + 1))), some (.int (nI b)), some (.int (nI (ek a b))), some (.int al), some (.int ye), some (.int no), some (.int ow), none] rfl ?_
  refine VS.joinB 485 [.int (nI (sm (bt (M 1 17)) (lp (8 * a + b + 1))))] (fun k485 => ?_) ?_
  · by_cases hab : a < b
    · refine VS.iload dL_hangs_462 rfl ?_
      refine VS.iload dL_hangs_464 rfl ?_
      refine VS.iload dL_hangs_466 rfl ?_
      refine VS.icmp_ge 483 dL_hangs_468 (by decide) (fun hh => absurd hh (nI_ge hab (by omega))) (fun _ => ?_)
      refine VS.aload_n dL_hangs_471 rfl ?_
      refine VS.iload dL_hangs_472 rfl ?_
      refine VS.iload dL_hangs_474 rfl ?_
      refine VS.iconst (2) dL_hangs_476 rfl ?_
      refine VS.callT (ak_ofRoad l 2 hw S hS) dL_hangs_477 mi_X6_ofRoad im_X6_ofRoad sel_X6_ofRoad ml_L_80 (by decide) rfl rfl (rmOk_D (by decide) (by decide)) (Nat.le_of_ble_eq_true rfl) rfl ?_
      refine VS.val (y := rv) ((congrArg (sb (M 1 17)) he).trans hrv.symm) ?_
      refine VS.goto 484 dL_hangs_480 (by decide) ?_
      refine VS.iadd dL_hangs_484 ?_
      refine VS.val (y := nI (sm (bt (M 1 17)) (lp (8 * a + b + 1)))) (by rw [hrv, sb_iB _ hk, lp_nat _ hb, nI_bit]; simp [hab]) ?_
      exact k485
    · refine VS.iload dL_hangs_462 rfl ?_
      refine VS.iload dL_hangs_464 rfl ?_
      refine VS.iload dL_hangs_466 rfl ?_
      refine VS.icmp_ge 483 dL_hangs_468 (by decide) (fun _ => ?_) (fun hh => absurd (nI_le (by omega) (by omega)) hh)
      refine VS.iconst (0) dL_hangs_483 rfl ?_
      refine VS.iadd dL_hangs_484 ?_
      refine VS.val (y := nI (sm (bt (M 1 17)) (lp (8 * a + b + 1)))) (acc (z := 0) rfl (by rw [lp_nat _ hb, if_neg (fun z => hab z.1)])) ?_
      exact k485
  refine VS.istore dL_hangs_485 (by decide) rfl ?_
  exact kk
set_option maxRecDepth 100000 in
set_option maxHeartbeats 1500000 in
theorem hg_pair3 (l : Launch) {S M : SS} (hS : RelK S M) (hx : GX (M 1)) {gm tu un dg : Int32} (hgm : gm = M 1 6) {a b : Nat} (ha : a < 8) (hb : b < 8) (hne : a ≠ b) {al ye no ow rv wy : Int32} (hal : al = rSeen (M 1) (nI (ek a b))) (hye : ye = clJ (M 1) 11 (nI (ek a b)) 3) (hno : no = clJ (M 1) 14 (nI (ek a b)) 3) (how : ow = sb (M 1 0) (nI (ek a b))) (hrv : rv = sb (M 1 17) (nI (ek a b))) (hwy : wy = wayV (M 1) a b) (hc : (al = -6 ∧ bt (rK (M 1)) (ek a b) = false ∧ bt (rTh (M 1)) (ek a b) = false) ∨ (al = 1 ∧ bt (rK (M 1)) (ek a b) = true ∧ bt (rTh (M 1)) (ek a b) = true ∧ ow = 1) ∨ (al = 0 ∧ bt (rK (M 1)) (ek a b) = true ∧ bt (rTh (M 1)) (ek a b) = false ∧ ow = 0)) (kk : VS l (rmD 6) RL cL_hangs 22 (XF (some .boolean) 77 (some (.int 1)) (shW shK S)) 0 0 77 (shW shK S) 593 [some (.ref 0), some (.int gm), some (.int tu), some (.int 1), some (.int (nI (sm (bt (rK (M 1))) (lp (8 * a + b + 1))))), some (.int (nI (sm (bt (rTh (M 1))) (lp (8 * a + b + 1))))), some (.int (nI (sm (bt (M 1 17)) (lp (8 * a + b + 1))))), some (.int (nI (clA (M 1) (lp (8 * a + b + 1)) (lp (8 * a + b + 1)) (lp (8 * a + b + 1))))), some (.int un), some (.int dg), some (.int (nI (sm (bt (M 1 0)) (lq (8 * a + b + 1))))), some (.int (nI a)), some (.int (nI (sm (bt (rTh (M 1))) (lr a (b + 1))))), some (.int (nI (sm (nkB (M 1)) (lr a (b + 1))))), some (.int (ngJ (rTh (M 1)) a (b + 1))), some (.int (nI b)), none, none, none, none, none, none] []) : VS l (rmD 6) RL cL_hangs 22 (XF (some .boolean) 77 (some (.int 1)) (shW shK S)) 0 0 77 (shW shK S) 487 [some (.ref 0), some (.int gm), some (.int tu), some (.int 1), some (.int (nI (sm (bt (rK (M 1))) (lp (8 * a + b + 1))))), some (.int (nI (sm (bt (rTh (M 1))) (lp (8 * a + b + 1))))), some (.int (nI (sm (bt (M 1 17)) (lp (8 * a + b + 1))))), some (.int (nI (clA (M 1) (lp (8 * a + b)) (lp (8 * a + b)) (lp (8 * a + b))))), some (.int un), some (.int dg), some (.int (nI (sm (bt (M 1 0)) (lq (8 * a + b + 1))))), some (.int (nI a)), some (.int (nI (sm (bt (rTh (M 1))) (lr a (b + 1))))), some (.int (nI (sm (nkB (M 1)) (lr a (b + 1))))), some (.int (ngJ (rTh (M 1)) a (b + 1))), some (.int (nI b)), some (.int (nI (ek a b))), some (.int al), some (.int ye), some (.int no), some (.int ow), none] [] := by
  obtain ⟨he, hk, hsy, hw⟩ := ek_ok a ha b hb hne
  obtain ⟨he2, -, -, hw2⟩ := ek_ok b hb a ha (Ne.symm hne)
  rw [hsy] at he2
  have hT1 : bt (rTh (M 1)) (ek a b) = true → al = 1 := fun z => by
    rcases hc with ⟨-, -, e⟩ | ⟨e, -⟩ | ⟨-, -, e, -⟩
    · rw [e] at z; exact absurd z (by decide)
    · exact e
    · rw [e] at z; exact absurd z (by decide)
  have hT0 : bt (rTh (M 1)) (ek a b) = false → ¬ al = 1 := fun z => by
    rcases hc with ⟨e, -⟩ | ⟨-, -, e, -⟩ | ⟨e, -⟩
    · rw [e]; decide
    · rw [e] at z; exact absurd z (by decide)
    · rw [e]; decide
  have hw1 : wy = 1 ↔ bt (rTh (M 1)) (ek a b) = true := hwy ▸ way_1 ha hb hne he hk
  refine VS.iconst (0) dL_hangs_487 rfl ?_
  refine VS.istore dL_hangs_488 (by decide) rfl ?_
  refine VS.nf [some (.ref 0), some (.int gm), some (.int tu), some (.int 1), some (.int (nI (sm (bt (rK (M 1))) (lp (8 * a + b + 1))))), some (.int (nI (sm (bt (rTh (M 1))) (lp (8 * a + b + 1))))), some (.int (nI (sm (bt (M 1 17)) (lp (8 * a + b + 1))))), some (.int (nI (clA (M 1) (lp (8 * a + b)) (lp (8 * a + b)) (lp (8 * a + b))))), some (.int un), some (.int dg), some (.int (nI (sm (bt (M 1 0)) (lq (8 * a + b + 1))))), some (.int (nI a)), some (.int (nI (sm (bt (rTh (M 1))) (lr a (b + 1))))), some (.int (nI (sm (nkB (M 1)) (lr a (b + 1))))), some (.int (ngJ (rTh (M 1)) a (b + 1))), some (.int (nI b)), some (.int (nI (ek a b))), some (.int al), some (.int ye), some (.int no), some (.int ow), some (.int 0)] rfl ?_
  refine VS.iload dL_hangs_490 rfl ?_
  refine VS.iconst (3) dL_hangs_492 rfl ?_
  refine VS.icmp_ge 533 dL_hangs_493 (by decide) (fun hh => absurd hh (by decide)) (fun _ => ?_)
  refine VS.joinB 525 [.int (nI (clA (M 1) (lp (8 * a + b + 1)) (lp (8 * a + b)) (lp (8 * a + b))))] (fun k525 => ?_) ?_
  · by_cases hab : a < b
    · rcases bool_c (cB (M 1) 0 (ek a b)) with hq | hq
      · refine VS.iload dL_hangs_496 rfl ?_
        refine VS.iload dL_hangs_498 rfl ?_
        refine VS.iload dL_hangs_500 rfl ?_
        refine VS.icmp_ge 523 dL_hangs_502 (by decide) (fun hh => absurd hh (nI_ge hab (by omega))) (fun _ => ?_)
        refine VS.iload dL_hangs_505 rfl ?_
        refine VS.iload dL_hangs_507 rfl ?_
        refine VS.ior dL_hangs_509 ?_
        refine VS.iload dL_hangs_510 rfl ?_
        refine VS.ishr dL_hangs_512 ?_
        refine VS.iconst (1) dL_hangs_513 rfl ?_
        refine VS.iand dL_hangs_514 ?_
        refine VS.val (y := iB (cB (M 1) 0 (ek a b))) (by rw [hye, hno]; exact yn_p0 (M 1) hk) ?_
        refine VS.iconst (1) dL_hangs_515 rfl ?_
        refine VS.icmp_ne 523 dL_hangs_516 (by decide) (fun hh => absurd (congrArg iB hq) hh) (fun _ => ?_)
        refine VS.iconst (1) dL_hangs_519 rfl ?_
        refine VS.goto 524 dL_hangs_520 (by decide) ?_
        refine VS.iadd dL_hangs_524 ?_
        refine VS.val (y := nI (clA (M 1) (lp (8 * a + b + 1)) (lp (8 * a + b)) (lp (8 * a + b)))) (acc (z := 1) rfl (by unfold clA; rw [lp_nat (cB (M 1) 0) hb, if_pos ⟨hab, hq⟩]; omega)) ?_
        exact k525
      · refine VS.iload dL_hangs_496 rfl ?_
        refine VS.iload dL_hangs_498 rfl ?_
        refine VS.iload dL_hangs_500 rfl ?_
        refine VS.icmp_ge 523 dL_hangs_502 (by decide) (fun hh => absurd hh (nI_ge hab (by omega))) (fun _ => ?_)
        refine VS.iload dL_hangs_505 rfl ?_
        refine VS.iload dL_hangs_507 rfl ?_
        refine VS.ior dL_hangs_509 ?_
        refine VS.iload dL_hangs_510 rfl ?_
        refine VS.ishr dL_hangs_512 ?_
        refine VS.iconst (1) dL_hangs_513 rfl ?_
        refine VS.iand dL_hangs_514 ?_
        refine VS.val (y := iB (cB (M 1) 0 (ek a b))) (by rw [hye, hno]; exact yn_p0 (M 1) hk) ?_
        refine VS.iconst (1) dL_hangs_515 rfl ?_
        refine VS.icmp_ne 523 dL_hangs_516 (by decide) (fun _ => ?_) (fun hh => absurd hh (by rw [hq]; decide))
        refine VS.iconst (0) dL_hangs_523 rfl ?_
        refine VS.iadd dL_hangs_524 ?_
        refine VS.val (y := nI (clA (M 1) (lp (8 * a + b + 1)) (lp (8 * a + b)) (lp (8 * a + b)))) (acc (z := 0) rfl (by unfold clA; rw [lp_nat (cB (M 1) 0) hb, if_neg (fun z => by rw [hq] at z; exact absurd z.2 (by decide))]; omega)) ?_
        exact k525
    · refine VS.iload dL_hangs_496 rfl ?_
      refine VS.iload dL_hangs_498 rfl ?_
      refine VS.iload dL_hangs_500 rfl ?_
      refine VS.icmp_ge 523 dL_hangs_502 (by decide) (fun _ => ?_) (fun hh => absurd (nI_le (by omega) (by omega)) hh)
      refine VS.iconst (0) dL_hangs_523 rfl ?_
      refine VS.iadd dL_hangs_524 ?_
      refine VS.val (y := nI (clA (M 1) (lp (8 * a + b + 1)) (lp (8 * a + b)) (lp (8 * a + b)))) (acc (z := 0) rfl (by unfold clA; rw [lp_nat (cB (M 1) 0) hb, if_neg (fun z => hab z.1)]; omega)) ?_
      exact k525
  refine VS.istore dL_hangs_525 (by decide) rfl ?_
  refine VS.iinc (1) dL_hangs_527 rfl (by decide) (by decide) rfl ?_
  refine VS.goto 490 dL_hangs_530 (by decide) ?_
  refine VS.nf [some (.ref 0), some (.int gm), some (.int tu), some (.int 1), some (.int (nI (sm (bt (rK (M 1))) (lp (8 * a + b + 1))))), some (.int (nI (sm (bt (rTh (M 1))) (lp (8 * a + b + 1))))), some (.int (nI (sm (bt (M 1 17)) (lp (8 * a + b + 1))))), some (.int (nI (clA (M 1) (lp (8 * a + b + 1)) (lp (8 * a + b)) (lp (8 * a + b))))), some (.int un), some (.int dg), some (.int (nI (sm (bt (M 1 0)) (lq (8 * a + b + 1))))), some (.int (nI a)), some (.int (nI (sm (bt (rTh (M 1))) (lr a (b + 1))))), some (.int (nI (sm (nkB (M 1)) (lr a (b + 1))))), some (.int (ngJ (rTh (M 1)) a (b + 1))), some (.int (nI b)), some (.int (nI (ek a b))), some (.int al), some (.int ye), some (.int no), some (.int ow), some (.int 1)] rfl ?_
  refine VS.iload dL_hangs_490 rfl ?_
  refine VS.iconst (3) dL_hangs_492 rfl ?_
  refine VS.icmp_ge 533 dL_hangs_493 (by decide) (fun hh => absurd hh (by decide)) (fun _ => ?_)
  refine VS.joinB 525 [.int (nI (clA (M 1) (lp (8 * a + b + 1)) (lp (8 * a + b + 1)) (lp (8 * a + b))))] (fun k525 => ?_) ?_
  · by_cases hab : a < b
    · rcases bool_c (cB (M 1) 1 (ek a b)) with hq | hq
      · refine VS.iload dL_hangs_496 rfl ?_
        refine VS.iload dL_hangs_498 rfl ?_
        refine VS.iload dL_hangs_500 rfl ?_
        refine VS.icmp_ge 523 dL_hangs_502 (by decide) (fun hh => absurd hh (nI_ge hab (by omega))) (fun _ => ?_)
        refine VS.iload dL_hangs_505 rfl ?_
        refine VS.iload dL_hangs_507 rfl ?_
        refine VS.ior dL_hangs_509 ?_
        refine VS.iload dL_hangs_510 rfl ?_
        refine VS.ishr dL_hangs_512 ?_
        refine VS.iconst (1) dL_hangs_513 rfl ?_
        refine VS.iand dL_hangs_514 ?_
        refine VS.val (y := iB (cB (M 1) 1 (ek a b))) (by rw [hye, hno]; exact yn_p1 (M 1) hk) ?_
        refine VS.iconst (1) dL_hangs_515 rfl ?_
        refine VS.icmp_ne 523 dL_hangs_516 (by decide) (fun hh => absurd (congrArg iB hq) hh) (fun _ => ?_)
        refine VS.iconst (1) dL_hangs_519 rfl ?_
        refine VS.goto 524 dL_hangs_520 (by decide) ?_
        refine VS.iadd dL_hangs_524 ?_
        refine VS.val (y := nI (clA (M 1) (lp (8 * a + b + 1)) (lp (8 * a + b + 1)) (lp (8 * a + b)))) (acc (z := 1) rfl (by unfold clA; rw [lp_nat (cB (M 1) 1) hb, if_pos ⟨hab, hq⟩]; omega)) ?_
        exact k525
      · refine VS.iload dL_hangs_496 rfl ?_
        refine VS.iload dL_hangs_498 rfl ?_
        refine VS.iload dL_hangs_500 rfl ?_
        refine VS.icmp_ge 523 dL_hangs_502 (by decide) (fun hh => absurd hh (nI_ge hab (by omega))) (fun _ => ?_)
        refine VS.iload dL_hangs_505 rfl ?_
        refine VS.iload dL_hangs_507 rfl ?_
        refine VS.ior dL_hangs_509 ?_
        refine VS.iload dL_hangs_510 rfl ?_
        refine VS.ishr dL_hangs_512 ?_
        refine VS.iconst (1) dL_hangs_513 rfl ?_
        refine VS.iand dL_hangs_514 ?_
        refine VS.val (y := iB (cB (M 1) 1 (ek a b))) (by rw [hye, hno]; exact yn_p1 (M 1) hk) ?_
        refine VS.iconst (1) dL_hangs_515 rfl ?_
        refine VS.icmp_ne 523 dL_hangs_516 (by decide) (fun _ => ?_) (fun hh => absurd hh (by rw [hq]; decide))
        refine VS.iconst (0) dL_hangs_523 rfl ?_
        refine VS.iadd dL_hangs_524 ?_
        refine VS.val (y := nI (clA (M 1) (lp (8 * a + b + 1)) (lp (8 * a + b + 1)) (lp (8 * a + b)))) (acc (z := 0) rfl (by unfold clA; rw [lp_nat (cB (M 1) 1) hb, if_neg (fun z => by rw [hq] at z; exact absurd z.2 (by decide))]; omega)) ?_
        exact k525
    · refine VS.iload dL_hangs_496 rfl ?_
      refine VS.iload dL_hangs_498 rfl ?_
      refine VS.iload dL_hangs_500 rfl ?_
      refine VS.icmp_ge 523 dL_hangs_502 (by decide) (fun _ => ?_) (fun hh => absurd (nI_le (by omega) (by omega)) hh)
      refine VS.iconst (0) dL_hangs_523 rfl ?_
      refine VS.iadd dL_hangs_524 ?_
      refine VS.val (y := nI (clA (M 1) (lp (8 * a + b + 1)) (lp (8 * a + b + 1)) (lp (8 * a + b)))) (acc (z := 0) rfl (by unfold clA; rw [lp_nat (cB (M 1) 1) hb, if_neg (fun z => hab z.1)]; omega)) ?_
      exact k525
  refine VS.istore dL_hangs_525 (by decide) rfl ?_
  refine VS.iinc (2) dL_hangs_527 rfl (by decide) (by decide) rfl ?_
  refine VS.goto 490 dL_hangs_530 (by decide) ?_
  refine VS.nf [some (.ref 0), some (.int gm), some (.int tu), some (.int 1), some (.int (nI (sm (bt (rK (M 1))) (lp (8 * a + b + 1))))), some (.int (nI (sm (bt (rTh (M 1))) (lp (8 * a + b + 1))))), some (.int (nI (sm (bt (M 1 17)) (lp (8 * a + b + 1))))), some (.int (nI (clA (M 1) (lp (8 * a + b + 1)) (lp (8 * a + b + 1)) (lp (8 * a + b))))), some (.int un), some (.int dg), some (.int (nI (sm (bt (M 1 0)) (lq (8 * a + b + 1))))), some (.int (nI a)), some (.int (nI (sm (bt (rTh (M 1))) (lr a (b + 1))))), some (.int (nI (sm (nkB (M 1)) (lr a (b + 1))))), some (.int (ngJ (rTh (M 1)) a (b + 1))), some (.int (nI b)), some (.int (nI (ek a b))), some (.int al), some (.int ye), some (.int no), some (.int ow), some (.int 2)] rfl ?_
  refine VS.iload dL_hangs_490 rfl ?_
  refine VS.iconst (3) dL_hangs_492 rfl ?_
  refine VS.icmp_ge 533 dL_hangs_493 (by decide) (fun hh => absurd hh (by decide)) (fun _ => ?_)
  refine VS.joinB 525 [.int (nI (clA (M 1) (lp (8 * a + b + 1)) (lp (8 * a + b + 1)) (lp (8 * a + b + 1))))] (fun k525 => ?_) ?_
  · by_cases hab : a < b
    · rcases bool_c (cB (M 1) 2 (ek a b)) with hq | hq
      · refine VS.iload dL_hangs_496 rfl ?_
        refine VS.iload dL_hangs_498 rfl ?_
        refine VS.iload dL_hangs_500 rfl ?_
        refine VS.icmp_ge 523 dL_hangs_502 (by decide) (fun hh => absurd hh (nI_ge hab (by omega))) (fun _ => ?_)
        refine VS.iload dL_hangs_505 rfl ?_
        refine VS.iload dL_hangs_507 rfl ?_
        refine VS.ior dL_hangs_509 ?_
        refine VS.iload dL_hangs_510 rfl ?_
        refine VS.ishr dL_hangs_512 ?_
        refine VS.iconst (1) dL_hangs_513 rfl ?_
        refine VS.iand dL_hangs_514 ?_
        refine VS.val (y := iB (cB (M 1) 2 (ek a b))) (by rw [hye, hno]; exact yn_p2 (M 1) hk) ?_
        refine VS.iconst (1) dL_hangs_515 rfl ?_
        refine VS.icmp_ne 523 dL_hangs_516 (by decide) (fun hh => absurd (congrArg iB hq) hh) (fun _ => ?_)
        refine VS.iconst (1) dL_hangs_519 rfl ?_
        refine VS.goto 524 dL_hangs_520 (by decide) ?_
        refine VS.iadd dL_hangs_524 ?_
        refine VS.val (y := nI (clA (M 1) (lp (8 * a + b + 1)) (lp (8 * a + b + 1)) (lp (8 * a + b + 1)))) (acc (z := 1) rfl (by unfold clA; rw [lp_nat (cB (M 1) 2) hb, if_pos ⟨hab, hq⟩]; omega)) ?_
        exact k525
      · refine VS.iload dL_hangs_496 rfl ?_
        refine VS.iload dL_hangs_498 rfl ?_
        refine VS.iload dL_hangs_500 rfl ?_
        refine VS.icmp_ge 523 dL_hangs_502 (by decide) (fun hh => absurd hh (nI_ge hab (by omega))) (fun _ => ?_)
        refine VS.iload dL_hangs_505 rfl ?_
        refine VS.iload dL_hangs_507 rfl ?_
        refine VS.ior dL_hangs_509 ?_
        refine VS.iload dL_hangs_510 rfl ?_
        refine VS.ishr dL_hangs_512 ?_
        refine VS.iconst (1) dL_hangs_513 rfl ?_
        refine VS.iand dL_hangs_514 ?_
        refine VS.val (y := iB (cB (M 1) 2 (ek a b))) (by rw [hye, hno]; exact yn_p2 (M 1) hk) ?_
        refine VS.iconst (1) dL_hangs_515 rfl ?_
        refine VS.icmp_ne 523 dL_hangs_516 (by decide) (fun _ => ?_) (fun hh => absurd hh (by rw [hq]; decide))
        refine VS.iconst (0) dL_hangs_523 rfl ?_
        refine VS.iadd dL_hangs_524 ?_
        refine VS.val (y := nI (clA (M 1) (lp (8 * a + b + 1)) (lp (8 * a + b + 1)) (lp (8 * a + b + 1)))) (acc (z := 0) rfl (by unfold clA; rw [lp_nat (cB (M 1) 2) hb, if_neg (fun z => by rw [hq] at z; exact absurd z.2 (by decide))]; omega)) ?_
        exact k525
    · refine VS.iload dL_hangs_496 rfl ?_
      refine VS.iload dL_hangs_498 rfl ?_
      refine VS.iload dL_hangs_500 rfl ?_
      refine VS.icmp_ge 523 dL_hangs_502 (by decide) (fun _ => ?_) (fun hh => absurd (nI_le (by omega) (by omega)) hh)
      refine VS.iconst (0) dL_hangs_523 rfl ?_
      refine VS.iadd dL_hangs_524 ?_
      refine VS.val (y := nI (clA (M 1) (lp (8 * a + b + 1)) (lp (8 * a + b + 1)) (lp (8 * a + b + 1)))) (acc (z := 0) rfl (by unfold clA; rw [lp_nat (cB (M 1) 2) hb, if_neg (fun z => hab z.1)]; omega)) ?_
      exact k525
  refine VS.istore dL_hangs_525 (by decide) rfl ?_
  refine VS.iinc (3) dL_hangs_527 rfl (by decide) (by decide) rfl ?_
  refine VS.goto 490 dL_hangs_530 (by decide) ?_
  refine VS.nf [some (.ref 0), some (.int gm), some (.int tu), some (.int 1), some (.int (nI (sm (bt (rK (M 1))) (lp (8 * a + b + 1))))), some (.int (nI (sm (bt (rTh (M 1))) (lp (8 * a + b + 1))))), some (.int (nI (sm (bt (M 1 17)) (lp (8 * a + b + 1))))), some (.int (nI (clA (M 1) (lp (8 * a + b + 1)) (lp (8 * a + b + 1)) (lp (8 * a + b + 1))))), some (.int un), some (.int dg), some (.int (nI (sm (bt (M 1 0)) (lq (8 * a + b + 1))))), some (.int (nI a)), some (.int (nI (sm (bt (rTh (M 1))) (lr a (b + 1))))), some (.int (nI (sm (nkB (M 1)) (lr a (b + 1))))), some (.int (ngJ (rTh (M 1)) a (b + 1))), some (.int (nI b)), some (.int (nI (ek a b))), some (.int al), some (.int ye), some (.int no), some (.int ow), some (.int 3)] rfl ?_
  refine VS.iload dL_hangs_490 rfl ?_
  refine VS.iconst (3) dL_hangs_492 rfl ?_
  refine VS.icmp_ge 533 dL_hangs_493 (by decide) (fun _ => ?_) (fun hh => absurd (by decide) hh)
  refine VS.iload_n dL_hangs_533 rfl ?_
  refine VS.if_eq 591 dL_hangs_534 (by decide) (fun hh => absurd hh (by decide)) (fun _ => ?_)
  refine VS.joinB 568 [] (fun k568 => ?_) ?_
  · rcases bool_c (bt (rTh (M 1)) (ek a b)) with hT | hT
    · refine VS.aload_n dL_hangs_537 rfl ?_
      refine VS.iload dL_hangs_538 rfl ?_
      refine VS.iload dL_hangs_540 rfl ?_
      refine VS.callT (ak_knownWay l ha hb S hS) dL_hangs_542 mi_X6_knownWay im_X6_knownWay sel_X6_knownWay ml_L_89 (by decide) rfl rfl (rmOk_D (by decide) (by decide)) (Nat.le_of_ble_eq_true rfl) rfl ?_
      refine VS.val (y := wy) (hwy.symm) ?_
      refine VS.iconst (1) dL_hangs_545 rfl ?_
      refine VS.icmp_ne 553 dL_hangs_546 (by decide) (fun hh => absurd (hw1.mpr hT) hh) (fun _ => ?_)
      refine VS.iconst (1) dL_hangs_549 rfl ?_
      refine VS.goto 554 dL_hangs_550 (by decide) ?_
      refine VS.iload dL_hangs_554 rfl ?_
      refine VS.iconst (1) dL_hangs_556 rfl ?_
      refine VS.icmp_ne 564 dL_hangs_557 (by decide) (fun hh => absurd (hT1 hT) hh) (fun _ => ?_)
      refine VS.iconst (1) dL_hangs_560 rfl ?_
      refine VS.goto 565 dL_hangs_561 (by decide) ?_
      refine VS.icmp_ne 591 dL_hangs_565 (by decide) (fun hh => absurd (rfl) hh) (fun _ => ?_)
      exact k568
    · refine VS.aload_n dL_hangs_537 rfl ?_
      refine VS.iload dL_hangs_538 rfl ?_
      refine VS.iload dL_hangs_540 rfl ?_
      refine VS.callT (ak_knownWay l ha hb S hS) dL_hangs_542 mi_X6_knownWay im_X6_knownWay sel_X6_knownWay ml_L_89 (by decide) rfl rfl (rmOk_D (by decide) (by decide)) (Nat.le_of_ble_eq_true rfl) rfl ?_
      refine VS.val (y := wy) (hwy.symm) ?_
      refine VS.iconst (1) dL_hangs_545 rfl ?_
      refine VS.icmp_ne 553 dL_hangs_546 (by decide) (fun _ => ?_) (fun hh => absurd hh (fun z => by rw [hw1.mp z] at hT; exact absurd hT (by decide)))
      refine VS.iconst (0) dL_hangs_553 rfl ?_
      refine VS.iload dL_hangs_554 rfl ?_
      refine VS.iconst (1) dL_hangs_556 rfl ?_
      refine VS.icmp_ne 564 dL_hangs_557 (by decide) (fun _ => ?_) (fun hh => absurd hh (hT0 hT))
      refine VS.iconst (0) dL_hangs_564 rfl ?_
      refine VS.icmp_ne 591 dL_hangs_565 (by decide) (fun hh => absurd (rfl) hh) (fun _ => ?_)
      exact k568
  refine VS.aload_n dL_hangs_568 rfl ?_
  refine VS.iload dL_hangs_569 rfl ?_
  refine VS.iload dL_hangs_571 rfl ?_
  refine VS.callT (ak_knownWay l ha hb S hS) dL_hangs_573 mi_X6_knownWay im_X6_knownWay sel_X6_knownWay ml_L_89 (by decide) rfl rfl (rmOk_D (by decide) (by decide)) (Nat.le_of_ble_eq_true rfl) rfl ?_
  refine VS.val (y := wy) (hwy.symm) ?_
  refine VS.aload_n dL_hangs_576 rfl ?_
  refine VS.iload dL_hangs_577 rfl ?_
  refine VS.iload dL_hangs_579 rfl ?_
  refine VS.callT (ak_knownWay l hb ha S hS) dL_hangs_581 mi_X6_knownWay im_X6_knownWay sel_X6_knownWay ml_L_89 (by decide) rfl rfl (rmOk_D (by decide) (by decide)) (Nat.le_of_ble_eq_true rfl) rfl ?_
  refine VS.val (y := wy) ((way_sym hb ha).trans hwy.symm) ?_
  refine VS.icmp_ne 591 dL_hangs_584 (by decide) (fun hh => absurd (rfl) hh) (fun _ => ?_)
  refine VS.iconst (1) dL_hangs_587 rfl ?_
  refine VS.goto 592 dL_hangs_588 (by decide) ?_
  refine VS.istore_n dL_hangs_592 (by decide) rfl ?_
  refine VS.forget 16 ?_
  refine VS.forget 17 ?_
  refine VS.forget 18 ?_
  refine VS.forget 19 ?_
  refine VS.forget 20 ?_
  refine VS.forget 21 ?_
  exact kk
set_option maxRecDepth 100000 in
set_option maxHeartbeats 1500000 in
theorem hg_pair (l : Launch) {S M : SS} (hS : RelK S M) (hx : GX (M 1)) {gm tu un dg : Int32} (hgm : gm = M 1 6) {a b : Nat} (ha : a < 8) (hb : b < 8) (hne : a ≠ b) (kk : VS l (rmD 6) RL cL_hangs 22 (XF (some .boolean) 77 (some (.int 1)) (shW shK S)) 0 0 77 (shW shK S) 593 [some (.ref 0), some (.int gm), some (.int tu), some (.int 1), some (.int (nI (sm (bt (rK (M 1))) (lp (8 * a + b + 1))))), some (.int (nI (sm (bt (rTh (M 1))) (lp (8 * a + b + 1))))), some (.int (nI (sm (bt (M 1 17)) (lp (8 * a + b + 1))))), some (.int (nI (clA (M 1) (lp (8 * a + b + 1)) (lp (8 * a + b + 1)) (lp (8 * a + b + 1))))), some (.int un), some (.int dg), some (.int (nI (sm (bt (M 1 0)) (lq (8 * a + b + 1))))), some (.int (nI a)), some (.int (nI (sm (bt (rTh (M 1))) (lr a (b + 1))))), some (.int (nI (sm (nkB (M 1)) (lr a (b + 1))))), some (.int (ngJ (rTh (M 1)) a (b + 1))), some (.int (nI b)), none, none, none, none, none, none] []) : VS l (rmD 6) RL cL_hangs 22 (XF (some .boolean) 77 (some (.int 1)) (shW shK S)) 0 0 77 (shW shK S) 126 [some (.ref 0), some (.int gm), some (.int tu), some (.int 1), some (.int (nI (sm (bt (rK (M 1))) (lp (8 * a + b))))), some (.int (nI (sm (bt (rTh (M 1))) (lp (8 * a + b))))), some (.int (nI (sm (bt (M 1 17)) (lp (8 * a + b))))), some (.int (nI (clA (M 1) (lp (8 * a + b)) (lp (8 * a + b)) (lp (8 * a + b))))), some (.int un), some (.int dg), some (.int (nI (sm (bt (M 1 0)) (lq (8 * a + b))))), some (.int (nI a)), some (.int (nI (sm (bt (rTh (M 1))) (lr a b)))), some (.int (nI (sm (nkB (M 1)) (lr a b)))), some (.int (ngJ (rTh (M 1)) a b)), some (.int (nI b)), none, none, none, none, none, none] [] := by
  obtain ⟨he, hk, hsy, hw⟩ := ek_ok a ha b hb hne
  have hc := seen_c (s := M 1) hk
  exact hg_pair1 l hS hx hgm ha hb hne rfl rfl rfl rfl rfl rfl hc (hg_pair2 l hS hx hgm ha hb hne rfl rfl rfl rfl rfl rfl hc (hg_pair3 l hS hx hgm ha hb hne rfl rfl rfl rfl rfl rfl hc kk))
