/-! the law's acts: texts -/
/-- from one point of acts to another: every object in P comes to one in P2 -/
def TStp (l : Launch) (P : SS → Prop) (pc : Nat) (L : List (Option Value)) (P2 : SS → Prop) (pc2 : Nat) (L2 : List (Option Value)) : Prop := ∀ S, P S → ∃ S2, P2 S2 ∧ ∀ X : XT, VS l (rmD 8) RL cL_acts 9 X 0 0 77 (shW shK S2) pc2 L2 [] → VS l (rmD 8) RL cL_acts 9 X 0 0 77 (shW shK S) pc L []
theorem TStp.trans {l : Launch} {P P2 P3 : SS → Prop} {pc pc2 pc3 : Nat} {L L2 L3 : List (Option Value)} (h : TStp l P pc L P2 pc2 L2) (h2 : TStp l P2 pc2 L2 P3 pc3 L3) : TStp l P pc L P3 pc3 L3 := fun S hS => by
  obtain ⟨S2, a1, a2⟩ := h S hS
  obtain ⟨S3, b1, b2⟩ := h2 S2 a1
  exact ⟨S3, b1, fun X k => a2 X (b2 X k)⟩
theorem TStp.still {l : Launch} {P : SS → Prop} {pc pc2 : Nat} {L L2 : List (Option Value)} (h : ∀ (S : SS) (X : XT), VS l (rmD 8) RL cL_acts 9 X 0 0 77 (shW shK S) pc2 L2 [] → VS l (rmD 8) RL cL_acts 9 X 0 0 77 (shW shK S) pc L []) : TStp l P pc L P pc2 L2 := fun S hS => ⟨S, hS, h S⟩
/-- to the end of acts -/
def Fin8 (l : Launch) (P : SS → Prop) (pc : Nat) (L : List (Option Value)) (v : Int32) (M2 : SS) : Prop := ∀ S, P S → ∃ S2, RelK S2 M2 ∧ VS l (rmD 8) RL cL_acts 9 (XF (some .int) 77 (some (.int v)) (shW shK S2)) 0 0 77 (shW shK S) pc L []
theorem TStp.fin {l : Launch} {P P2 : SS → Prop} {pc pc2 : Nat} {L L2 : List (Option Value)} {v : Int32} {M2 : SS} (h : TStp l P pc L P2 pc2 L2) (h2 : Fin8 l P2 pc2 L2 v M2) : Fin8 l P pc L v M2 := fun S hS => by
  obtain ⟨S2, a1, a2⟩ := h S hS
  obtain ⟨S3, b1, b2⟩ := h2 S2 a1
  exact ⟨S3, b1, a2 _ b2⟩
/-- a pad of L signs P -/
def PdL (M : SS) (L : Nat) (P : Nat → Int32) : SS → Prop := fun S => Rel S (mPd M L P)
/-- what one sign does to the objects in P -/
def PutOk (l : Launch) (M : SS) (P : SS → Prop) (c : Int64) : Prop := ∃ (v : Int32) (L2 : Nat) (P2 : Nat → Int32), L2 < 2 ^ 31 ∧ ∀ S, P S → ∃ S2, CtS l yX6_put cX6_put 3 (some .int) (rmD 3) [.ref 0, .long c] 77 shK S (some (.int v)) S2 ∧ PdL M L2 P2 S2
theorem put_any (l : Launch) (M : SS) {L : Nat} (P : Nat → Int32) (hL : L < 2 ^ 31) (c : Int64) : PutOk l M (PdL M L P) c := by
  obtain ⟨v, L2, P2, h1, h2⟩ := rl_put l M L P hL c
  exact ⟨v, L2, P2, h1, h2⟩
theorem put_first (l : Launch) (M : SS) {c : Int64} (hc : chI c = nI 1) : PutOk l M (fun S => R0 S M) c := ⟨1, 1, _, by decide, fun S h => r0_put l hc h⟩
theorem ch_43 : chI 43 = nI 1 ∧ chI 45 = nI 1 ∧ chI 100 = nI 1 ∧ chI 112 = nI 1 ∧ chI 99 = nI 1 := by decide +kernel
def Rch (l : Launch) (M : SS) (P : SS → Prop) (pc : Nat) (L : List (Option Value)) (pc2 : Nat) (L2 : Int32 → List (Option Value)) : Prop := ∃ (v : Int32) (n : Nat) (p : Nat → Int32), n < 2 ^ 31 ∧ TStp l P pc L (PdL M n p) pc2 (L2 v)
theorem Rch.put {l : Launch} {M : SS} {P : SS → Prop} {pc pc2 : Nat} {L : List (Option Value)} {L2 : Int32 → List (Option Value)} {c : Int64} (h : PutOk l M P c) (hw : ∀ (v : Int32) (S S2 : SS) (X : XT), CtS l yX6_put cX6_put 3 (some .int) (rmD 3) [.ref 0, .long c] 77 shK S (some (.int v)) S2 → VS l (rmD 8) RL cL_acts 9 X 0 0 77 (shW shK S2) pc2 (L2 v) [] → VS l (rmD 8) RL cL_acts 9 X 0 0 77 (shW shK S) pc L []) : Rch l M P pc L pc2 L2 := by
  obtain ⟨v, n, p, h1, h2⟩ := h
  refine ⟨v, n, p, h1, fun S hS => ?_⟩
  obtain ⟨S2, a1, a2⟩ := h2 S hS
  exact ⟨S2, a2, fun X => hw v S S2 X a1⟩
set_option maxRecDepth 100000 in
set_option maxHeartbeats 1500000 in
theorem tx_first (l : Launch) {M : SS} {P : SS → Prop} {m j : Nat} {len : Option Value} (hput : ∀ c : Int64, c = 43 ∨ c = 45 ∨ c = 100 ∨ c = 112 ∨ c = 99 → PutOk l M P c) : Rch l M P 283 [some (.ref 0), some (.int (nI m)), some (.int (nI (m / 32))), some (.int (nI (m / 32 % 8))), some (.int (acB (m / 32))), len, some (.int (nI (j))), some (.int (zV (m / 32) (j))), some (.int (kV (m / 32) (j)))] 341 (fun v => [some (.ref 0), some (.int (nI m)), some (.int (nI (m / 32))), some (.int (nI (m / 32 % 8))), some (.int (acB (m / 32))), some (.int v), some (.int (nI (j))), some (.int (zV (m / 32) (j))), some (.int (kV (m / 32) (j)))]) := by
  by_cases hk1 : kV (m / 32) j < 3
  · refine Rch.put (hput 43 (by simp)) (fun v S S2 X hC k => ?_)
    refine VS.aload_n dL_acts_283 rfl ?_
    refine VS.iload dL_acts_284 rfl ?_
    refine VS.iconst (3) dL_acts_286 rfl ?_
    refine VS.icmp_ge 296 dL_acts_287 (by decide) (fun hh => absurd hh (Int32.not_le.mpr hk1)) (fun _ => ?_)
    refine VS.ldc2 dL_acts_290 kc_L_57 ?_
    refine VS.goto 336 dL_acts_293 (by decide) ?_
    refine VS.callT (hC) dL_acts_336 mi_X6_put im_X6_put sel_X6_put ml_L_53 (by decide) rfl rfl (rmOk_D (by decide) (by decide)) (Nat.le_of_ble_eq_true rfl) rfl ?_
    refine VS.istore dL_acts_339 (by decide) rfl ?_
    exact k
  · by_cases hk2 : kV (m / 32) j < 5
    · refine Rch.put (hput 45 (by simp)) (fun v S S2 X hC k => ?_)
      refine VS.aload_n dL_acts_283 rfl ?_
      refine VS.iload dL_acts_284 rfl ?_
      refine VS.iconst (3) dL_acts_286 rfl ?_
      refine VS.icmp_ge 296 dL_acts_287 (by decide) (fun _ => ?_) (fun hh => absurd (Int32.not_lt.mp hk1) hh)
      refine VS.iload dL_acts_296 rfl ?_
      refine VS.iconst (5) dL_acts_298 rfl ?_
      refine VS.icmp_ge 308 dL_acts_299 (by decide) (fun hh => absurd hh (Int32.not_le.mpr hk2)) (fun _ => ?_)
      refine VS.ldc2 dL_acts_302 kc_L_59 ?_
      refine VS.goto 336 dL_acts_305 (by decide) ?_
      refine VS.callT (hC) dL_acts_336 mi_X6_put im_X6_put sel_X6_put ml_L_53 (by decide) rfl rfl (rmOk_D (by decide) (by decide)) (Nat.le_of_ble_eq_true rfl) rfl ?_
      refine VS.istore dL_acts_339 (by decide) rfl ?_
      exact k
    · by_cases hk3 : kV (m / 32) j = 5
      · refine Rch.put (hput 100 (by simp)) (fun v S S2 X hC k => ?_)
        refine VS.aload_n dL_acts_283 rfl ?_
        refine VS.iload dL_acts_284 rfl ?_
        refine VS.iconst (3) dL_acts_286 rfl ?_
        refine VS.icmp_ge 296 dL_acts_287 (by decide) (fun _ => ?_) (fun hh => absurd (Int32.not_lt.mp hk1) hh)
        refine VS.iload dL_acts_296 rfl ?_
        refine VS.iconst (5) dL_acts_298 rfl ?_
        refine VS.icmp_ge 308 dL_acts_299 (by decide) (fun _ => ?_) (fun hh => absurd (Int32.not_lt.mp hk2) hh)
        refine VS.iload dL_acts_308 rfl ?_
        refine VS.iconst (5) dL_acts_310 rfl ?_
        refine VS.icmp_ne 320 dL_acts_311 (by decide) (fun hh => absurd (hk3) hh) (fun _ => ?_)
        refine VS.ldc2 dL_acts_314 kc_L_61 ?_
        refine VS.goto 336 dL_acts_317 (by decide) ?_
        refine VS.callT (hC) dL_acts_336 mi_X6_put im_X6_put sel_X6_put ml_L_53 (by decide) rfl rfl (rmOk_D (by decide) (by decide)) (Nat.le_of_ble_eq_true rfl) rfl ?_
        refine VS.istore dL_acts_339 (by decide) rfl ?_
        exact k
      · by_cases hk4 : kV (m / 32) j = 6
        · refine Rch.put (hput 112 (by simp)) (fun v S S2 X hC k => ?_)
          refine VS.aload_n dL_acts_283 rfl ?_
          refine VS.iload dL_acts_284 rfl ?_
          refine VS.iconst (3) dL_acts_286 rfl ?_
          refine VS.icmp_ge 296 dL_acts_287 (by decide) (fun _ => ?_) (fun hh => absurd (Int32.not_lt.mp hk1) hh)
          refine VS.iload dL_acts_296 rfl ?_
          refine VS.iconst (5) dL_acts_298 rfl ?_
          refine VS.icmp_ge 308 dL_acts_299 (by decide) (fun _ => ?_) (fun hh => absurd (Int32.not_lt.mp hk2) hh)
          refine VS.iload dL_acts_308 rfl ?_
          refine VS.iconst (5) dL_acts_310 rfl ?_
          refine VS.icmp_ne 320 dL_acts_311 (by decide) (fun _ => ?_) (fun hh => absurd hh (hk3))
          refine VS.iload dL_acts_320 rfl ?_
          refine VS.bipush (6) dL_acts_322 rfl ?_
          refine VS.icmp_ne 333 dL_acts_324 (by decide) (fun hh => absurd (hk4) hh) (fun _ => ?_)
          refine VS.ldc2 dL_acts_327 kc_L_63 ?_
          refine VS.goto 336 dL_acts_330 (by decide) ?_
          refine VS.callT (hC) dL_acts_336 mi_X6_put im_X6_put sel_X6_put ml_L_53 (by decide) rfl rfl (rmOk_D (by decide) (by decide)) (Nat.le_of_ble_eq_true rfl) rfl ?_
          refine VS.istore dL_acts_339 (by decide) rfl ?_
          exact k
        · refine Rch.put (hput 99 (by simp)) (fun v S S2 X hC k => ?_)
          refine VS.aload_n dL_acts_283 rfl ?_
          refine VS.iload dL_acts_284 rfl ?_
          refine VS.iconst (3) dL_acts_286 rfl ?_
          refine VS.icmp_ge 296 dL_acts_287 (by decide) (fun _ => ?_) (fun hh => absurd (Int32.not_lt.mp hk1) hh)
          refine VS.iload dL_acts_296 rfl ?_
          refine VS.iconst (5) dL_acts_298 rfl ?_
          refine VS.icmp_ge 308 dL_acts_299 (by decide) (fun _ => ?_) (fun hh => absurd (Int32.not_lt.mp hk2) hh)
          refine VS.iload dL_acts_308 rfl ?_
          refine VS.iconst (5) dL_acts_310 rfl ?_
          refine VS.icmp_ne 320 dL_acts_311 (by decide) (fun _ => ?_) (fun hh => absurd hh (hk3))
          refine VS.iload dL_acts_320 rfl ?_
          refine VS.bipush (6) dL_acts_322 rfl ?_
          refine VS.icmp_ne 333 dL_acts_324 (by decide) (fun _ => ?_) (fun hh => absurd hh (hk4))
          refine VS.ldc2 dL_acts_333 kc_L_65 ?_
          refine VS.callT (hC) dL_acts_336 mi_X6_put im_X6_put sel_X6_put ml_L_53 (by decide) rfl rfl (rmOk_D (by decide) (by decide)) (Nat.le_of_ble_eq_true rfl) rfl ?_
          refine VS.istore dL_acts_339 (by decide) rfl ?_
          exact k
set_option maxRecDepth 100000 in
set_option maxHeartbeats 1500000 in
theorem tx_digit (l : Launch) {M : SS} {n : Nat} {p : Nat → Int32} (hn : n < 2 ^ 31) {m j : Nat} (v0 : Int32) : Rch l M (PdL M n p) 341 [some (.ref 0), some (.int (nI m)), some (.int (nI (m / 32))), some (.int (nI (m / 32 % 8))), some (.int (acB (m / 32))), some (.int v0), some (.int (nI (j))), some (.int (zV (m / 32) (j))), some (.int (kV (m / 32) (j)))] 371 (fun v => [some (.ref 0), some (.int (nI m)), some (.int (nI (m / 32))), some (.int (nI (m / 32 % 8))), some (.int (acB (m / 32))), some (.int v), some (.int (nI (j))), some (.int (zV (m / 32) (j))), some (.int (kV (m / 32) (j)))]) := by
  by_cases hk : ¬ kV (m / 32) j = 7
  · refine ⟨v0, n, p, hn, TStp.still (fun S X k => ?_)⟩
    refine VS.iload dL_acts_341 rfl ?_
    refine VS.bipush (7) dL_acts_343 rfl ?_
    refine VS.icmp_ne 367 dL_acts_345 (by decide) (fun _ => ?_) (fun hh => absurd hh (hk))
    refine VS.iload dL_acts_367 rfl ?_
    refine VS.istore dL_acts_369 (by decide) rfl ?_
    exact k
  · refine Rch.put (put_any l M p hn (48 + (zV (m / 32) j / 8 - zV (m / 32) j / 8 / 3 * 3).toInt64)) (fun v S S2 X hC k => ?_)
    refine VS.iload dL_acts_341 rfl ?_
    refine VS.bipush (7) dL_acts_343 rfl ?_
    refine VS.icmp_ne 367 dL_acts_345 (by decide) (fun hh => absurd (Decidable.not_not.mp hk) hh) (fun _ => ?_)
    refine VS.aload_n dL_acts_348 rfl ?_
    refine VS.ldc2 dL_acts_349 kc_L_67 ?_
    refine VS.iload dL_acts_352 rfl ?_
    refine VS.bipush (8) dL_acts_354 rfl ?_
    refine VS.idiv dL_acts_356 (by decide) ?_
    refine VS.iconst (3) dL_acts_357 rfl ?_
    refine VS.irem dL_acts_358 (by decide) ?_
    refine VS.i2l dL_acts_359 ?_
    refine VS.ladd dL_acts_360 ?_
    refine VS.callT (hC) dL_acts_361 mi_X6_put im_X6_put sel_X6_put ml_L_53 (by decide) rfl rfl (rmOk_D (by decide) (by decide)) (Nat.le_of_ble_eq_true rfl) rfl ?_
    refine VS.goto 369 dL_acts_364 (by decide) ?_
    refine VS.istore dL_acts_369 (by decide) rfl ?_
    exact k
set_option maxRecDepth 100000 in
set_option maxHeartbeats 1500000 in
theorem tx_place (l : Launch) {M : SS} {n : Nat} {p : Nat → Int32} (hn : n < 2 ^ 31) {m j : Nat} (v0 : Int32) : Rch l M (PdL M n p) 371 [some (.ref 0), some (.int (nI m)), some (.int (nI (m / 32))), some (.int (nI (m / 32 % 8))), some (.int (acB (m / 32))), some (.int v0), some (.int (nI (j))), some (.int (zV (m / 32) (j))), some (.int (kV (m / 32) (j)))] 402 (fun v => [some (.ref 0), some (.int (nI m)), some (.int (nI (m / 32))), some (.int (nI (m / 32 % 8))), some (.int (acB (m / 32))), some (.int v), some (.int (nI (j))), some (.int (zV (m / 32) (j))), some (.int (kV (m / 32) (j)))]) := by
  by_cases hk : kV (m / 32) j = 6
  · refine ⟨v0, n, p, hn, TStp.still (fun S X k => ?_)⟩
    refine VS.iload dL_acts_371 rfl ?_
    refine VS.bipush (6) dL_acts_373 rfl ?_
    refine VS.icmp_ne 383 dL_acts_375 (by decide) (fun hh => absurd (hk) hh) (fun _ => ?_)
    refine VS.iload dL_acts_378 rfl ?_
    refine VS.goto 400 dL_acts_380 (by decide) ?_
    refine VS.istore dL_acts_400 (by decide) rfl ?_
    exact k
  · refine Rch.put (put_any l M p hn (97 + (zV (m / 32) j / 8 - zV (m / 32) j / 8 / 8 * 8).toInt64)) (fun v S S2 X hC k => ?_)
    refine VS.iload dL_acts_371 rfl ?_
    refine VS.bipush (6) dL_acts_373 rfl ?_
    refine VS.icmp_ne 383 dL_acts_375 (by decide) (fun _ => ?_) (fun hh => absurd hh (hk))
    refine VS.aload_n dL_acts_383 rfl ?_
    refine VS.ldc2 dL_acts_384 kc_L_69 ?_
    refine VS.iload dL_acts_387 rfl ?_
    refine VS.bipush (8) dL_acts_389 rfl ?_
    refine VS.idiv dL_acts_391 (by decide) ?_
    refine VS.bipush (8) dL_acts_392 rfl ?_
    refine VS.irem dL_acts_394 (by decide) ?_
    refine VS.i2l dL_acts_395 ?_
    refine VS.ladd dL_acts_396 ?_
    refine VS.callT (hC) dL_acts_397 mi_X6_put im_X6_put sel_X6_put ml_L_53 (by decide) rfl rfl (rmOk_D (by decide) (by decide)) (Nat.le_of_ble_eq_true rfl) rfl ?_
    refine VS.istore dL_acts_400 (by decide) rfl ?_
    exact k
set_option maxRecDepth 100000 in
set_option maxHeartbeats 1500000 in
theorem tx_other (l : Launch) {M : SS} {n : Nat} {p : Nat → Int32} (hn : n < 2 ^ 31) {m j : Nat} (v0 : Int32) : Rch l M (PdL M n p) 402 [some (.ref 0), some (.int (nI m)), some (.int (nI (m / 32))), some (.int (nI (m / 32 % 8))), some (.int (acB (m / 32))), some (.int v0), some (.int (nI (j))), some (.int (zV (m / 32) (j))), some (.int (kV (m / 32) (j)))] 450 (fun v => [some (.ref 0), some (.int (nI m)), some (.int (nI (m / 32))), some (.int (nI (m / 32 % 8))), some (.int (acB (m / 32))), some (.int v), some (.int (nI (j))), some (.int (zV (m / 32) (j))), some (.int (kV (m / 32) (j)))]) := by
  by_cases hk : kV (m / 32) j = 5 ∨ kV (m / 32) j = 6
  · refine ⟨v0, n, p, hn, TStp.still (fun S X k => ?_)⟩
    refine VS.iload dL_acts_402 rfl ?_
    refine VS.iconst (5) dL_acts_404 rfl ?_
    refine VS.icmp_eq 415 dL_acts_405 (by decide) (fun h_405 => ?_) (fun h_405 => ?_)
    · refine VS.iload dL_acts_415 rfl ?_
      refine VS.goto 448 dL_acts_417 (by decide) ?_
      refine VS.istore dL_acts_448 (by decide) rfl ?_
      exact k
    · refine VS.iload dL_acts_408 rfl ?_
      refine VS.bipush (6) dL_acts_410 rfl ?_
      refine VS.icmp_ne 420 dL_acts_412 (by decide) (fun hh => absurd (hk.resolve_left h_405) hh) (fun _ => ?_)
      refine VS.iload dL_acts_415 rfl ?_
      refine VS.goto 448 dL_acts_417 (by decide) ?_
      refine VS.istore dL_acts_448 (by decide) rfl ?_
      exact k
  · refine Rch.put (put_any l M p hn (97 + ((zV (m / 32) j / 8 + 1 + (zV (m / 32) j / 64 - zV (m / 32) j / 64 / 7 * 7)) - (zV (m / 32) j / 8 + 1 + (zV (m / 32) j / 64 - zV (m / 32) j / 64 / 7 * 7)) / 8 * 8).toInt64)) (fun v S S2 X hC k => ?_)
    refine VS.iload dL_acts_402 rfl ?_
    refine VS.iconst (5) dL_acts_404 rfl ?_
    refine VS.icmp_eq 415 dL_acts_405 (by decide) (fun hh => absurd hh (fun z => hk (Or.inl z))) (fun _ => ?_)
    refine VS.iload dL_acts_408 rfl ?_
    refine VS.bipush (6) dL_acts_410 rfl ?_
    refine VS.icmp_ne 420 dL_acts_412 (by decide) (fun _ => ?_) (fun hh => absurd hh (fun z => hk (Or.inr z)))
    refine VS.aload_n dL_acts_420 rfl ?_
    refine VS.ldc2 dL_acts_421 kc_L_69 ?_
    refine VS.iload dL_acts_424 rfl ?_
    refine VS.bipush (8) dL_acts_426 rfl ?_
    refine VS.idiv dL_acts_428 (by decide) ?_
    refine VS.iconst (1) dL_acts_429 rfl ?_
    refine VS.iadd dL_acts_430 ?_
    refine VS.iload dL_acts_431 rfl ?_
    refine VS.bipush (64) dL_acts_433 rfl ?_
    refine VS.idiv dL_acts_435 (by decide) ?_
    refine VS.bipush (7) dL_acts_436 rfl ?_
    refine VS.irem dL_acts_438 (by decide) ?_
    refine VS.iadd dL_acts_439 ?_
    refine VS.bipush (8) dL_acts_440 rfl ?_
    refine VS.irem dL_acts_442 (by decide) ?_
    refine VS.i2l dL_acts_443 ?_
    refine VS.ladd dL_acts_444 ?_
    refine VS.callT (hC) dL_acts_445 mi_X6_put im_X6_put sel_X6_put ml_L_53 (by decide) rfl rfl (rmOk_D (by decide) (by decide)) (Nat.le_of_ble_eq_true rfl) rfl ?_
    refine VS.istore dL_acts_448 (by decide) rfl ?_
    exact k
set_option maxRecDepth 100000 in
set_option maxHeartbeats 1500000 in
theorem tx_order (l : Launch) {M : SS} {P : SS → Prop} {m j : Nat} {len : Option Value} (hput : ∀ c : Int64, c = 43 ∨ c = 45 ∨ c = 100 ∨ c = 112 ∨ c = 99 → PutOk l M P c) : Rch l M P 283 [some (.ref 0), some (.int (nI m)), some (.int (nI (m / 32))), some (.int (nI (m / 32 % 8))), some (.int (acB (m / 32))), len, some (.int (nI (j))), some (.int (zV (m / 32) (j))), some (.int (kV (m / 32) (j)))] 238 (fun v => [some (.ref 0), some (.int (nI m)), some (.int (nI (m / 32))), some (.int (nI (m / 32 % 8))), some (.int (acB (m / 32))), some (.int v), some (.int (nI (j + 1))), none, none]) := by
  obtain ⟨v1, n1, p1, h1, t1⟩ := tx_first (m := m) (j := j) (len := len) l hput
  obtain ⟨v2, n2, p2, h2, t2⟩ := tx_digit l h1 (m := m) (j := j) v1
  obtain ⟨v3, n3, p3, h3, t3⟩ := tx_place l h2 (m := m) (j := j) v2
  obtain ⟨v4, n4, p4, h4, t4⟩ := tx_other l h3 (m := m) (j := j) v3
  refine ⟨v4, n4, p4, h4, ((t1.trans t2).trans (t3.trans t4)).trans (TStp.still (fun S X k => ?_))⟩
  refine VS.iinc (nI (j + 1)) dL_acts_450 rfl (by decide) (nI_1 j) rfl ?_
  refine VS.goto 238 dL_acts_453 (by decide) ?_
  refine VS.forget 7 ?_
  refine VS.forget 8 ?_
  exact k
set_option maxRecDepth 100000 in
set_option maxHeartbeats 1500000 in
theorem tx_head0 (l : Launch) {M : SS} {m : Nat} (hm : m < 2 ^ 31) : Rch l M (fun S => R0 S M) 238 [some (.ref 0), some (.int (nI m)), some (.int (nI (m / 32))), some (.int (nI (m / 32 % 8))), some (.int (acB (m / 32))), none, some (.int (nI (0))), none, none] 238 (fun v => [some (.ref 0), some (.int (nI m)), some (.int (nI (m / 32))), some (.int (nI (m / 32 % 8))), some (.int (acB (m / 32))), some (.int v), some (.int (nI (0 + 1))), none, none]) := by
  obtain ⟨v1, n1, p1, h1, t1⟩ := tx_order (m := m) (j := 0) (len := some (.int 0)) l (M := M) (P := fun S => R0 S M) (fun c hc => put_first l M (by
    rcases hc with rfl | rfl | rfl | rfl | rfl
    · exact ch_43.1
    · exact ch_43.2.1
    · exact ch_43.2.2.1
    · exact ch_43.2.2.2.1
    · exact ch_43.2.2.2.2))
  refine ⟨v1, n1, p1, h1, TStp.trans (TStp.still (fun S X k => ?_)) t1⟩
  have hj : 0 < 1 + m / 32 % 4 := by omega
  refine VS.iload dL_acts_238 rfl ?_
  refine VS.iconst (1) dL_acts_240 rfl ?_
  refine VS.iload_n dL_acts_241 rfl ?_
  refine VS.iconst (4) dL_acts_242 rfl ?_
  refine VS.irem dL_acts_243 (by decide) ?_
  refine VS.val (y := nI (m / 32 % 4)) (rem_n (d := 4) (by omega) (by decide) (by decide)) ?_
  refine VS.iadd dL_acts_244 ?_
  refine VS.val (y := nI (1 + m / 32 % 4)) (nI_add 1 _) ?_
  refine VS.icmp_ge 456 dL_acts_245 (by decide) (fun hh => absurd hh (nI_ge hj (by omega))) (fun _ => ?_)
  refine VS.iload_n dL_acts_248 rfl ?_
  refine VS.iconst (4) dL_acts_249 rfl ?_
  refine VS.idiv dL_acts_250 (by decide) ?_
  refine VS.val (y := nI (m / 32 / 4)) (pk_div (d := 4) (by omega) (by decide) (by decide)) ?_
  refine VS.iconst (5) dL_acts_251 rfl ?_
  refine VS.iload dL_acts_252 rfl ?_
  refine VS.imul dL_acts_254 ?_
  refine VS.ishr dL_acts_255 ?_
  refine VS.val (y := zV (m / 32) 0) (rfl) ?_
  refine VS.istore dL_acts_256 (by decide) rfl ?_
  refine VS.iload dL_acts_258 rfl ?_
  refine VS.bipush (8) dL_acts_260 rfl ?_
  refine VS.irem dL_acts_262 (by decide) ?_
  refine VS.val (y := kV (m / 32) 0) (rfl) ?_
  refine VS.istore dL_acts_263 (by decide) rfl ?_
  refine VS.iload dL_acts_265 rfl ?_
  refine VS.if_le 280 dL_acts_267 (by decide) (fun _ => ?_) (fun hh => absurd (by decide) hh)
  refine VS.iconst (0) dL_acts_280 rfl ?_
  refine VS.istore dL_acts_281 (by decide) rfl ?_
  exact k
set_option maxRecDepth 100000 in
set_option maxHeartbeats 1500000 in
theorem tx_head (l : Launch) {M : SS} {n : Nat} {p : Nat → Int32} (hn : n < 2 ^ 31) {m j : Nat} (hm : m < 2 ^ 31) (h0 : 0 < j) (hj : j < 1 + m / 32 % 4) (v0 : Int32) : Rch l M (PdL M n p) 238 [some (.ref 0), some (.int (nI m)), some (.int (nI (m / 32))), some (.int (nI (m / 32 % 8))), some (.int (acB (m / 32))), some (.int v0), some (.int (nI (j))), none, none] 238 (fun v => [some (.ref 0), some (.int (nI m)), some (.int (nI (m / 32))), some (.int (nI (m / 32 % 8))), some (.int (acB (m / 32))), some (.int v), some (.int (nI (j + 1))), none, none]) := by
  have key : Rch l M (PdL M n p) 238 [some (.ref 0), some (.int (nI m)), some (.int (nI (m / 32))), some (.int (nI (m / 32 % 8))), some (.int (acB (m / 32))), some (.int v0), some (.int (nI (j))), none, none] 283 (fun v => [some (.ref 0), some (.int (nI m)), some (.int (nI (m / 32))), some (.int (nI (m / 32 % 8))), some (.int (acB (m / 32))), some (.int v), some (.int (nI (j))), some (.int (zV (m / 32) (j))), some (.int (kV (m / 32) (j)))]) := by
    refine Rch.put (put_any l M p hn 59) (fun v S S2 X hC k => ?_)
    refine VS.iload dL_acts_238 rfl ?_
    refine VS.iconst (1) dL_acts_240 rfl ?_
    refine VS.iload_n dL_acts_241 rfl ?_
    refine VS.iconst (4) dL_acts_242 rfl ?_
    refine VS.irem dL_acts_243 (by decide) ?_
    refine VS.val (y := nI (m / 32 % 4)) (rem_n (d := 4) (by omega) (by decide) (by decide)) ?_
    refine VS.iadd dL_acts_244 ?_
    refine VS.val (y := nI (1 + m / 32 % 4)) (nI_add 1 _) ?_
    refine VS.icmp_ge 456 dL_acts_245 (by decide) (fun hh => absurd hh (nI_ge hj (by omega))) (fun _ => ?_)
    refine VS.iload_n dL_acts_248 rfl ?_
    refine VS.iconst (4) dL_acts_249 rfl ?_
    refine VS.idiv dL_acts_250 (by decide) ?_
    refine VS.val (y := nI (m / 32 / 4)) (pk_div (d := 4) (by omega) (by decide) (by decide)) ?_
    refine VS.iconst (5) dL_acts_251 rfl ?_
    refine VS.iload dL_acts_252 rfl ?_
    refine VS.imul dL_acts_254 ?_
    refine VS.ishr dL_acts_255 ?_
    refine VS.val (y := zV (m / 32) j) (rfl) ?_
    refine VS.istore dL_acts_256 (by decide) rfl ?_
    refine VS.iload dL_acts_258 rfl ?_
    refine VS.bipush (8) dL_acts_260 rfl ?_
    refine VS.irem dL_acts_262 (by decide) ?_
    refine VS.val (y := kV (m / 32) j) (rfl) ?_
    refine VS.istore dL_acts_263 (by decide) rfl ?_
    refine VS.iload dL_acts_265 rfl ?_
    refine VS.if_le 280 dL_acts_267 (by decide) (fun hh => absurd hh (nI_nle h0 (by omega))) (fun _ => ?_)
    refine VS.aload_n dL_acts_270 rfl ?_
    refine VS.ldc2 dL_acts_271 kc_L_51 ?_
    refine VS.callT (hC) dL_acts_274 mi_X6_put im_X6_put sel_X6_put ml_L_53 (by decide) rfl rfl (rmOk_D (by decide) (by decide)) (Nat.le_of_ble_eq_true rfl) rfl ?_
    refine VS.goto 281 dL_acts_277 (by decide) ?_
    refine VS.istore dL_acts_281 (by decide) rfl ?_
    exact k
  obtain ⟨v0, n0, p0, g0, t0⟩ := key
  obtain ⟨v1, n1, p1, h1, t1⟩ := tx_order (m := m) (j := j) (len := some (.int v0)) l (M := M) (P := PdL M n0 p0) (fun c _ => put_any l M p0 g0 c)
  exact ⟨v1, n1, p1, h1, t0.trans t1⟩
set_option maxRecDepth 100000 in
set_option maxHeartbeats 1500000 in
theorem tx_end (l : Launch) {M : SS} (hI : InvM M) {n : Nat} {p : Nat → Int32} (hn : n < 2 ^ 31) {m j : Nat} (hm : m < 2 ^ 31) (hj : 1 + m / 32 % 4 ≤ j) (hj2 : j ≤ 4) (v0 : Int32) : ∃ (v : Int32) (M2 : SS), InvM M2 ∧ Fin8 l (PdL M n p) 238 [some (.ref 0), some (.int (nI m)), some (.int (nI (m / 32))), some (.int (nI (m / 32 % 8))), some (.int (acB (m / 32))), some (.int v0), some (.int (nI (j))), none, none] v M2 := by
  by_cases h1 : v0 < 1
  · refine ⟨-9, mPd M n p, hI.congr rfl rfl rfl rfl rfl, fun S hS => ⟨S, RelK.full hS, ?_⟩⟩
    refine VS.iload dL_acts_238 rfl ?_
    refine VS.iconst (1) dL_acts_240 rfl ?_
    refine VS.iload_n dL_acts_241 rfl ?_
    refine VS.iconst (4) dL_acts_242 rfl ?_
    refine VS.irem dL_acts_243 (by decide) ?_
    refine VS.val (y := nI (m / 32 % 4)) (rem_n (d := 4) (by omega) (by decide) (by decide)) ?_
    refine VS.iadd dL_acts_244 ?_
    refine VS.val (y := nI (1 + m / 32 % 4)) (nI_add 1 _) ?_
    refine VS.icmp_ge 456 dL_acts_245 (by decide) (fun _ => ?_) (fun hh => absurd (nI_le hj (by omega)) hh)
    refine VS.iload dL_acts_456 rfl ?_
    refine VS.iconst (1) dL_acts_458 rfl ?_
    refine VS.icmp_lt 471 dL_acts_459 (by decide) (fun _ => ?_) (fun hh => absurd (h1) hh)
    refine VS.bipush (-9) dL_acts_471 rfl ?_
    refine VS.goto 480 dL_acts_473 (by decide) ?_
    exact VS.iret dL_acts_480 (rfl) (fun _ _ => rfl)
  · by_cases h2 : fautI p n n 0 = -6
    · obtain ⟨v, M2, hI2, hop⟩ := rl_carry l n p hn hI
      refine ⟨v, M2, hI2, fun S hS => ?_⟩
      obtain ⟨S2, hC, hR⟩ := hop S hS
      refine ⟨S2, hR, ?_⟩
      refine VS.iload dL_acts_238 rfl ?_
      refine VS.iconst (1) dL_acts_240 rfl ?_
      refine VS.iload_n dL_acts_241 rfl ?_
      refine VS.iconst (4) dL_acts_242 rfl ?_
      refine VS.irem dL_acts_243 (by decide) ?_
      refine VS.val (y := nI (m / 32 % 4)) (rem_n (d := 4) (by omega) (by decide) (by decide)) ?_
      refine VS.iadd dL_acts_244 ?_
      refine VS.val (y := nI (1 + m / 32 % 4)) (nI_add 1 _) ?_
      refine VS.icmp_ge 456 dL_acts_245 (by decide) (fun _ => ?_) (fun hh => absurd (nI_le hj (by omega)) hh)
      refine VS.iload dL_acts_456 rfl ?_
      refine VS.iconst (1) dL_acts_458 rfl ?_
      refine VS.icmp_lt 471 dL_acts_459 (by decide) (fun hh => absurd hh (h1)) (fun _ => ?_)
      refine VS.aload_n dL_acts_462 rfl ?_
      refine VS.callT (rl_fault l hn hS) dL_acts_463 mi_X6_fault im_X6_fault sel_X6_fault ml_L_71 (by decide) rfl rfl (rmOk_D (by decide) (by decide)) (Nat.le_of_ble_eq_true rfl) rfl ?_
      refine VS.val (y := fautI p n n 0) (rfl) ?_
      refine VS.bipush (-6) dL_acts_466 rfl ?_
      refine VS.icmp_eq 476 dL_acts_468 (by decide) (fun _ => ?_) (fun hh => absurd (h2) hh)
      refine VS.aload_n dL_acts_476 rfl ?_
      refine VS.callT (hC) dL_acts_477 mi_X6_carryOut im_X6_carryOut sel_X6_carryOut ml_L_74 (by decide) rfl rfl (rmOk_D (by decide) (by decide)) (Nat.le_of_ble_eq_true rfl) rfl ?_
      exact VS.iret dL_acts_480 (rfl) (fun _ _ => rfl)
    · refine ⟨-9, mPd M n p, hI.congr rfl rfl rfl rfl rfl, fun S hS => ⟨S, RelK.full hS, ?_⟩⟩
      refine VS.iload dL_acts_238 rfl ?_
      refine VS.iconst (1) dL_acts_240 rfl ?_
      refine VS.iload_n dL_acts_241 rfl ?_
      refine VS.iconst (4) dL_acts_242 rfl ?_
      refine VS.irem dL_acts_243 (by decide) ?_
      refine VS.val (y := nI (m / 32 % 4)) (rem_n (d := 4) (by omega) (by decide) (by decide)) ?_
      refine VS.iadd dL_acts_244 ?_
      refine VS.val (y := nI (1 + m / 32 % 4)) (nI_add 1 _) ?_
      refine VS.icmp_ge 456 dL_acts_245 (by decide) (fun _ => ?_) (fun hh => absurd (nI_le hj (by omega)) hh)
      refine VS.iload dL_acts_456 rfl ?_
      refine VS.iconst (1) dL_acts_458 rfl ?_
      refine VS.icmp_lt 471 dL_acts_459 (by decide) (fun hh => absurd hh (h1)) (fun _ => ?_)
      refine VS.aload_n dL_acts_462 rfl ?_
      refine VS.callT (rl_fault l hn hS) dL_acts_463 mi_X6_fault im_X6_fault sel_X6_fault ml_L_71 (by decide) rfl rfl (rmOk_D (by decide) (by decide)) (Nat.le_of_ble_eq_true rfl) rfl ?_
      refine VS.val (y := fautI p n n 0) (rfl) ?_
      refine VS.bipush (-6) dL_acts_466 rfl ?_
      refine VS.icmp_eq 476 dL_acts_468 (by decide) (fun hh => absurd hh (h2)) (fun _ => ?_)
      refine VS.bipush (-9) dL_acts_471 rfl ?_
      refine VS.goto 480 dL_acts_473 (by decide) ?_
      exact VS.iret dL_acts_480 (rfl) (fun _ _ => rfl)
theorem tx_loop (l : Launch) {M : SS} (hI : InvM M) {m : Nat} (hm : m < 2 ^ 31) : ∀ (k j n : Nat) (p : Nat → Int32) (v0 : Int32), n < 2 ^ 31 → j + k = 1 + m / 32 % 4 → 0 < j → ∃ (v : Int32) (M2 : SS), InvM M2 ∧ Fin8 l (PdL M n p) 238 [some (.ref 0), some (.int (nI m)), some (.int (nI (m / 32))), some (.int (nI (m / 32 % 8))), some (.int (acB (m / 32))), some (.int v0), some (.int (nI (j))), none, none] v M2
  | 0, j, n, p, v0, hn, hk, h0 => tx_end l hI hn hm (by omega) (by omega) v0
  | k + 1, j, n, p, v0, hn, hk, h0 => by
    obtain ⟨v1, n1, p1, h1, t1⟩ := tx_head (M := M) l hn (p := p) hm h0 (by omega) v0
    obtain ⟨v, M2, hI2, hf⟩ := tx_loop l hI hm k (j + 1) n1 p1 v1 h1 (by omega) (by omega)
    exact ⟨v, M2, hI2, t1.fin hf⟩
set_option maxRecDepth 100000 in
set_option maxHeartbeats 1500000 in
theorem ac_text_16 (l : Launch) {M : SS} (hI : InvM M) {m : Nat} (hm : m < 2 ^ 31) (hc : m % 32 = 16) : ∃ (v : Int32) (M2 : SS), InvM M2 ∧ OpK l yL_acts cL_acts 9 (rmD 8) [.int (nI m)] M v M2 := by
  obtain ⟨v1, n1, p1, h1, t1⟩ := tx_head0 (M := M) l hm
  obtain ⟨v, M2, hI2, hf⟩ := tx_loop l hI hm (m / 32 % 4) (0 + 1) n1 p1 v1 h1 (by omega) (by omega)
  have hf0 := t1.fin hf
  refine ⟨v, M2, hI2, fun S h => ?_⟩
  obtain ⟨L, S1, hL, hC, hR0⟩ := rk_wipe l h
  obtain ⟨S2, hR, hv⟩ := hf0 S1 hR0
  refine ⟨S2, ?_, hR⟩
  refine CtF.of (own := RL) [some (.ref 0), some (.int (nI m)), none, none, none, none, none, none, none] (by decide +kernel) rfl (fun _ => Nat.le_of_ble_eq_true rfl) (fun _ => rfl) ?_
  refine ac_start hm ?_
  rw [hc]
  refine VS.tableIn 229 dL_acts_30 (by decide) (by decide) rfl (by decide) ?_
  refine VS.aload_n dL_acts_229 rfl ?_
  refine VS.callT (hC) dL_acts_230 mi_X6_wipe im_X6_wipe sel_X6_wipe ml_L_48 (by decide) rfl rfl (rmOk_D (by decide) (by decide)) (Nat.le_of_ble_eq_true rfl) rfl ?_
  refine VS.istore dL_acts_233 (by decide) rfl ?_
  refine VS.iconst (0) dL_acts_235 rfl ?_
  refine VS.istore dL_acts_236 (by decide) rfl ?_
  refine VS.forget 5 ?_
  exact hv
set_option maxRecDepth 100000 in
set_option maxHeartbeats 1500000 in
theorem ac_text_17 (l : Launch) {M : SS} (hI : InvM M) {m : Nat} (hm : m < 2 ^ 31) (hc : m % 32 = 17) : ∃ (v : Int32) (M2 : SS), InvM M2 ∧ OpK l yL_acts cL_acts 9 (rmD 8) [.int (nI m)] M v M2 := by
  obtain ⟨v1, n1, p1, h1, t1⟩ := tx_head0 (M := M) l hm
  obtain ⟨v, M2, hI2, hf⟩ := tx_loop l hI hm (m / 32 % 4) (0 + 1) n1 p1 v1 h1 (by omega) (by omega)
  have hf0 := t1.fin hf
  refine ⟨v, M2, hI2, fun S h => ?_⟩
  obtain ⟨L, S1, hL, hC, hR0⟩ := rk_wipe l h
  obtain ⟨S2, hR, hv⟩ := hf0 S1 hR0
  refine ⟨S2, ?_, hR⟩
  refine CtF.of (own := RL) [some (.ref 0), some (.int (nI m)), none, none, none, none, none, none, none] (by decide +kernel) rfl (fun _ => Nat.le_of_ble_eq_true rfl) (fun _ => rfl) ?_
  refine ac_start hm ?_
  rw [hc]
  refine VS.tableIn 229 dL_acts_30 (by decide) (by decide) rfl (by decide) ?_
  refine VS.aload_n dL_acts_229 rfl ?_
  refine VS.callT (hC) dL_acts_230 mi_X6_wipe im_X6_wipe sel_X6_wipe ml_L_48 (by decide) rfl rfl (rmOk_D (by decide) (by decide)) (Nat.le_of_ble_eq_true rfl) rfl ?_
  refine VS.istore dL_acts_233 (by decide) rfl ?_
  refine VS.iconst (0) dL_acts_235 rfl ?_
  refine VS.istore dL_acts_236 (by decide) rfl ?_
  refine VS.forget 5 ?_
  exact hv
set_option maxRecDepth 100000 in
set_option maxHeartbeats 1500000 in
theorem ac_text_18 (l : Launch) {M : SS} (hI : InvM M) {m : Nat} (hm : m < 2 ^ 31) (hc : m % 32 = 18) : ∃ (v : Int32) (M2 : SS), InvM M2 ∧ OpK l yL_acts cL_acts 9 (rmD 8) [.int (nI m)] M v M2 := by
  obtain ⟨v1, n1, p1, h1, t1⟩ := tx_head0 (M := M) l hm
  obtain ⟨v, M2, hI2, hf⟩ := tx_loop l hI hm (m / 32 % 4) (0 + 1) n1 p1 v1 h1 (by omega) (by omega)
  have hf0 := t1.fin hf
  refine ⟨v, M2, hI2, fun S h => ?_⟩
  obtain ⟨L, S1, hL, hC, hR0⟩ := rk_wipe l h
  obtain ⟨S2, hR, hv⟩ := hf0 S1 hR0
  refine ⟨S2, ?_, hR⟩
  refine CtF.of (own := RL) [some (.ref 0), some (.int (nI m)), none, none, none, none, none, none, none] (by decide +kernel) rfl (fun _ => Nat.le_of_ble_eq_true rfl) (fun _ => rfl) ?_
  refine ac_start hm ?_
  rw [hc]
  refine VS.tableIn 229 dL_acts_30 (by decide) (by decide) rfl (by decide) ?_
  refine VS.aload_n dL_acts_229 rfl ?_
  refine VS.callT (hC) dL_acts_230 mi_X6_wipe im_X6_wipe sel_X6_wipe ml_L_48 (by decide) rfl rfl (rmOk_D (by decide) (by decide)) (Nat.le_of_ble_eq_true rfl) rfl ?_
  refine VS.istore dL_acts_233 (by decide) rfl ?_
  refine VS.iconst (0) dL_acts_235 rfl ?_
  refine VS.istore dL_acts_236 (by decide) rfl ?_
  refine VS.forget 5 ?_
  exact hv
theorem ct_acts (l : Launch) {M : SS} (hI : InvM M) {m : Nat} (hm : m < 2 ^ 31) : ∃ (v : Int32) (M2 : SS), InvM M2 ∧ OpK l yL_acts cL_acts 9 (rmD 8) [.int (nI m)] M v M2 := by
  rcases (show m % 32 = 0 ∨ m % 32 = 1 ∨ m % 32 = 2 ∨ m % 32 = 3 ∨ m % 32 = 4 ∨ m % 32 = 5 ∨ m % 32 = 6 ∨ m % 32 = 7 ∨ m % 32 = 8 ∨ m % 32 = 9 ∨ m % 32 = 10 ∨ m % 32 = 11 ∨ m % 32 = 12 ∨ m % 32 = 13 ∨ m % 32 = 14 ∨ m % 32 = 15 ∨ m % 32 = 16 ∨ m % 32 = 17 ∨ m % 32 = 18 ∨ 18 < m % 32 by omega) with h | h | h | h | h | h | h | h | h | h | h | h | h | h | h | h | h | h | h | h
  · exact ac_set_0 l hI hm h
  · exact ac_treasure_1 l hI hm h
  · exact ac_begin_2 l hI hm h
  · exact ac_dig_3 l hI hm h
  · exact ac_dig_4 l hI hm h
  · exact ac_dig_5 l hI hm h
  · exact ac_pass_6 l hI hm h
  · exact ac_check_7 l hI hm h
  · exact ac_check_8 l hI hm h
  · exact ac_check_9 l hI hm h
  · exact ac_check_10 l hI hm h
  · exact ac_check_11 l hI hm h
  · exact ac_undo_12 l hI hm h
  · exact ac_undo_13 l hI hm h
  · exact ac_save_14 l hI hm h
  · exact ac_restore_15 l hI hm h
  · exact ac_text_16 l hI hm h
  · exact ac_text_17 l hI hm h
  · exact ac_text_18 l hI hm h
  · obtain ⟨v, M2, h1, -, -, h2⟩ := ac_else l hI hm h
    exact ⟨v, M2, h1, h2⟩
