/-! the law's start: the cells that it makes -/
theorem XL.g {N : Nat} {xs : Nat → Int32} {n : Nat} : Xg (XL N xs) n := by
  rintro s args below meth D cy A ad ad' Q he ⟨h1, h2, h3, h4, h5⟩
  have e := he 84 (Or.inr (Nat.le_refl _))
  exact ⟨h1, by rw [e]; exact h2, by rw [e]; exact h3, by rw [e]; exact h4, h5⟩
theorem XL.new {N : Nat} {xs : Nat → Int32} : Xnew (XL N xs) := fun _ _ _ _ _ _ _ _ _ h q hq => (h.1 q).mpr hq
def sL0 : SS := fun k => if k < 77 then sK0 k else sM0 sI0 (k - 77)
theorem good0 : Good sI0 := by
  refine ⟨0, 0, 0, rfl, by decide, rfl, by decide, rfl, by decide, fun k hk => absurd hk (Nat.not_lt_zero _), Or.inl ⟨rfl, rfl, rfl⟩, fun i _ => ?_, fun i _ => ?_, fun p hp => ?_, fun k hk => ?_⟩
  · show bt 0 i = false; exact bt_z i
  · show bt 0 i = false; exact bt_z i
  · rcases (show p = 0 ∨ p = 1 ∨ p = 2 by omega) with rfl | rfl | rfl <;> rfl
  · rcases (show k = 0 ∨ k = 1 ∨ k = 2 ∨ k = 3 by omega) with rfl | rfl | rfl | rfl <;> decide
theorem vs0 : Vs gF0 sI0 := by
  refine ⟨⟨rfl, rfl, rfl, rfl, rfl, rfl, rfl, rfl⟩, fun k hk => ?_, ⟨⟨rfl, rfl, rfl, rfl, rfl, rfl, rfl⟩, ⟨rfl, rfl, rfl, rfl, rfl, rfl, rfl⟩, ⟨rfl, rfl, rfl, rfl, rfl, rfl, rfl⟩⟩, fun p hp => ?_, fun k hk => ?_⟩
  · rcases (show k = 0 ∨ k = 1 ∨ k = 2 ∨ k = 3 by omega) with rfl | rfl | rfl | rfl <;> rfl
  · show putR z0 (fun _ => -6) 0 8 p = tolN sI0 p (nD sI0)
    rw [putR_in (by omega) (by omega)]
    rfl
  · show (0 : Int32) = sI0 (32 + k)
    unfold sI0 sI1
    rw [upd_ne (by omega), upd_ne (by omega), upd_ne (by omega), upd_ne (by omega), upd_ne (by omega), putR_out (by omega)]
    rfl
theorem rel0 : Rel sL0 (gm sL0 77) := by
  refine ⟨VG.congr (G := gF0) ⟨vs0, good0⟩ (seven rfl rfl rfl rfl rfl rfl rfl), ⟨0, 0, by decide, rfl, by decide, rfl, rfl, fun j hj => absurd hj (Nat.not_lt_zero _)⟩, ⟨0, by decide, rfl, rfl, rfl⟩, fun q hq => Or.inl ?_⟩
  rcases (show q = 0 ∨ q = 1 by omega) with rfl | rfl <;> exact ⟨rfl, rfl⟩
theorem law_world {g : Nat → va_E} {e6 e7 : va_E} : ∀ k, k < 77 + 7 → joinG (va_up (joinG (va_up g 0 e6) 0 (shW shK sK0)) 77 e7) 77 (shW shM (sM0 sI0)) k = shW shL sL0 k := by
  intro k hk
  by_cases h : k < 77
  · have e1 : joinG (va_up (joinG (va_up g 0 e6) 0 (shW shK sK0)) 77 e7) 77 (shW shM (sM0 sI0)) k = rE (fun i => 0 + i) (shW shK sK0 k) := by
      unfold joinG va_up; rw [if_pos h, if_neg (by omega)]; show (if k < 0 then _ else rE (fun i => 0 + i) (shW shK sK0 (k - 0))) = _; rw [if_neg (Nat.not_lt_zero k)]; rfl
    rw [e1, show (fun i => 0 + i) = fun i : Nat => i from funext fun i => Nat.zero_add i, rE_id]
    unfold shW
    rw [show shL k = shK k from if_pos h, show sL0 k = sK0 k from if_pos h]
  · have e1 : joinG (va_up (joinG (va_up g 0 e6) 0 (shW shK sK0)) 77 e7) 77 (shW shM (sM0 sI0)) k = rE (fun i => 77 + i) (shW shM (sM0 sI0) (k - 77)) := by
      unfold joinG; rw [if_neg h]
    rw [e1]
    unfold shW
    rw [show shL k = shR (fun i => 77 + i) (shM (k - 77)) from if_neg h, show sL0 k = sM0 sI0 (k - 77) from if_neg h, shC_R]
set_option maxRecDepth 100000 in
set_option maxHeartbeats 1000000 in
theorem law_start (l : Launch) {N : Nat} {xs : Nat → Int32} (hN : N ≤ 2048) (g : Nat → va_E) : VS l room_1 RL cL_law 4 (XL N xs) 0 0 0 g 0 [some (.ref 84), none, none, none] [] := by
  refine VC.start (fun k hk => absurd hk (Nat.not_lt_zero _)) ?_
  refine VC.new 5 fsX6 dL_law_0 uw_X6 tyX6 tyX6_ok rfl cl_L_7 ins_X6 ini_X6 (fun j hj => by rcases (show j = 0 ∨ j = 1 ∨ j = 2 ∨ j = 3 ∨ j = 4 by omega) with rfl | rfl | rfl | rfl | rfl <;> rfl) rfl XL.g (by decide) XL.new (by decide) rfl rfl ?_
  refine VC.lift (VS.dup dL_law_3 rfl) ?_
  refine VC.callI (ct_X6_init l) dL_law_4 mi_X6_init rfl im_X6_init ml_L_9 ⟨⟨by decide, by decide⟩, ⟨rfl, rfl⟩, by decide, by decide⟩ (Nat.le_of_ble_eq_true rfl) rfl (fun _ _ _ => rfl) XL.g XL.new (by decide) (by decide) clo_X6 rfl rfl ?_
  refine VC.lift (VS.astore_n dL_law_7 (by decide) rfl) ?_
  refine VC.new 6 fsX7 dL_law_8 uw_X7 tyX7 tyX7_ok rfl cl_L_10 ins_X7 ini_X7 (fun j hj => by rcases (show j = 0 ∨ j = 1 ∨ j = 2 ∨ j = 3 ∨ j = 4 ∨ j = 5 ∨ j = 6 ∨ j = 7 ∨ j = 8 ∨ j = 9 ∨ j = 10 ∨ j = 11 ∨ j = 12 ∨ j = 13 ∨ j = 14 ∨ j = 15 by omega) with rfl | rfl | rfl | rfl | rfl | rfl | rfl | rfl | rfl | rfl | rfl | rfl | rfl | rfl | rfl | rfl <;> rfl) rfl XL.g (by decide) XL.new (by decide) rfl rfl ?_
  refine VC.lift (VS.dup dL_law_11 rfl) ?_
  refine VC.callI (ct_X7_init l) dL_law_12 mi_X7_init rfl im_X7_init ml_L_12 ⟨⟨by decide, by decide⟩, ⟨rfl, rfl⟩, by decide, by decide⟩ (Nat.le_of_ble_eq_true rfl) rfl (fun _ _ _ => rfl) XL.g XL.new (by decide) (by decide) clo_X7 rfl rfl ?_
  refine VC.lift (VS.astore_n dL_law_15 (by decide) rfl) ?_
  refine VC.lift (VS.iconst (0) dL_law_16 rfl) ?_
  refine VC.lift (VS.istore_n dL_law_17 (by decide) rfl) ?_
  refine VC.drop ?_
  refine VS.heap law_world ?_
  exact law_loop l hN (by decide) (by decide) 513 0 sL0 (by omega) (by decide) rel0
