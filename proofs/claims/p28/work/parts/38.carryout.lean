/-! the class: carryOut, fault -/
theorem fau_go {P : Nat → Int32} {L : Nat} : ∀ n k, k + n = L → ¬ dS P k = 0 → (dS P L = 5 ∧ fautI P L n k = -6) ∨ ∃ K, FltAt P L K ∧ fautI P L n k = nI K
  | 0, k, hk, h0 => by
    have hk2 : k = L := by omega
    subst hk2
    by_cases h5 : dS P k = 5
    · exact Or.inl ⟨h5, if_pos h5⟩
    · exact Or.inr ⟨k, ⟨Nat.le_refl _, h0, Or.inr ⟨rfl, h5⟩⟩, if_neg h5⟩
  | n + 1, k, hk, h0 => by
    by_cases h : dS P (k + 1) = 0
    · exact Or.inr ⟨k, ⟨by omega, h0, Or.inl ⟨by omega, h⟩⟩, if_pos h⟩
    · have e : fautI P L (n + 1) k = fautI P L n (k + 1) := if_neg h
      rw [e]
      exact fau_go n (k + 1) (by omega) h
theorem fau_all (P : Nat → Int32) (L : Nat) : (dS P L = 5 ∧ fautI P L L 0 = -6) ∨ ∃ K, FltAt P L K ∧ fautI P L L 0 = nI K := fau_go L 0 (by omega) (by show ¬ (1 : Int32) = 0; decide)
theorem nI_m6 {k : Nat} (h : k < 2000) : ¬ nI k = -6 := fun z => absurd (nI_ge0 k (by omega)) (by rw [z]; decide)
set_option maxRecDepth 100000 in
set_option maxHeartbeats 4000000 in
theorem ct_X6_carryOut_bad (l : Launch) (S : SS)  {L K : Nat} (hL : S 59 1 = nI L) (hL2 : L ≤ 80) (hf : FltAt (S 60) L K) (hK : fautI (S 60) L L 0 = nI K) : CtS l yX6_carryOut cX6_carryOut 3 (some FieldType.int) (rmD 7) [.ref 0] 77 shK S (some (.int (-3))) (S) := by
  refine CtF.of (own := RX6) [some (.ref 0), none, none] (by decide +kernel) rfl (fun _ => Nat.le_of_ble_eq_true rfl) (fun _ => rfl) ?_
  refine VS.aload_n dX6_carryOut_0 rfl ?_
  refine VS.sgetR 5 dX6_carryOut_1 uw_X6 rfl (by decide) 2 (rfl) rfl (by decide) fl_X6_26 rfl ?_
  refine VS.callR (fun i => 59 + i) (shi_pd) (ct_X2_firstFault l _ hL hL2) dX6_carryOut_4 mi_X2_firstFault im_X2_firstFault sel_X2_firstFault ml_X6_206 (by decide) rfl rfl (rmOk_D (by decide) (by decide)) (Nat.le_of_ble_eq_true rfl) rfl ?_
  refine VS.stt ((mg_off 59 2 _ _).trans putG_id) ?_
  refine VS.val (y := nI K) hK ?_
  refine VS.bipush (-6) dX6_carryOut_7 rfl ?_
  refine VS.icmp_eq 15 dX6_carryOut_9 (by decide) (fun hh => absurd hh (nI_m6 (by have := hf.1; omega))) (fun _ => ?_)
  refine VS.bipush (-3) dX6_carryOut_12 rfl ?_
  exact VS.iret dX6_carryOut_14 (rfl) (fun _ _ => rfl)
set_option maxRecDepth 100000 in
set_option maxHeartbeats 4000000 in
theorem ct_X6_carryOut (l : Launch) {S : SS} {s : Nat → Int32} {L f q : Nat} (hL : S 59 1 = nI L) (hL2 : L ≤ 80) (h5 : dS (S 60) L = 5) (hK : fautI (S 60) L L 0 = -6) (hf : f < 7) (hF : S 8 1 = nI f) (hq : q ≤ 6) (hQ : S 8 2 = nI q) (hg : Good s) (hV : Vs (gm S 1) s) :
    ∃ S2 : SS, Vs (gm S2 1) (exF (S 60) L (L + 2) 0 s 0).1 ∧ S2 59 1 = 0 ∧ (∀ k, 8 ≤ k → k ≠ 59 → S2 k = keepK (holdK S f) f q k) ∧ CtS l yX6_carryOut cX6_carryOut 3 (some .int) (rmD 7) [.ref 0] 77 shK S (some (.int (nI (exF (S 60) L (L + 2) 0 s 0).2))) S2 := by
  have hb : S 1 3 = 0 ∨ S 1 3 = 1 := hV.began.2
  have e60 : keepK (holdK S f) f q 60 = S 60 := by
    rw [keepK_8 (by decide)]; exact putG_out (by omega)
  have e59 : keepK (holdK S f) f q 59 = S 59 := by
    rw [keepK_8 (by decide)]; exact putG_out (by omega)
  obtain ⟨S2, a1, a2, a3, hv⟩ := carryK l hL2 L 0 0 (L + 2) 0 (keepK (holdK S f) f q) s (by omega) (by omega) (Or.inr ⟨Nat.zero_le _, rfl, Or.inl rfl⟩) (fun j h1 h2 => by omega) (by rw [e59]; exact hL) (by rw [e60]; exact h5) hg (hV.congr (fun i hi => by show keepK (holdK S f) f q (1 + i) = S (1 + i); rw [keepK_8 (by omega), hold_1 (by omega)])) (by omega)
  rw [e60] at a1 hv
  refine ⟨S2, a1, a2, a3, ?_⟩
  refine CtF.of (own := RX6) [some (.ref 0), none, none] (by decide +kernel) rfl (fun _ => Nat.le_of_ble_eq_true rfl) (fun _ => rfl) ?_
  refine VS.aload_n dX6_carryOut_0 rfl ?_
  refine VS.sgetR 5 dX6_carryOut_1 uw_X6 rfl (by decide) 2 (rfl) rfl (by decide) fl_X6_26 rfl ?_
  refine VS.callR (fun i => 59 + i) (shi_pd) (ct_X2_firstFault l _ hL hL2) dX6_carryOut_4 mi_X2_firstFault im_X2_firstFault sel_X2_firstFault ml_X6_206 (by decide) rfl rfl (rmOk_D (by decide) (by decide)) (Nat.le_of_ble_eq_true rfl) rfl ?_
  refine VS.stt ((mg_off 59 2 _ _).trans putG_id) ?_
  refine VS.val (y := -6) hK ?_
  refine VS.bipush (-6) dX6_carryOut_7 rfl ?_
  refine VS.icmp_eq 15 dX6_carryOut_9 (by decide) (fun _ => ?_) (fun hh => absurd (rfl) hh)
  refine VS.aload_n dX6_carryOut_15 rfl ?_
  refine VS.sgetR 5 dX6_carryOut_16 uw_X6 rfl (by decide) 1 (rfl) rfl (by decide) fl_X6_19 rfl ?_
  refine VS.aload_n dX6_carryOut_19 rfl ?_
  refine VS.sgetR 5 dX6_carryOut_20 uw_X6 rfl (by decide) 0 (rfl) rfl (by decide) fl_X6_10 rfl ?_
  refine VS.callT (ct_X3_hold l _ hf hF hb) dX6_carryOut_23 mi_X3_hold im_X3_hold sel_X3_hold ml_X6_40 (by decide) rfl rfl (rmOk_D (by decide) (by decide)) (Nat.le_of_ble_eq_true rfl) rfl ?_
  refine VS.aload_n dX6_carryOut_26 rfl ?_
  refine VS.sgetR 5 dX6_carryOut_27 uw_X6 rfl (by decide) 1 (rfl) rfl (by decide) fl_X6_19 rfl ?_
  refine VS.callT (ct_X3_keep l _ hf (show holdK S f 8 1 = nI f by rw [hold_1 (by decide)]; exact hF) hq (show holdK S f 8 2 = nI q by rw [hold_1 (by decide)]; exact hQ)) dX6_carryOut_30 mi_X3_keep im_X3_keep sel_X3_keep ml_X6_75 (by decide) rfl rfl (rmOk_D (by decide) (by decide)) (Nat.le_of_ble_eq_true rfl) rfl ?_
  refine VS.iconst (0) dX6_carryOut_33 rfl ?_
  refine VS.istore_n dX6_carryOut_34 (by decide) rfl ?_
  refine VS.iconst (0) dX6_carryOut_35 rfl ?_
  refine VS.istore_n dX6_carryOut_36 (by decide) rfl ?_
  exact hv
