/-! the reference: carryOut -/
/-- what the orders from k on do to a row, and how many are carried out -/
def exF (P : Nat → Int32) (L : Nat) : Nat → Nat → (Nat → Int32) → Nat → (Nat → Int32) × Nat
  | 0, _, s, c => (s, c)
  | n + 1, k, s, c => if k < L then (if opBar s (P k) (dgO P k) (fiO P k) (seO P k) = 0 then exF P L n (k + lenO (P k) + 1) (opDo s (P k) (dgO P k) (fiO P k) (seO P k)) (c + 1) else (s, c)) else (s, c)
theorem dS_0 {P : Nat → Int32} {K : Nat} (h : dS P K = 0) : ∀ j, K ≤ j → dS P j = 0 := by
  intro j hj
  obtain ⟨m, rfl⟩ : ∃ m, j = K + m := ⟨j - K, by omega⟩
  induction m with
  | zero => exact h
  | succ m ih => rw [show K + (m + 1) = K + m + 1 from rfl, dS_s, ih (by omega)]; rfl
theorem flt_no {P : Nat → Int32} {L K : Nat} (h5 : dS P L = 5) (hf : FltAt P L K) : False := by
  obtain ⟨h1, h2, ⟨h3, h4⟩ | ⟨h3, h4⟩⟩ := hf
  · rw [dS_0 h4 L h3] at h5; exact absurd h5 (by decide)
  · exact h4 h5
theorem semi_at {P : Nat → Int32} {L K : Nat} (h5 : dS P L = 5) (hK : dS P K = 5) (hlt : K < L) : P K = 59 ∧ dS P (K + 1) = 1 := by
  by_cases h : P K = 59
  · exact ⟨h, by rw [dS_s, hK, d5, if_pos h]⟩
  · have h0 : dS P (K + 1) = 0 := by rw [dS_s, hK, d5, if_neg h]
    rw [dS_0 h0 L hlt] at h5; exact absurd h5 (by decide)
theorem lenO_pos (g : Int32) : 0 < lenO g := by
  unfold lenO; split
  · decide
  · split
    · decide
    · split <;> decide
theorem ord_S {P : Nat → Int32} {L k : Nat} (h : OrdOK P L k) : opS (P k) := by
  obtain ⟨-, ⟨h, -⟩ | ⟨h | h | h, -⟩ | ⟨h | h, -⟩ | h | h⟩ := h <;> unfold opS <;> simp [h]
/-- the cells that stay -/
def Fr (S2 M : SS) : Prop := S2 2 = M 2 ∧ S2 3 = M 3 ∧ S2 4 = M 4 ∧ S2 5 = M 5 ∧ S2 0 2 = M 0 2
theorem Fr.trans {A B C : SS} (h : Fr A B) (h2 : Fr B C) : Fr A C := ⟨h.1.trans h2.1, h.2.1.trans h2.2.1, h.2.2.1.trans h2.2.2.1, h.2.2.2.1.trans h2.2.2.2.1, h.2.2.2.2.trans h2.2.2.2.2⟩
theorem od3_spot (M : SS) (k : Nat) (w sg dg fi se : Int32) : up2 (od3 M k w sg dg fi se) 0 10 (nI (k + 1)) = od3 M (k + 1) w sg dg fi se := by
  have h := sw_od3 M k (k + 1) w w sg dg fi se
  unfold sw2 at h
  rw [← h]
  unfold up2
  congr 1
  congr 1
  funext j
  unfold upd
  split
  · rename_i q; subst q; rfl
  · rfl
theorem doesK {l : Launch} {M S2 : SS} {g dg fi se v : Int32} (hC : CtS l yX7_does cX7_does 1 (some .int) (rmD 3) [.ref 0] 7 shM M (some (.int v)) S2) (h1 : S2 1 = opDo (M 1) g dg fi se) (h0 : S2 0 = M 0) (hf : Fr S2 M) :
    ∃ (S2 : SS) (v : Int32), S2 1 = opDo (M 1) g dg fi se ∧ S2 0 = M 0 ∧ Fr S2 M ∧ CtS l yX7_does cX7_does 1 (some .int) (rmD 3) [.ref 0] 7 shM M (some (.int v)) S2 := ⟨S2, v, h1, h0, hf, hC⟩
/-- an order is carried out -/
theorem ct_X7_does (l : Launch) {M : SS} {g dg fi se : Int32} (hs : M 0 12 = g) (hdg : M 0 13 = dg) (hfi : M 0 14 = fi) (hse : M 0 15 = se) (hG : Good (M 1)) (hg : opS g) (hb : opBar (M 1) g dg fi se = 0) :
    ∃ (S2 : SS) (v : Int32), S2 1 = opDo (M 1) g dg fi se ∧ S2 0 = M 0 ∧ Fr S2 M ∧ CtS l yX7_does cX7_does 1 (some .int) (rmD 3) [.ref 0] 7 shM M (some (.int v)) S2 := by
  rcases hg with rfl | rfl | rfl | rfl | rfl | rfl | rfl | rfl
  · exact doesK (ct_X7_does_114 l M hs hdg hfi hse hG hb) rfl rfl ⟨rfl, rfl, rfl, rfl, rfl⟩
  · exact doesK (ct_X7_does_116 l M hs hdg hfi hse hG hb) rfl rfl ⟨rfl, rfl, rfl, rfl, rfl⟩
  · exact doesK (ct_X7_does_98 l M hs hdg hfi hse hG hb) rfl rfl ⟨rfl, rfl, rfl, rfl, rfl⟩
  · exact doesK (ct_X7_does_43 l M hs hdg hfi hse hG hb) rfl rfl ⟨rfl, rfl, rfl, rfl, rfl⟩
  · exact doesK (ct_X7_does_45 l M hs hdg hfi hse hG hb) rfl rfl ⟨rfl, rfl, rfl, rfl, rfl⟩
  · obtain ⟨p, hp, rfl⟩ := barCheck_v (show rBarCheck (M 1) dg fi se = 0 from hb)
    exact doesK (ct_X7_does_99 l M hp hs hdg hfi hse hG) rfl rfl ⟨rfl, rfl, rfl, rfl, rfl⟩
  · obtain ⟨⟨a, ha, rfl⟩, h61⟩ := barDig_v (show rBarDig (M 1) (nT (M 1)) fi = 0 from hb)
    obtain ⟨tr, htr, htr2⟩ := good_tr hG
    exact doesK (ct_X7_does_100 l M (dg := dg) (se := se) ha htr htr2 h61 hs hfi hG) rfl rfl ⟨rfl, rfl, rfl, rfl, rfl⟩
  · exact doesK (ct_X7_does_112 l M hs hdg hfi hse hG hb) rfl rfl ⟨rfl, rfl, rfl, rfl, rfl⟩
set_option maxRecDepth 100000 in
set_option maxHeartbeats 4000000 in
theorem carry_loop (l : Launch) {L : Nat} (hL2 : L ≤ 80) : ∀ (n k c : Nat) (Mk : SS), L + 1 < k + n → (k = L + 1 ∨ (k ≤ L ∧ dS (Mk 5) k = 1)) → Mk 0 10 = nI k → Mk 0 6 = nI L → Mk 0 11 = 0 → dS (Mk 5) L = 5 → Good (Mk 1) →
    ∃ S2 : SS, S2 1 = (exF (Mk 5) L n k (Mk 1) c).1 ∧ S2 0 6 = 0 ∧ Fr S2 Mk ∧ VS l (rmD 4) RX7 cX7_carryOut 4 (XF (some .int) 7 (some (.int (nI (exF (Mk 5) L n k (Mk 1) c).2))) (shW shM S2)) 0 0 7 (shW shM Mk) 23 [some (.ref 0), some (.int (nI c)), some (.int 1), none] [] := by
  intro n
  induction n with
  | zero => intro k c Mk h1 h2; omega
  | succ n ih =>
    intro k c Mk hn hkd hk hL hw h5 hG
    by_cases hkL : k < L
    · have hd : dS (Mk 5) k = 1 := by
        rcases hkd with h | h
        · omega
        · exact h.2
      obtain ⟨K, w, sg, dg, fi, se, hC, ⟨rfl, hok, hK5, rfl, rfl, rfl, rfl, rfl⟩ | ⟨rfl, hf⟩⟩ := ct_X7_order l hk hL hL2 (Nat.le_of_lt hkL) hw hd
      · have hop := ord_S hok
        have hKL := hok.1
        by_cases hb : opBar (Mk 1) (Mk 5 k) (dgO (Mk 5) k) (fiO (Mk 5) k) (seO (Mk 5) k) = 0
        · obtain ⟨S1, v, e1, e0, hfr, hD⟩ := ct_X7_does l (M := od3 Mk (k + lenO (Mk 5 k) + 1) 0 (Mk 5 k) (dgO (Mk 5) k) (fiO (Mk 5) k) (seO (Mk 5) k)) rfl rfl rfl rfl hG hop hb
          have e5 : S1 5 = Mk 5 := hfr.2.2.2.1
          have hnext : k + lenO (Mk 5 k) + 1 = L + 1 ∨ (k + lenO (Mk 5 k) + 1 ≤ L ∧ dS (S1 5) (k + lenO (Mk 5 k) + 1) = 1) := by
            by_cases q : k + lenO (Mk 5 k) = L
            · exact Or.inl (by omega)
            · exact Or.inr ⟨by omega, by rw [e5]; exact (semi_at h5 hK5 (by omega)).2⟩
          obtain ⟨S2, a1, a2, a3, hv⟩ := ih (k + lenO (Mk 5 k) + 1) (c + 1) S1 (by have := lenO_pos (Mk 5 k); omega) hnext (by rw [e0]; rfl) (by rw [e0]; exact hL) (by rw [e0]; rfl) (by rw [e5]; exact h5) (by rw [e1]; exact good_op hG hop hb)
          have ex : exF (Mk 5) L (n + 1) k (Mk 1) c = exF (Mk 5) L n (k + lenO (Mk 5 k) + 1) (opDo (Mk 1) (Mk 5 k) (dgO (Mk 5) k) (fiO (Mk 5) k) (seO (Mk 5) k)) (c + 1) := by
            show (if k < L then _ else _) = _
            rw [if_pos hkL, if_pos hb]
          have e1b : S1 1 = opDo (Mk 1) (Mk 5 k) (dgO (Mk 5) k) (fiO (Mk 5) k) (seO (Mk 5) k) := e1
          rw [e5, e1b, ← ex] at hv a1
          refine ⟨S2, a1, a2, a3.trans hfr, ?_⟩
          refine VS.iload_n dX7_carryOut_23 rfl ?_
          refine VS.if_eq 80 dX7_carryOut_24 (by decide) (fun hh => absurd hh (by decide)) (fun _ => ?_)
          refine VS.aload_n dX7_carryOut_27 rfl ?_
          refine VS.sgetI 6 dX7_carryOut_28 uw_X7 rfl (by decide) 10 rfl rfl (by decide) fl_X7_159 rfl ?_
          refine VS.val (y := nI k) hk ?_
          refine VS.aload_n dX7_carryOut_31 rfl ?_
          refine VS.sgetI 6 dX7_carryOut_32 uw_X7 rfl (by decide) 6 rfl rfl (by decide) fl_X7_151 rfl ?_
          refine VS.val (y := nI L) hL ?_
          refine VS.icmp_ge 80 dX7_carryOut_35 (by decide) (fun hh => absurd hh (nI_ge (by omega) (by omega))) (fun _ => ?_)
          refine VS.aload_n dX7_carryOut_38 rfl ?_
          refine VS.callT (hC) dX7_carryOut_39 mi_X7_order im_X7_order sel_X7_order ml_X7_181 (by decide) rfl rfl (rmOk_D (by decide) (by decide)) (Nat.le_of_ble_eq_true rfl) rfl ?_
          refine VS.aload_n dX7_carryOut_42 rfl ?_
          refine VS.dup dX7_carryOut_43 rfl ?_
          refine VS.sgetI 6 dX7_carryOut_44 uw_X7 rfl (by decide) 10 rfl rfl (by decide) fl_X7_159 rfl ?_
          refine VS.iconst (1) dX7_carryOut_47 rfl ?_
          refine VS.iadd dX7_carryOut_48 ?_
          refine VS.val (y := nI (k + lenO (Mk 5 k) + 1)) (nI_p1 _) ?_
          refine VS.sput 6 dX7_carryOut_49 uw_X7 tyX7 tyX7_ok nmX7 rfl (by decide) 10 rfl rfl (by decide) fl_X7_159 rfl rfl (rfl) (rfl) ?_
          refine VS.stt (od3_spot _ _ _ _ _ _ _) ?_
          refine VS.aload_n dX7_carryOut_52 rfl ?_
          refine VS.callT (ct_X7_bar l _ rfl rfl rfl rfl hG hop) dX7_carryOut_53 mi_X7_bar im_X7_bar sel_X7_bar ml_X7_187 (by decide) rfl rfl (rmOk_D (by decide) (by decide)) (Nat.le_of_ble_eq_true rfl) rfl ?_
          refine VS.if_ne 63 dX7_carryOut_56 (by decide) (fun hh => absurd (hb) hh) (fun _ => ?_)
          refine VS.iconst (1) dX7_carryOut_59 rfl ?_
          refine VS.goto 64 dX7_carryOut_60 (by decide) ?_
          refine VS.istore_n dX7_carryOut_64 (by decide) rfl ?_
          refine VS.iload_n dX7_carryOut_65 rfl ?_
          refine VS.if_eq 23 dX7_carryOut_66 (by decide) (fun hh => absurd hh (by decide)) (fun _ => ?_)
          refine VS.aload_n dX7_carryOut_69 rfl ?_
          refine VS.callT (hD) dX7_carryOut_70 mi_X7_does im_X7_does sel_X7_does ml_X7_190 (by decide) rfl rfl (rmOk_D (by decide) (by decide)) (Nat.le_of_ble_eq_true rfl) rfl ?_
          refine VS.istore_n dX7_carryOut_73 (by decide) rfl ?_
          refine VS.iinc (nI (c + 1)) dX7_carryOut_74 rfl (by decide) ((nI_succ c).symm) rfl ?_
          refine VS.goto 23 dX7_carryOut_77 (by decide) ?_
          exact VS.forget 3 hv
        · refine ⟨up2 (od3 Mk (k + lenO (Mk 5 k) + 1) 0 (Mk 5 k) (dgO (Mk 5) k) (fiO (Mk 5) k) (seO (Mk 5) k)) 0 6 0, ?_, rfl, ⟨rfl, rfl, rfl, rfl, rfl⟩, ?_⟩
          · show Mk 1 = (exF (Mk 5) L (n + 1) k (Mk 1) c).1
            unfold exF; rw [if_pos hkL, if_neg hb]
          · refine VS.iload_n dX7_carryOut_23 rfl ?_
            refine VS.if_eq 80 dX7_carryOut_24 (by decide) (fun hh => absurd hh (by decide)) (fun _ => ?_)
            refine VS.aload_n dX7_carryOut_27 rfl ?_
            refine VS.sgetI 6 dX7_carryOut_28 uw_X7 rfl (by decide) 10 rfl rfl (by decide) fl_X7_159 rfl ?_
            refine VS.val (y := nI k) hk ?_
            refine VS.aload_n dX7_carryOut_31 rfl ?_
            refine VS.sgetI 6 dX7_carryOut_32 uw_X7 rfl (by decide) 6 rfl rfl (by decide) fl_X7_151 rfl ?_
            refine VS.val (y := nI L) hL ?_
            refine VS.icmp_ge 80 dX7_carryOut_35 (by decide) (fun hh => absurd hh (nI_ge (by omega) (by omega))) (fun _ => ?_)
            refine VS.aload_n dX7_carryOut_38 rfl ?_
            refine VS.callT (hC) dX7_carryOut_39 mi_X7_order im_X7_order sel_X7_order ml_X7_181 (by decide) rfl rfl (rmOk_D (by decide) (by decide)) (Nat.le_of_ble_eq_true rfl) rfl ?_
            refine VS.aload_n dX7_carryOut_42 rfl ?_
            refine VS.dup dX7_carryOut_43 rfl ?_
            refine VS.sgetI 6 dX7_carryOut_44 uw_X7 rfl (by decide) 10 rfl rfl (by decide) fl_X7_159 rfl ?_
            refine VS.iconst (1) dX7_carryOut_47 rfl ?_
            refine VS.iadd dX7_carryOut_48 ?_
            refine VS.val (y := nI (k + lenO (Mk 5 k) + 1)) (nI_p1 _) ?_
            refine VS.sput 6 dX7_carryOut_49 uw_X7 tyX7 tyX7_ok nmX7 rfl (by decide) 10 rfl rfl (by decide) fl_X7_159 rfl rfl (rfl) (rfl) ?_
            refine VS.stt (od3_spot _ _ _ _ _ _ _) ?_
            refine VS.aload_n dX7_carryOut_52 rfl ?_
            refine VS.callT (ct_X7_bar l _ rfl rfl rfl rfl hG hop) dX7_carryOut_53 mi_X7_bar im_X7_bar sel_X7_bar ml_X7_187 (by decide) rfl rfl (rmOk_D (by decide) (by decide)) (Nat.le_of_ble_eq_true rfl) rfl ?_
            refine VS.if_ne 63 dX7_carryOut_56 (by decide) (fun _ => ?_) (fun hh => absurd hh (hb))
            refine VS.iconst (0) dX7_carryOut_63 rfl ?_
            refine VS.istore_n dX7_carryOut_64 (by decide) rfl ?_
            refine VS.iload_n dX7_carryOut_65 rfl ?_
            refine VS.if_eq 23 dX7_carryOut_66 (by decide) (fun _ => ?_) (fun hh => absurd (rfl) hh)
            refine VS.iload_n dX7_carryOut_23 rfl ?_
            refine VS.if_eq 80 dX7_carryOut_24 (by decide) (fun _ => ?_) (fun hh => absurd (rfl) hh)
            refine VS.aload_n dX7_carryOut_80 rfl ?_
            refine VS.iconst (0) dX7_carryOut_81 rfl ?_
            refine VS.sput 6 dX7_carryOut_82 uw_X7 tyX7 tyX7_ok nmX7 rfl (by decide) 6 rfl rfl (by decide) fl_X7_151 rfl rfl (rfl) (rfl) ?_
            refine VS.iload_n dX7_carryOut_85 rfl ?_
            exact VS.iret dX7_carryOut_86 (by show some (Value.int (nI (exF (Mk 5) L (n + 1) k (Mk 1) c).2)) = _; unfold exF; rw [if_pos hkL, if_neg hb]) (shk rfl)
      · exact absurd hf (flt_no h5)
    · refine ⟨up2 Mk 0 6 0, ?_, rfl, ⟨rfl, rfl, rfl, rfl, rfl⟩, ?_⟩
      · show Mk 1 = (exF (Mk 5) L (n + 1) k (Mk 1) c).1
        unfold exF; rw [if_neg hkL]
      · refine VS.iload_n dX7_carryOut_23 rfl ?_
        refine VS.if_eq 80 dX7_carryOut_24 (by decide) (fun hh => absurd hh (by decide)) (fun _ => ?_)
        refine VS.aload_n dX7_carryOut_27 rfl ?_
        refine VS.sgetI 6 dX7_carryOut_28 uw_X7 rfl (by decide) 10 rfl rfl (by decide) fl_X7_159 rfl ?_
        refine VS.val (y := nI k) hk ?_
        refine VS.aload_n dX7_carryOut_31 rfl ?_
        refine VS.sgetI 6 dX7_carryOut_32 uw_X7 rfl (by decide) 6 rfl rfl (by decide) fl_X7_151 rfl ?_
        refine VS.val (y := nI L) hL ?_
        refine VS.icmp_ge 80 dX7_carryOut_35 (by decide) (fun _ => ?_) (fun hh => absurd (nI_le (by omega) (by omega)) hh)
        refine VS.aload_n dX7_carryOut_80 rfl ?_
        refine VS.iconst (0) dX7_carryOut_81 rfl ?_
        refine VS.sput 6 dX7_carryOut_82 uw_X7 tyX7 tyX7_ok nmX7 rfl (by decide) 6 rfl rfl (by decide) fl_X7_151 rfl rfl (rfl) (rfl) ?_
        refine VS.iload_n dX7_carryOut_85 rfl ?_
        exact VS.iret dX7_carryOut_86 (by show some (Value.int (nI (exF (Mk 5) L (n + 1) k (Mk 1) c).2)) = _; unfold exF; rw [if_neg hkL]) (shk rfl)
set_option maxRecDepth 100000 in
set_option maxHeartbeats 4000000 in
theorem ct_X7_carryOut (l : Launch) {M : SS} {L np : Nat} (hL2 : L ≤ 80) (hL : M 0 6 = nI L) (hp6 : M 0 2 = nI np) (h6 : np ≤ 6) (hG : Good (M 1)) :
    ∃ S2 R, ((dS (M 5) L = 5 ∧ R = nI (exF (M 5) L (L + 2) 0 (M 1) 0).2 ∧ S2 1 = (exF (M 5) L (L + 2) 0 (M 1) 0).1 ∧ S2 0 6 = 0 ∧ Fr S2 (rRec M np)) ∨ (¬ dS (M 5) L = 5 ∧ R = -3 ∧ S2 1 = M 1 ∧ S2 0 6 = M 0 6 ∧ Fr S2 M)) ∧ CtS l yX7_carryOut cX7_carryOut 4 (some .int) (rmD 4) [.ref 0] 7 shM M (some (.int R)) S2 := by
  obtain ⟨K, w, sg, dg, fi, se, R, ⟨rfl, rfl, h5⟩ | ⟨rfl, rfl, hf⟩, hW⟩ := ct_X7_isWhole l hL2 hL
  · obtain ⟨S2, a1, a2, a3, hv⟩ := carry_loop l hL2 (L + 2) 0 0 (up2 (rRec (od3 M K 0 sg dg fi se) np) 0 10 0) (by omega) (Or.inr ⟨Nat.zero_le _, rfl⟩) rfl hL rfl h5 hG
    refine ⟨S2, _, Or.inl ⟨h5, rfl, a1, a2, a3.trans ⟨rfl, rfl, rfl, rfl, rfl⟩⟩, ?_⟩
    refine CtF.of (own := RX7) [some (.ref 0), none, none, none] (by decide +kernel) rfl (fun _ => Nat.le_of_ble_eq_true rfl) (fun _ => rfl) ?_
    refine VS.aload_n dX7_carryOut_0 rfl ?_
    refine VS.callT (hW) dX7_carryOut_1 mi_X7_isWhole im_X7_isWhole sel_X7_isWhole ml_X7_184 (by decide) rfl rfl (rmOk_D (by decide) (by decide)) (Nat.le_of_ble_eq_true rfl) rfl ?_
    refine VS.if_ne 10 dX7_carryOut_4 (by decide) (fun _ => ?_) (fun hh => absurd hh (by decide))
    refine VS.aload_n dX7_carryOut_10 rfl ?_
    refine VS.callT (ct_X7_records l _ hp6 h6) dX7_carryOut_11 mi_X7_records im_X7_records sel_X7_records ml_X7_64 (by decide) rfl rfl (rmOk_D (by decide) (by decide)) (Nat.le_of_ble_eq_true rfl) rfl ?_
    refine VS.iconst (0) dX7_carryOut_14 rfl ?_
    refine VS.istore_n dX7_carryOut_15 (by decide) rfl ?_
    refine VS.aload_n dX7_carryOut_16 rfl ?_
    refine VS.iconst (0) dX7_carryOut_17 rfl ?_
    refine VS.sput 6 dX7_carryOut_18 uw_X7 tyX7 tyX7_ok nmX7 rfl (by decide) 10 rfl rfl (by decide) fl_X7_159 rfl rfl (rfl) (rfl) ?_
    refine VS.iconst (1) dX7_carryOut_21 rfl ?_
    refine VS.istore_n dX7_carryOut_22 (by decide) rfl ?_
    exact hv
  · refine ⟨od3 M K 1 sg dg fi se, -3, Or.inr ⟨fun q => flt_no q hf, rfl, rfl, rfl, ⟨rfl, rfl, rfl, rfl, rfl⟩⟩, ?_⟩
    refine CtF.of (own := RX7) [some (.ref 0), none, none, none] (by decide +kernel) rfl (fun _ => Nat.le_of_ble_eq_true rfl) (fun _ => rfl) ?_
    refine VS.aload_n dX7_carryOut_0 rfl ?_
    refine VS.callT (hW) dX7_carryOut_1 mi_X7_isWhole im_X7_isWhole sel_X7_isWhole ml_X7_184 (by decide) rfl rfl (rmOk_D (by decide) (by decide)) (Nat.le_of_ble_eq_true rfl) rfl ?_
    refine VS.if_ne 10 dX7_carryOut_4 (by decide) (fun hh => absurd (rfl) hh) (fun _ => ?_)
    refine VS.bipush (-3) dX7_carryOut_7 rfl ?_
    exact VS.iret dX7_carryOut_9 (rfl) (shk rfl)
