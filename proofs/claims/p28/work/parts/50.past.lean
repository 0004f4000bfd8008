/-! the constructors: the past, the class, the reference -/
section
variable {l : Launch} {R : Room} {own : String} {cc : ByteArray} {nL : Nat} {X : XT} {cl sl n : Nat} {g : Nat → va_E} {pc : Nat} {L : List (Option Value)} {st : List Value}
theorem VC.heap {g2 : Nat → va_E} (h : ∀ k, k < n → g k = g2 k) (kk : VC l R own cc nL X cl sl n g2 pc L st) : VC l R own cc nL X cl sl n g pc L st := fun hc => VS.heap h (kk (fun k hk => h k hk ▸ hc k hk))
theorem VC.aast {o o2 N ci : Nat} {f : Nat → Option Nat} {j : Int32} {fs : List Value} {T : u_T} {M : Nat} (d : decode cc pc = .ok (.aastore, 1)) (ho : o < n) (hg : g o = .inl (3, N, .inr (.inr (.inr (.inr f))))) (hin : vp_in j N) (ho2 : o2 < n) (hg2 : g o2 = .inr (ci, fs)) (hc : vwCl[ci]? = some (RX0, T, M)) (kk : VC l R own cc nL X cl sl n (va_up g o (.inl (3, N, .inr (.inr (.inr (.inr (va_up f j.toNatClampNeg (some o2)))))))) (pc + 1) L st) : VC l R own cc nL X cl sl n g pc L (.ref o2 :: .int j :: .ref o :: st) := fun hcl => VS.aast d ho hg hin ho2 hg2 hc (kk (hcl.up (fun i r hr => by
  have h1 : ltE n (g o) := hcl o ho
  rw [hg] at h1
  have hr2 : va_up f j.toNatClampNeg (some o2) i = some r := hr
  unfold va_up at hr2
  split at hr2
  · cases hr2; exact ho2
  · exact h1 i r hr2)))
end
/-- the past's cells while its games are made: i of them -/
def shPa (i k : Nat) : Shp := if k = 0 then .inl (2, [some 1, none, none]) else if k = 1 then .inr (.inr (7, fun j => if j < i then some (2 + 7 * j) else none)) else shR (fun z => 2 + 7 * ((k - 2) / 7) + z) (shG ((k - 2) % 7))
def sPa : SS := fun k => if k < 2 then z0 else gF0 ((k - 2) % 7)
theorem pa_step {i : Nat} {f : Nat → Option Nat} {e : va_E} (hf : f = fun j => if j < i then some (2 + 7 * j) else none) : ∀ k, k < 2 + 7 * i + 7 → va_up (joinG (va_up (shW (shPa i) sPa) (2 + 7 * i) e) (2 + 7 * i) (shW shG gF0)) 1 (.inl (3, 7, .inr (.inr (.inr (.inr (va_up f i (some (2 + 7 * i)))))))) k = shW (shPa (i + 1)) sPa k := by
  intro k hk
  by_cases h1 : k = 1
  · subst h1
    have e1 : ∀ g : Nat → va_E, ∀ x : va_E, va_up g 1 x 1 = x := fun _ _ => if_pos rfl
    rw [e1]
    show (Sum.inl (3, 7, Sum.inr (Sum.inr (Sum.inr (Sum.inr (va_up f i (some (2 + 7 * i))))))) : va_E) = Sum.inl (3, 7, Sum.inr (Sum.inr (Sum.inr (Sum.inr (fun j => if j < i + 1 then some (2 + 7 * j) else none)))))
    congr 7
    funext j
    unfold va_up
    rw [hf]
    by_cases hj : j = i
    · subst hj; rw [if_pos rfl, if_pos (by omega)]
    · rw [if_neg hj]
      show (if j < i then some (2 + 7 * j) else none) = _
      by_cases h2 : j < i
      · rw [if_pos h2, if_pos (by omega)]
      · rw [if_neg h2, if_neg (by omega)]
  · have e1 : ∀ g : Nat → va_E, ∀ x : va_E, va_up g 1 x k = g k := fun _ _ => if_neg h1
    rw [e1]
    by_cases h2 : k < 2 + 7 * i
    · have e2 : joinG (va_up (shW (shPa i) sPa) (2 + 7 * i) e) (2 + 7 * i) (shW shG gF0) k = shW (shPa i) sPa k := by
        unfold joinG va_up; rw [if_pos h2, if_neg (by omega)]
      rw [e2]
      unfold shW shPa
      by_cases h0 : k = 0
      · rw [if_pos h0, if_pos h0]
      · rw [if_neg h0, if_neg h0, if_neg h1, if_neg h1]
    · have e2 : joinG (va_up (shW (shPa i) sPa) (2 + 7 * i) e) (2 + 7 * i) (shW shG gF0) k = rE (fun z => 2 + 7 * i + z) (shW shG gF0 (k - (2 + 7 * i))) := by
        unfold joinG; rw [if_neg h2]
      rw [e2]
      unfold shW shPa sPa
      rw [if_neg (by omega), if_neg h1, if_neg (by omega), show (k - 2) / 7 = i by omega, show (k - 2) % 7 = k - (2 + 7 * i) by omega, shC_R]
theorem okV_r {n r : Nat} (h : r ≠ n) : okV n (.ref r) = true := bne_iff_ne.mpr h
theorem okL_2 {n : Nat} {x : Int32} (h : 0 ≠ n) : okL n [some (.ref 0), some (.int x)] = true := by
  show (okV n (.ref 0) && (true && true)) = true
  rw [okV_r h]; rfl
theorem okS_2 {n : Nat} {x : Int32} (h : 1 ≠ n) : [Value.int x, Value.ref 1].all (okV n) = true := by
  show (true && (okV n (.ref 1) && true)) = true
  rw [okV_r h]; rfl
theorem okW_r {o r : Nat} (h : r ≤ o) : okW o (.ref r) = true := by
  show (decide (r ≤ o) || decide (200 ≤ r)) = true
  rw [decide_eq_true h]; rfl
theorem okWL_2 (o : Nat) {x : Int32} : okWL o [some (.ref 0), some (.int x)] = true := by
  show (okW o (.ref 0) && (true && true)) = true
  rw [okW_r (Nat.zero_le _)]; rfl
theorem okWS_3 {o : Nat} {x : Int32} (h : 1 ≤ o) : [Value.ref o, Value.int x, Value.ref 1].all (okW o) = true := by
  show (okW o (.ref o) && (true && (okW o (.ref 1) && true))) = true
  rw [okW_r (Nat.le_refl _), okW_r h]; rfl
theorem shLt_G {b n k : Nat} (hb : b + 7 ≤ n) (hk : k < 7) : shLt n (shR (fun z => b + z) (shG k)) := by
  rcases (show k = 0 ∨ k = 1 ∨ k = 2 ∨ k = 3 ∨ k = 4 ∨ k = 5 ∨ k = 6 by omega) with rfl | rfl | rfl | rfl | rfl | rfl | rfl
  · show ([some (b + 1), none, none, none, none, none, none, none, some (b + 2), some (b + 3), some (b + 4), some (b + 5), some (b + 6), none] : List (Option Nat)).all (fun o => match o with
      | some r => decide (r < n)
      | none => true) = true
    simp; omega
  · trivial
  · rfl
  · rfl
  · rfl
  · trivial
  · trivial
set_option maxRecDepth 100000 in
set_option maxHeartbeats 400000 in
theorem ct_X3_init (l : Launch) : CtI l yX3_init cX3_init 2 (rmC 3 50 1386) (.inr (2, fsX3)) 51 (shW (shPa 7) sPa) 50 1386 := by
  refine CtI.of (own := RX3) [some (.ref 0), none] (by decide +kernel) rfl rfl (by decide) (fun _ => rfl) ?_
  refine VC.start (fun _ _ => ltE_o rfl) ?_
  refine VC.lift (VS.aload_n dX3_init_0 rfl) ?_
  refine VC.lift (VS.oi dX3_init_1 ml_X3_3 (by decide) (Nat.le_of_ble_eq_true rfl)) ?_
  refine VC.lift (VS.aload_n dX3_init_4 rfl) ?_
  refine VC.lift (VS.bipush (7) dX3_init_5 rfl) ?_
  refine VC.anewa 7 7 dX3_init_7 cl_X3_9 rfl (by decide) (XI.g (by decide)) (by decide) XI.new (by decide) rfl rfl ?_
  refine VC.putF 2 [.null, .int 0, .int 0] dX3_init_10 uw_X3 tyX3 tyX3_ok nmX3 rfl (by decide) 0 rfl (by decide) fl_X3_11 rfl rfl XI.nm rfl (fun _ => rfl) (fun _ => rfl) (by decide) rfl ?_
  refine VC.lift (VS.iconst (0) dX3_init_13 rfl) ?_
  refine VC.lift (VS.istore_n dX3_init_14 (by decide) rfl) ?_
  refine VC.heap (g2 := shW (shPa 0) sPa) (fun k hk => by rcases (show k = 0 ∨ k = 1 by omega) with rfl | rfl <;> rfl) ?_
  have key : ∀ i, i ≤ 7 → VC l (rmC 3 50 1386) RX3 cX3_init 2 (XI 51 (shW (shPa 7) sPa) 50 1386) (1 + 7 * i) (7 + 197 * i) (2 + 7 * i) (shW (shPa i) sPa) 15 [some (.ref 0), some (.int (nI i))] [] := downI 7 (fun i => VC l (rmC 3 50 1386) RX3 cX3_init 2 (XI 51 (shW (shPa 7) sPa) 50 1386) (1 + 7 * i) (7 + 197 * i) (2 + 7 * i) (shW (shPa i) sPa) 15 [some (.ref 0), some (.int (nI i))] []) ?_ (fun i hi ih => ?_)
  · exact key 0 (by decide)
  · refine VC.lift (VS.iload_n dX3_init_15 rfl) ?_
    refine VC.lift (VS.aload_n dX3_init_16 rfl) ?_
    refine VC.lift (VS.sgetR 2 dX3_init_17 uw_X3 rfl (by decide) 0 rfl rfl (by decide) fl_X3_11 rfl) ?_
    refine VC.lift (VS.salenR (v := 7) dX3_init_20 (by decide) rfl rfl) ?_
    refine VC.lift (fun kk => VS.icmp_ge 43 dX3_init_21 (by decide) (fun _ => kk) (fun hh => absurd (by decide) hh)) ?_
    exact VC.drop (VS.irt dX3_init_43 (fun k hk => rfl))
  · refine VC.lift (VS.iload_n dX3_init_15 rfl) ?_
    refine VC.lift (VS.aload_n dX3_init_16 rfl) ?_
    refine VC.lift (VS.sgetR 2 dX3_init_17 uw_X3 rfl (by omega) 0 rfl rfl (by decide) fl_X3_11 rfl) ?_
    refine VC.lift (VS.salenR (v := 7) dX3_init_20 (by omega) rfl rfl) ?_
    refine VC.lift (fun kk => VS.icmp_ge 43 dX3_init_21 (by decide) (fun hh => absurd hh (nI_ge (b := 7) hi (by decide))) (fun _ => kk)) ?_
    refine VC.lift (VS.aload_n dX3_init_24 rfl) ?_
    refine VC.lift (VS.sgetR 2 dX3_init_25 uw_X3 rfl (by omega) 0 rfl rfl (by decide) fl_X3_11 rfl) ?_
    refine VC.lift (VS.iload_n dX3_init_28 rfl) ?_
    refine VC.new 0 fsX0 dX3_init_29 uw_X0 tyX0 tyX0_ok rfl cl_X3_9 ins_X0 ini_X0 (fun j hj => by rcases (show j = 0 ∨ j = 1 ∨ j = 2 ∨ j = 3 ∨ j = 4 ∨ j = 5 ∨ j = 6 ∨ j = 7 ∨ j = 8 ∨ j = 9 ∨ j = 10 ∨ j = 11 ∨ j = 12 ∨ j = 13 by omega) with rfl | rfl | rfl | rfl | rfl | rfl | rfl | rfl | rfl | rfl | rfl | rfl | rfl | rfl <;> rfl) rfl (XI.g (by omega)) (by omega) XI.new ⟨show 1 + 7 * i + 1 ≤ 50 by omega, show 7 + 197 * i + 14 ≤ 1386 by omega⟩ (okL_2 (by omega)) (okS_2 (by omega)) ?_
    refine VC.lift (VS.dup dX3_init_32 rfl) ?_
    refine VC.callI (ct_X0_init l) dX3_init_33 mi_X0_init rfl im_X0_init ml_X3_15 ⟨⟨by decide, by decide⟩, ⟨rfl, rfl⟩, show 1 + 7 * i + 1 + 6 ≤ 50 by omega, show 7 + 197 * i + 14 + 183 ≤ 1386 by omega⟩ (Nat.le_of_ble_eq_true rfl) (if_pos rfl) (fun _ _ _ => rfl) (XI.g (by omega)) XI.new (by omega) (by decide) clo_X0 (okWL_2 _) (okWS_3 (by omega)) ?_
    refine VC.aast (N := 7) (f := fun j => if j < i then some (2 + 7 * j) else none) dX3_init_36 (by omega) (by unfold joinG va_up; rw [if_pos (by omega), if_neg (by omega)]; rfl) (vp_in_nI hi (by omega)) (by omega) (by unfold joinG; rw [if_neg (by omega), Nat.sub_self]; rfl) rfl ?_
    rw [nI_clamp (by omega)]
    refine VC.heap (pa_step rfl) ?_
    refine VC.lift (VS.iinc (nI (i + 1)) dX3_init_37 rfl (by decide) (nI_succ i).symm rfl) ?_
    refine VC.lift (VS.goto 15 dX3_init_40 (by decide)) ?_
    have e1 : 1 + 7 * (i + 1) = 1 + 7 * i + 1 + 6 := by omega
    have e2 : 7 + 197 * (i + 1) = 7 + 197 * i + 14 + 183 := by omega
    have e3 : 2 + 7 * (i + 1) = 2 + 7 * i + 7 := by omega
    rw [e1, e2, e3] at ih
    exact ih
theorem clo_X3 : Clo 51 (shW (shPa 7) sPa) := Clo.sh (fun k hk => by
  unfold shPa
  by_cases h0 : k = 0
  · rw [if_pos h0]; rfl
  · rw [if_neg h0]
    by_cases h1 : k = 1
    · rw [if_pos h1]
      intro i r hr
      have hr2 : (if i < 7 then some (2 + 7 * i) else none) = some r := hr
      split at hr2
      · cases hr2; omega
      · cases hr2
    · rw [if_neg h1]
      exact shLt_G (by omega) (Nat.mod_lt _ (by decide)))
