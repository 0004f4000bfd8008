/-! the class: its cells; what it keeps of the past -/
def shK (k : Nat) : Shp :=
  if k = 0 then .inl (5, [some 1, some 8, some 59, some 61, some 69])
  else if k < 8 then shR (fun i => 1 + i) (shG (k - 1))
  else if k = 8 then .inl (2, [some 9, none, none])
  else if k = 9 then .inr (.inr (7, fun j => if j < 7 then some (10 + 7 * j) else none))
  else if k < 59 then shR (fun i => 10 + 7 * ((k - 10) / 7) + i) (shG ((k - 10) % 7))
  else if k < 61 then shR (fun i => 59 + i) (shD (k - 59))
  else if k = 61 then .inl (4, [some 62, none])
  else if k < 69 then shR (fun i => 62 + i) (shG (k - 62))
  else if k = 69 then .inl (4, [some 70, none])
  else shR (fun i => 70 + i) (shG (k - 70))
/-- a game stands at a -/
def GmAt (a : Nat) : Prop := a + 7 ≤ 77 ∧ ∀ i, i < 7 → shK (a + i) = shR (fun i => a + i) (shG i)
theorem seven {P : Nat → Prop} (h0 : P 0) (h1 : P 1) (h2 : P 2) (h3 : P 3) (h4 : P 4) (h5 : P 5) (h6 : P 6) : ∀ i, i < 7 → P i := by
  intro i hi
  rcases (show i = 0 ∨ i = 1 ∨ i = 2 ∨ i = 3 ∨ i = 4 ∨ i = 5 ∨ i = 6 by omega) with rfl | rfl | rfl | rfl | rfl | rfl | rfl
  · exact h0
  · exact h1
  · exact h2
  · exact h3
  · exact h4
  · exact h5
  · exact h6
theorem gmAt_1 : GmAt 1 := ⟨by decide, seven rfl rfl rfl rfl rfl rfl rfl⟩
theorem gmAt_62 : GmAt 62 := ⟨by decide, seven rfl rfl rfl rfl rfl rfl rfl⟩
theorem gmAt_70 : GmAt 70 := ⟨by decide, seven rfl rfl rfl rfl rfl rfl rfl⟩
theorem gmAt_c {f : Nat} (h : f < 7) : GmAt (10 + 7 * f) := by
  refine ⟨by omega, fun i hi => ?_⟩
  unfold shK
  rw [if_neg (by omega), if_neg (by omega), if_neg (by omega), if_neg (by omega), if_pos (by omega)]
  rw [show (10 + 7 * f + i - 10) / 7 = f by omega, show (10 + 7 * f + i - 10) % 7 = i by omega]
theorem GmAt.shi {a : Nat} (h : GmAt a) : ShI (fun i => a + i) 7 shG 77 shK := ⟨fun i hi => by have := h.1; show a + i < 77; omega, fun i j _ _ e => by have : a + i = a + j := e; omega, fun i hi => h.2 i hi⟩
/-- cells from a on -/
abbrev gm (S : SS) (a : Nat) : SS := fun i => S (a + i)
def putG (S : SS) (a n : Nat) (G : SS) : SS := fun k => if a ≤ k ∧ k < a + n then G (k - a) else S k
theorem mg_off (a n : Nat) (G S : SS) : mg (fun i => a + i) n G S = putG S a n G := by
  funext k
  unfold putG
  by_cases h : a ≤ k ∧ k < a + n
  · rw [if_pos h]
    have e := mg_in (ρ := fun i => a + i) (n1 := n) (S2 := G) (S := S) (fun i j _ _ z => by have : a + i = a + j := z; omega) (show k - a < n by omega)
    have e2 : mg (fun i => a + i) n G S (a + (k - a)) = G (k - a) := e
    rw [show a + (k - a) = k by omega] at e2
    exact e2
  · rw [if_neg h]
    exact mg_out fun i hi z => h (by have : a + i = k := z; omega)
theorem putG_id {S : SS} {a n : Nat} : putG S a n (gm S a) = S := by
  funext k; unfold putG; split
  · show S (a + (k - a)) = S k; rw [show a + (k - a) = k by omega]
  · rfl
theorem putG_in {S : SS} {a n : Nat} {G : SS} {i : Nat} (h : i < n) : putG S a n G (a + i) = G i := by
  unfold putG; rw [if_pos ⟨by omega, by omega⟩, show a + i - a = i by omega]
theorem putG_out {S : SS} {a n : Nat} {G : SS} {k : Nat} (h : ¬ (a ≤ k ∧ k < a + n)) : putG S a n G k = S k := if_neg h
/-- two games -/
def gg2 (a b : Nat) : Nat → Nat := fun i => if i < 7 then a + i else b + (i - 7)
theorem shG_lt {a b i : Nat} (h : i < 7) : shR (gg2 a b) (shG i) = shR (fun i => a + i) (shG i) := seven (P := fun i => shR (gg2 a b) (shG i) = shR (fun i => a + i) (shG i)) rfl rfl rfl rfl rfl rfl rfl i h
theorem shG_7 {a b i : Nat} (h : i < 7) : shR (gg2 a b) (shR (fun i => 7 + i) (shG i)) = shR (fun i => b + i) (shG i) := seven (P := fun i => shR (gg2 a b) (shR (fun i => 7 + i) (shG i)) = shR (fun i => b + i) (shG i)) rfl rfl rfl rfl rfl rfl rfl i h
theorem shi_gg {a b : Nat} (ha : GmAt a) (hb : GmAt b) (hd : a + 7 ≤ b ∨ b + 7 ≤ a) : ShI (gg2 a b) 14 shGG 77 shK := by
  have h1 := ha.1
  have h2 := hb.1
  refine ⟨fun i hi => ?_, fun i j hi hj e => ?_, fun i hi => ?_⟩
  · unfold gg2; split <;> omega
  · unfold gg2 at e; split at e <;> split at e <;> omega
  · by_cases h : i < 7
    · unfold shGG; rw [if_pos h, shG_lt h, ← ha.2 i h]; unfold gg2; rw [if_pos h]
    · unfold shGG; rw [if_neg h, shG_7 (by omega), ← hb.2 (i - 7) (by omega)]; unfold gg2; rw [if_neg h]
theorem mg_gg {a b : Nat} (hd : a + 7 ≤ b ∨ b + 7 ≤ a) (S : SS) : mg (gg2 a b) 14 (beS (fun i => S (gg2 a b i))) S = putG S a 7 (gm S b) := by
  have inj : ∀ i j, i < 14 → j < 14 → gg2 a b i = gg2 a b j → i = j := by
    intro i j hi hj e; unfold gg2 at e; split at e <;> split at e <;> omega
  funext k
  by_cases h1 : a ≤ k ∧ k < a + 7
  · have e := mg_in (S2 := beS (fun i => S (gg2 a b i))) (S := S) inj (show k - a < 14 by omega)
    rw [show gg2 a b (k - a) = k by unfold gg2; rw [if_pos (by omega)]; omega] at e
    rw [e]
    unfold putG beS
    rw [if_pos h1, if_pos (by omega)]
    show S (gg2 a b (7 + (k - a))) = S (b + (k - a))
    rw [show gg2 a b (7 + (k - a)) = b + (k - a) by unfold gg2; rw [if_neg (by omega)]; omega]
  · rw [putG_out h1]
    by_cases h2 : b ≤ k ∧ k < b + 7
    · have e := mg_in (S2 := beS (fun i => S (gg2 a b i))) (S := S) inj (show 7 + (k - b) < 14 by omega)
      have e2 : gg2 a b (7 + (k - b)) = k := by unfold gg2; rw [if_neg (by omega)]; omega
      rw [e2] at e
      rw [e]
      unfold beS
      rw [if_neg (by omega)]
      show S (gg2 a b (7 + (k - b))) = S k
      rw [e2]
    · exact mg_out fun i hi z => by unfold gg2 at z; split at z <;> omega
section
variable {l : Launch} {R : Room} {own : String} {cc : ByteArray} {nL : Nat} {X : XT} {cl sl n : Nat} {pc : Nat} {L : List (Option Value)} {st : List Value} {sh : Nat → Shp} {S : SS}
theorem VS.saald {o N : Nat} {f : Nat → Option Nat} {j : Int32} {v : Value} (k : Nat) (d : decode cc pc = .ok (.aaload, 1)) (ho : o < n) (hsh : sh o = .inr (.inr (N, f))) (hj : j = nI k) (hk : k < N) (hN : N < 2000) (hv : va_rf (f k) = v) (kk : VS l R own cc nL X cl sl n (shW sh S) (pc + 1) L (v :: st)) : VS l R own cc nL X cl sl n (shW sh S) pc L (.int j :: .ref o :: st) := by
  subst hj
  exact VS.aald d ho (show shW sh S o = .inl (3, N, .inr (.inr (.inr (.inr f)))) by unfold shW; rw [hsh]; rfl) (vp_in_nI hk (by omega)) (by rw [nI_clamp (by omega)]; exact hv) kk
theorem VS.salenR {o N : Nat} {f : Nat → Option Nat} {v : Int32} (d : decode cc pc = .ok (.arraylength, 1)) (ho : o < n) (hsh : sh o = .inr (.inr (N, f))) (hv : Int32.ofNat N = v) (kk : VS l R own cc nL X cl sl n (shW sh S) (pc + 1) L (.int v :: st)) : VS l R own cc nL X cl sl n (shW sh S) pc L (.ref o :: st) :=
  VS.alen (t := 3) (N := N) (y := .inr (.inr (.inr (.inr f)))) (.object RX0) d ho (by unfold shW; rw [hsh]; rfl) (fun _ => rfl) hv kk
end
/-- the past -/
def holdK (S : SS) (f : Nat) : SS := putG S (10 + 7 * f) 7 (gm S 1)
def keepK (S : SS) (f q : Nat) : SS := up2 (up2 S 8 1 (nI ((f + 1) % 7))) 8 2 (nI (min (q + 1) 6))
def backK (S : SS) (f q : Nat) : SS := up2 (up2 (putG S 1 7 (gm S (10 + 7 * ((f + 6) % 7)))) 8 1 (nI ((f + 6) % 7))) 8 2 (nI (q - 1))
theorem rem7 {n : Nat} (h : n < 2000) : nI n - nI n / 7 * 7 = nI (n % 7) := pk_rem (by omega) (by decide) (by decide)
theorem nI_ge6 {q : Nat} (h : 6 < q + 1) (h2 : q + 1 < 2 ^ 31) : ¬ nI (q + 1) ≤ 6 := fun z => absurd ((nI_leI (b := 6) h2 (by decide)).mp z) (by omega)
theorem min6 {q : Nat} (h : q < 2000) : minI (nI (q + 1)) 6 = nI (min (q + 1) 6) := by
  unfold minI
  by_cases h2 : q + 1 ≤ 6
  · rw [Nat.min_eq_left h2]; exact if_neg (Int32.not_lt.mpr (nI_le (b := 6) h2 (by decide)))
  · rw [Nat.min_eq_right (by omega)]; exact if_pos (Int32.not_le.mp (nI_ge6 (by omega) (by omega)))
set_option maxRecDepth 100000 in
set_option maxHeartbeats 4000000 in
theorem ct_X3_cell (l : Launch) (S : SS)  {f : Nat} (hf : f < 7) : CtS l yX3_cell cX3_cell 2 (some (FieldType.object "LiarMaps$Game")) (rmD 0) [.ref 8, .int (nI f)] 77 shK S (some (.ref (10 + 7 * f))) (S) := by
  refine CtF.of (own := RX3) [some (.ref 8), some (.int (nI f))] (by decide +kernel) rfl (fun _ => Nat.le_of_ble_eq_true rfl) (fun _ => rfl) ?_
  refine VS.iload_n dX3_cell_0 rfl ?_
  refine VS.if_lt 22 dX3_cell_1 (by decide) (fun hh => absurd hh (nI_pos (by omega))) (fun _ => ?_)
  refine VS.iload_n dX3_cell_4 rfl ?_
  refine VS.aload_n dX3_cell_5 rfl ?_
  refine VS.sgetR 2 dX3_cell_6 uw_X3 rfl (by decide) 0 (rfl) rfl (by decide) fl_X3_11 rfl ?_
  refine VS.salenR dX3_cell_9 (by decide) rfl (v := 7) rfl ?_
  refine VS.icmp_ge 22 dX3_cell_10 (by decide) (fun hh => absurd hh (nI_ge (b := 7) hf (by decide))) (fun _ => ?_)
  refine VS.aload_n dX3_cell_13 rfl ?_
  refine VS.sgetR 2 dX3_cell_14 uw_X3 rfl (by decide) 0 (rfl) rfl (by decide) fl_X3_11 rfl ?_
  refine VS.iload_n dX3_cell_17 rfl ?_
  refine VS.saald (f) dX3_cell_18 (by decide) rfl (rfl) (hf) (by decide) (by rw [if_pos hf]) ?_
  refine VS.goto 23 dX3_cell_19 (by decide) ?_
  exact VS.aret dX3_cell_23 (rfl) (fun _ _ => rfl)
set_option maxRecDepth 100000 in
set_option maxHeartbeats 4000000 in
theorem ct_X3_hold (l : Launch) (S : SS)  {f : Nat} (hf : f < 7) (hF : S 8 1 = nI f) (hb : S 1 3 = 0 ∨ S 1 3 = 1) : CtS l yX3_hold cX3_hold 3 none (rmD 3) [.ref 8, .ref 1] 77 shK S (none) (holdK S f) := by
  refine CtF.of (own := RX3) [some (.ref 8), some (.ref 1), none] (by decide +kernel) rfl (fun _ => Nat.le_of_ble_eq_true rfl) (fun _ => rfl) ?_
  refine VS.aload_n dX3_hold_0 rfl ?_
  refine VS.aload_n dX3_hold_1 rfl ?_
  refine VS.sgetI 2 dX3_hold_2 uw_X3 rfl (by decide) 1 (rfl) rfl (by decide) fl_X3_16 rfl ?_
  refine VS.val (y := nI f) hF ?_
  refine VS.callT (ct_X3_cell l _ hf) dX3_hold_5 mi_X3_cell im_X3_cell sel_X3_cell ml_X3_20 (by decide) rfl rfl (rmOk_D (by decide) (by decide)) (Nat.le_of_ble_eq_true rfl) rfl ?_
  refine VS.astore_n dX3_hold_8 (by decide) rfl ?_
  refine VS.aload_n dX3_hold_9 rfl ?_
  refine VS.ifnull dX3_hold_10 ?_
  refine VS.aload_n dX3_hold_13 rfl ?_
  refine VS.aload_n dX3_hold_14 rfl ?_
  refine VS.callR (gg2 (10 + 7 * f) (1)) (shi_gg (gmAt_c hf) gmAt_1 (Or.inr (by omega))) (ct_X0_become l _ (hb)) dX3_hold_15 mi_X0_become im_X0_become sel_X0_become ml_X3_24 (by decide) rfl rfl (rmOk_D (by decide) (by decide)) (Nat.le_of_ble_eq_true rfl) rfl ?_
  refine VS.stt (mg_gg (a := 10 + 7 * f) (b := 1) (Or.inr (by omega)) _) ?_
  exact VS.vret dX3_hold_18 rfl (fun _ _ => rfl)
set_option maxRecDepth 100000 in
set_option maxHeartbeats 4000000 in
theorem ct_X3_keep (l : Launch) (S : SS)  {f q : Nat} (hf : f < 7) (hF : S 8 1 = nI f) (hq : q ≤ 6) (hQ : S 8 2 = nI q) : CtS l yX3_keep cX3_keep 1 none (rmD 1) [.ref 8] 77 shK S (none) (keepK S f q) := by
  refine CtF.of (own := RX3) [some (.ref 8)] (by decide +kernel) rfl (fun _ => Nat.le_of_ble_eq_true rfl) (fun _ => rfl) ?_
  refine VS.aload_n dX3_keep_0 rfl ?_
  refine VS.aload_n dX3_keep_1 rfl ?_
  refine VS.sgetI 2 dX3_keep_2 uw_X3 rfl (by decide) 1 (rfl) rfl (by decide) fl_X3_16 rfl ?_
  refine VS.val (y := nI f) hF ?_
  refine VS.iconst (1) dX3_keep_5 rfl ?_
  refine VS.iadd dX3_keep_6 ?_
  refine VS.val (y := nI (f + 1)) (nI_1 f) ?_
  refine VS.bipush (7) dX3_keep_7 rfl ?_
  refine VS.irem dX3_keep_9 (by decide) ?_
  refine VS.val (y := nI ((f + 1) % 7)) (rem7 (by omega)) ?_
  refine VS.sput 2 dX3_keep_10 uw_X3 tyX3 tyX3_ok nmX3 rfl (by decide) 1 (rfl) rfl (by decide) fl_X3_16 rfl rfl (rfl) (rfl) ?_
  refine VS.aload_n dX3_keep_13 rfl ?_
  refine VS.aload_n dX3_keep_14 rfl ?_
  refine VS.sgetI 2 dX3_keep_15 uw_X3 rfl (by decide) 2 (rfl) rfl (by decide) fl_X3_28 rfl ?_
  refine VS.val (y := nI q) hQ ?_
  refine VS.iconst (1) dX3_keep_18 rfl ?_
  refine VS.iadd dX3_keep_19 ?_
  refine VS.val (y := nI (q + 1)) (nI_1 q) ?_
  refine VS.bipush (6) dX3_keep_20 rfl ?_
  refine VS.mmin dX3_keep_22 ml_X3_31 (rmM_D (by decide)) (Nat.le_of_ble_eq_true rfl) ?_
  refine VS.val (y := nI (min (q + 1) 6)) (min6 (by omega)) ?_
  refine VS.sput 2 dX3_keep_25 uw_X3 tyX3 tyX3_ok nmX3 rfl (by decide) 2 (rfl) rfl (by decide) fl_X3_28 rfl rfl (rfl) (rfl) ?_
  exact VS.vret dX3_keep_28 rfl (fun _ _ => rfl)
set_option maxRecDepth 100000 in
set_option maxHeartbeats 4000000 in
theorem ct_X3_goBack_no (l : Launch) (S : SS)  {f : Nat} (hf : f < 7) (hF : S 8 1 = nI f) (hQ : S 8 2 = 0) : CtS l yX3_goBack cX3_goBack 3 (some FieldType.boolean) (rmD 3) [.ref 8, .ref 1] 77 shK S (some (.int 0)) (S) := by
  refine CtF.of (own := RX3) [some (.ref 8), some (.ref 1), none] (by decide +kernel) rfl (fun _ => Nat.le_of_ble_eq_true rfl) (fun _ => rfl) ?_
  refine VS.aload_n dX3_goBack_0 rfl ?_
  refine VS.aload_n dX3_goBack_1 rfl ?_
  refine VS.sgetI 2 dX3_goBack_2 uw_X3 rfl (by decide) 1 (rfl) rfl (by decide) fl_X3_16 rfl ?_
  refine VS.val (y := nI f) hF ?_
  refine VS.bipush (6) dX3_goBack_5 rfl ?_
  refine VS.iadd dX3_goBack_7 ?_
  refine VS.val (y := nI (f + 6)) (nI_add f 6) ?_
  refine VS.bipush (7) dX3_goBack_8 rfl ?_
  refine VS.irem dX3_goBack_10 (by decide) ?_
  refine VS.val (y := nI ((f + 6) % 7)) (rem7 (by omega)) ?_
  refine VS.callT (ct_X3_cell l _ (show (f + 6) % 7 < 7 by omega)) dX3_goBack_11 mi_X3_cell im_X3_cell sel_X3_cell ml_X3_20 (by decide) rfl rfl (rmOk_D (by decide) (by decide)) (Nat.le_of_ble_eq_true rfl) rfl ?_
  refine VS.astore_n dX3_goBack_14 (by decide) rfl ?_
  refine VS.aload_n dX3_goBack_15 rfl ?_
  refine VS.sgetI 2 dX3_goBack_16 uw_X3 rfl (by decide) 2 (rfl) rfl (by decide) fl_X3_28 rfl ?_
  refine VS.if_eq 26 dX3_goBack_19 (by decide) (fun _ => ?_) (fun hh => absurd (hQ) hh)
  refine VS.iconst (0) dX3_goBack_26 rfl ?_
  exact VS.zret dX3_goBack_27 (by first | rfl | exact nb_ite) (rfl) (fun _ _ => rfl)
set_option maxRecDepth 100000 in
set_option maxHeartbeats 4000000 in
theorem ct_X3_goBack (l : Launch) (S : SS)  {f q : Nat} (hf : f < 7) (hF : S 8 1 = nI f) (hq0 : 0 < q) (hq : q ≤ 6) (hQ : S 8 2 = nI q) (hb : S (10 + 7 * ((f + 6) % 7)) 3 = 0 ∨ S (10 + 7 * ((f + 6) % 7)) 3 = 1) : CtS l yX3_goBack cX3_goBack 3 (some FieldType.boolean) (rmD 3) [.ref 8, .ref 1] 77 shK S (some (.int 1)) (backK S f q) := by
  refine CtF.of (own := RX3) [some (.ref 8), some (.ref 1), none] (by decide +kernel) rfl (fun _ => Nat.le_of_ble_eq_true rfl) (fun _ => rfl) ?_
  refine VS.aload_n dX3_goBack_0 rfl ?_
  refine VS.aload_n dX3_goBack_1 rfl ?_
  refine VS.sgetI 2 dX3_goBack_2 uw_X3 rfl (by decide) 1 (rfl) rfl (by decide) fl_X3_16 rfl ?_
  refine VS.val (y := nI f) hF ?_
  refine VS.bipush (6) dX3_goBack_5 rfl ?_
  refine VS.iadd dX3_goBack_7 ?_
  refine VS.val (y := nI (f + 6)) (nI_add f 6) ?_
  refine VS.bipush (7) dX3_goBack_8 rfl ?_
  refine VS.irem dX3_goBack_10 (by decide) ?_
  refine VS.val (y := nI ((f + 6) % 7)) (rem7 (by omega)) ?_
  refine VS.callT (ct_X3_cell l _ (show (f + 6) % 7 < 7 by omega)) dX3_goBack_11 mi_X3_cell im_X3_cell sel_X3_cell ml_X3_20 (by decide) rfl rfl (rmOk_D (by decide) (by decide)) (Nat.le_of_ble_eq_true rfl) rfl ?_
  refine VS.astore_n dX3_goBack_14 (by decide) rfl ?_
  refine VS.aload_n dX3_goBack_15 rfl ?_
  refine VS.sgetI 2 dX3_goBack_16 uw_X3 rfl (by decide) 2 (rfl) rfl (by decide) fl_X3_28 rfl ?_
  refine VS.if_eq 26 dX3_goBack_19 (by decide) (fun hh => absurd hh (fun z => nI_ne0 hq0 (by omega) (hQ.symm.trans z))) (fun _ => ?_)
  refine VS.aload_n dX3_goBack_22 rfl ?_
  refine VS.ifnonnull 28 dX3_goBack_23 (by decide) ?_
  refine VS.aload_n dX3_goBack_28 rfl ?_
  refine VS.aload_n dX3_goBack_29 rfl ?_
  refine VS.callR (gg2 (1) (10 + 7 * ((f + 6) % 7))) (shi_gg gmAt_1 (gmAt_c (Nat.mod_lt _ (by decide))) (Or.inl (by omega))) (ct_X0_become l _ (hb)) dX3_goBack_30 mi_X0_become im_X0_become sel_X0_become ml_X3_24 (by decide) rfl rfl (rmOk_D (by decide) (by decide)) (Nat.le_of_ble_eq_true rfl) rfl ?_
  refine VS.stt (mg_gg (a := 1) (b := 10 + 7 * ((f + 6) % 7)) (Or.inl (by omega)) _) ?_
  refine VS.aload_n dX3_goBack_33 rfl ?_
  refine VS.aload_n dX3_goBack_34 rfl ?_
  refine VS.sgetI 2 dX3_goBack_35 uw_X3 rfl (by decide) 1 (rfl) rfl (by decide) fl_X3_16 rfl ?_
  refine VS.val (y := nI f) hF ?_
  refine VS.bipush (6) dX3_goBack_38 rfl ?_
  refine VS.iadd dX3_goBack_40 ?_
  refine VS.val (y := nI (f + 6)) (nI_add f 6) ?_
  refine VS.bipush (7) dX3_goBack_41 rfl ?_
  refine VS.irem dX3_goBack_43 (by decide) ?_
  refine VS.val (y := nI ((f + 6) % 7)) (rem7 (by omega)) ?_
  refine VS.sput 2 dX3_goBack_44 uw_X3 tyX3 tyX3_ok nmX3 rfl (by decide) 1 (rfl) rfl (by decide) fl_X3_16 rfl rfl (rfl) (rfl) ?_
  refine VS.aload_n dX3_goBack_47 rfl ?_
  refine VS.dup dX3_goBack_48 rfl ?_
  refine VS.sgetI 2 dX3_goBack_49 uw_X3 rfl (by decide) 2 (rfl) rfl (by decide) fl_X3_28 rfl ?_
  refine VS.val (y := nI q) hQ ?_
  refine VS.iconst (1) dX3_goBack_52 rfl ?_
  refine VS.isub dX3_goBack_53 ?_
  refine VS.val (y := nI (q - 1)) (nI_dec (by omega)) ?_
  refine VS.sput 2 dX3_goBack_54 uw_X3 tyX3 tyX3_ok nmX3 rfl (by decide) 2 (rfl) rfl (by decide) fl_X3_28 rfl rfl (rfl) (rfl) ?_
  refine VS.iconst (1) dX3_goBack_57 rfl ?_
  exact VS.zret dX3_goBack_58 (by first | rfl | exact nb_ite) (rfl) (fun _ _ => rfl)
set_option maxRecDepth 100000 in
set_option maxHeartbeats 4000000 in
theorem ct_X6_keptIfDone (l : Launch) (S : SS) (x : Int32) {f q : Nat} (hf : f < 7) (hF : S 8 1 = nI f) (hq : q ≤ 6) (hQ : S 8 2 = nI q) : CtS l yX6_keptIfDone cX6_keptIfDone 2 (some FieldType.int) (rmD 2) [.ref 0, .int x] 77 shK S (some (.int x)) (if 0 ≤ x then keepK S f q else S) := by
  refine CtF.of (own := RX6) [some (.ref 0), some (.int x)] (by decide +kernel) rfl (fun _ => Nat.le_of_ble_eq_true rfl) (fun _ => rfl) ?_
  refine VS.iload_n dX6_keptIfDone_0 rfl ?_
  refine VS.if_lt 11 dX6_keptIfDone_1 (by decide) (fun h_1 => ?_) (fun h_1 => ?_)
  · refine VS.iload_n dX6_keptIfDone_11 rfl ?_
    exact VS.iret dX6_keptIfDone_12 (rfl) (shk1 (by first | rw [if_neg (Int32.not_le.mpr h_1)] | rw [if_pos (Int32.not_lt.mp h_1)]))
  · refine VS.aload_n dX6_keptIfDone_4 rfl ?_
    refine VS.sgetR 5 dX6_keptIfDone_5 uw_X6 rfl (by decide) 1 (rfl) rfl (by decide) fl_X6_19 rfl ?_
    refine VS.callT (ct_X3_keep l _ hf hF hq hQ) dX6_keptIfDone_8 mi_X3_keep im_X3_keep sel_X3_keep ml_X6_75 (by decide) rfl rfl (rmOk_D (by decide) (by decide)) (Nat.le_of_ble_eq_true rfl) rfl ?_
    refine VS.iload_n dX6_keptIfDone_11 rfl ?_
    exact VS.iret dX6_keptIfDone_12 (rfl) (shk1 (by first | rw [if_neg (Int32.not_le.mpr h_1)] | rw [if_pos (Int32.not_lt.mp h_1)]))
set_option maxRecDepth 100000 in
set_option maxHeartbeats 4000000 in
theorem ct_X6_slotOf_0 (l : Launch) (S : SS)  : CtS l yX6_slotOf cX6_slotOf 2 (some (FieldType.object "LiarMaps$Slot")) (rmD 0) [.ref 0, .int (nI 0)] 77 shK S (some (.ref 61)) (S) := by
  refine CtF.of (own := RX6) [some (.ref 0), some (.int (nI 0))] (by decide +kernel) rfl (fun _ => Nat.le_of_ble_eq_true rfl) (fun _ => rfl) ?_
  refine VS.iload_n dX6_slotOf_0 rfl ?_
  refine VS.if_ne 11 dX6_slotOf_1 (by decide) (fun hh => absurd (rfl) hh) (fun _ => ?_)
  refine VS.aload_n dX6_slotOf_4 rfl ?_
  refine VS.sgetR 5 dX6_slotOf_5 uw_X6 rfl (by decide) 3 (rfl) rfl (by decide) fl_X6_33 rfl ?_
  refine VS.goto 15 dX6_slotOf_8 (by decide) ?_
  exact VS.aret dX6_slotOf_15 (rfl) (fun _ _ => rfl)
set_option maxRecDepth 100000 in
set_option maxHeartbeats 4000000 in
theorem ct_X6_slotOf_1 (l : Launch) (S : SS)  : CtS l yX6_slotOf cX6_slotOf 2 (some (FieldType.object "LiarMaps$Slot")) (rmD 0) [.ref 0, .int (nI 1)] 77 shK S (some (.ref 69)) (S) := by
  refine CtF.of (own := RX6) [some (.ref 0), some (.int (nI 1))] (by decide +kernel) rfl (fun _ => Nat.le_of_ble_eq_true rfl) (fun _ => rfl) ?_
  refine VS.iload_n dX6_slotOf_0 rfl ?_
  refine VS.if_ne 11 dX6_slotOf_1 (by decide) (fun _ => ?_) (fun hh => absurd hh (by decide))
  refine VS.aload_n dX6_slotOf_11 rfl ?_
  refine VS.sgetR 5 dX6_slotOf_12 uw_X6 rfl (by decide) 4 (rfl) rfl (by decide) fl_X6_37 rfl ?_
  exact VS.aret dX6_slotOf_15 (rfl) (fun _ _ => rfl)
