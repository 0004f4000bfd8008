/-! two objects in the law's cells; the first ghost -/
theorem Rel.congr {S M S' M' : SS} (h : Rel S M) (eS : ∀ k, k < 77 → S' k = S k) (eM : ∀ k, k < 7 → M' k = M k) : Rel S' M' := by
  refine Rel.ref ?_ (eM 1 (by decide)) (eM 2 (by decide)) (eM 3 (by decide)) (eM 4 (by decide)) (eM 5 (by decide)) (congrFun (eM 0 (by decide)) 2) (congrFun (eM 0 (by decide)) 6)
  obtain ⟨hV, ⟨f, np, hp⟩, ⟨L, hL⟩, hs⟩ := h
  have hf := hp.1
  have h6 := hp.2.2.1
  refine ⟨hV.congr (fun i hi => eS _ (by omega)), ⟨f, np, hp.1, ?_, hp.2.2.1, ?_, hp.2.2.2.2.1, fun j hj => (hp.2.2.2.2.2 j hj).congr (fun i hi => eS _ (by omega))⟩, ⟨L, hL.1, ?_, hL.2.2.1, ?_⟩, fun q hq => ?_⟩
  · rw [eS 8 (by decide)]; exact hp.2.1
  · rw [eS 8 (by decide)]; exact hp.2.2.2.1
  · rw [eS 59 (by decide)]; exact hL.2.1
  · rw [eS 60 (by decide)]; exact hL.2.2.2
  · have hA := slA_ge q
    rw [eS _ (by omega)]
    rcases hs q hq with h | ⟨h1, h2, h3⟩
    · exact Or.inl h
    · exact Or.inr ⟨h1, h2, h3.congr (fun i hi => eS _ (by omega))⟩
theorem RelK.congr {S S' M : SS} (h : RelK S M) (e : ∀ k, k < 77 → S' k = S k) : RelK S' M := by
  obtain ⟨L, x, h⟩ := h
  exact ⟨L, x, h.congr e (fun _ _ => rfl)⟩
theorem ro_o {S S2 M : SS} (h : RelK S2 M) : RelK (putG S 0 77 S2) M := h.congr fun k hk => by
  have e := putG_in (S := S) (a := 0) (n := 77) (G := S2) hk
  rwa [Nat.zero_add] at e
theorem ro_q {S S2 M : SS} (h : RelK (gm S 77) M) : RelK (gm (putG S 0 77 S2) 77) M := h.congr fun k hk => putG_out (by omega)
theorem rq_q {S S2 M : SS} (h : RelK S2 M) : RelK (gm (putG S 77 77 S2) 77) M := h.congr fun k hk => putG_in hk
theorem rq_o {S S2 M : SS} (h : RelK S M) : RelK (putG S 77 77 S2) M := h.congr fun k hk => putG_out (by omega)
theorem shi_2 : ShI (fun i => i) 154 sh2 154 sh2 := ⟨fun i hi => hi, fun i j _ _ h => h, fun i hi => (shR_id _).symm⟩
theorem mg_2i (S : SS) : mg (fun i => i) 154 S S = S := by
  funext k
  by_cases h : k < 154
  · exact mg_in (ρ := fun i => i) (S2 := S) (S := S) (fun i j _ _ z => z) h
  · exact mg_out fun i hi z => h (by have : i = k := z; omega)
theorem RmOk.law {j nL cl sl : Nat} (h : j < 9) (hn : nL ≤ 22) (hcl : cl ≤ 600000) (hsl : sl ≤ 7302250) : RmOk (rmD j) nL room_1 cl sl := ⟨⟨by show j + 1 ≤ room_1.frames; exact Nat.le_trans (show j + 1 ≤ 9 by omega) (by decide), by show 8 + (nL + 11) + 32 * j ≤ room_1.locals; exact Nat.le_trans (show 8 + (nL + 11) + 32 * j ≤ 300 by omega) (by decide)⟩, ⟨rfl, rfl⟩, hcl, hsl⟩
section
variable {l : Launch} {R : Room} {own : String} {cc : ByteArray} {nL : Nat} {X : XT} {cl sl n : Nat} {pc : Nat} {L : List (Option Value)} {st stk : List Value} {sh sh1 : Nat → Shp} {S S2 : SS}
variable {y : MethodName} {cc1 : ByteArray} {nL1 n1 index : Nat} {ret1 : Option FieldType} {rm1 : Room} {as : List Value} {r : Option Value}
/-- a static method on some of the cells -/
theorem VS.callRS (ρ : Nat → Nat) (hI : ShI ρ n1 sh1 n sh) (hC : CtS l y cc1 nL1 ret1 rm1 as n1 sh1 (fun i => S (ρ i)) r S2) (d : decode cc pc = .ok (.invokestatic index, 3)) (hm : MI y cc1 nL1 ret1 as.length) (hst : Cond.static y ∈ TB) (hml : Cond.methodLink own index y ∈ TB) (hR : RmOk rm1 nL1 R cl sl) (hst8 : (st.map fun v => v.category).sum ≤ 8) (hk : stk = (as.map (cV ρ)).reverse ++ st)
    (kk : VS l R own cc nL X cl sl n (shW sh (mg ρ n1 S2 S)) (pc + 3) L ((r.map (cV ρ)).toList ++ st)) : VS l R own cc nL X cl sl n (shW sh S) pc L stk :=
  VS.callS ρ hC d (hI.toFrm S) hm hst hml hR hst8 hk (VS.heap (fun k _ => hI.out S S2 k) kk)
end
theorem nI_mulN (a b : Nat) : nI a * nI b = nI (a * b) := (Int32.ofNat_mul a b).symm
def mG0 : SS := sM0 sI0
theorem good0 : Good sI0 := by
  refine ⟨0, 0, 0, rfl, by decide, rfl, by decide, rfl, by decide, fun k hk => absurd hk (Nat.not_lt_zero _), Or.inl ⟨rfl, rfl, rfl⟩, fun i _ => ?_, fun i _ => ?_, fun p hp => ?_, fun k hk => ?_⟩
  · show bt 0 i = false; exact bt_z i
  · show bt 0 i = false; exact bt_z i
  · rcases (show p = 0 ∨ p = 1 ∨ p = 2 by omega) with rfl | rfl | rfl <;> rfl
  · rcases (show k = 0 ∨ k = 1 ∨ k = 2 ∨ k = 3 by omega) with rfl | rfl | rfl | rfl <;> decide
theorem vs0 : Vs gF0 sI0 := by
  refine ⟨⟨rfl, rfl, rfl, rfl, rfl, rfl, rfl, rfl⟩, fun k hk => ?_, ⟨⟨rfl, rfl, rfl, rfl, rfl, rfl, rfl⟩, ⟨rfl, rfl, rfl, rfl, rfl, rfl, rfl⟩, ⟨rfl, rfl, rfl, rfl, rfl, rfl, rfl⟩⟩, fun p hp => ?_, fun k hk => ?_⟩
  · rcases (show k = 0 ∨ k = 1 ∨ k = 2 ∨ k = 3 by omega) with rfl | rfl | rfl | rfl <;> rfl
  · show putR z0 (fun _ => -6) 0 8 p = tolN sI0 p (nD sI0)
    rw [putR_in (by omega) (by omega)]
    rfl
  · show (0 : Int32) = sI0 (32 + k)
    unfold sI0 sI1
    rw [upd_ne (by omega), upd_ne (by omega), upd_ne (by omega), upd_ne (by omega), upd_ne (by omega), putR_out (by omega)]
    rfl

theorem ext0 : Ext sI0 := by
  refine ⟨fun _ => 20, fun _ => 0, fun _ => 0, fun _ => 0, fun _ => 0, 0, 0, 40, ⟨fun p hp => ?_, fun p hp => ?_, fun p hp => ?_, fun p hp => ?_, fun p hp => ?_⟩, ⟨rfl, by decide, rfl, rfl, by decide⟩, ?_, rfl, fun p hp => Nat.le_refl _, rfl, by decide, Or.inl ⟨rfl, by decide⟩, fun _ => rfl, fun p hp i hi => ?_⟩
  · rcases (show p = 0 ∨ p = 1 ∨ p = 2 by omega) with rfl | rfl | rfl <;> rfl
  · rcases (show p = 0 ∨ p = 1 ∨ p = 2 by omega) with rfl | rfl | rfl <;> rfl
  · rcases (show p = 0 ∨ p = 1 ∨ p = 2 by omega) with rfl | rfl | rfl <;> rfl
  · rcases (show p = 0 ∨ p = 1 ∨ p = 2 by omega) with rfl | rfl | rfl <;> rfl
  · rcases (show p = 0 ∨ p = 1 ∨ p = 2 by omega) with rfl | rfl | rfl <;> rfl
  · show 0 = pcN 0; exact pcN_z.symm
  · rcases (show p = 0 ∨ p = 1 ∨ p = 2 by omega) with rfl | rfl | rfl <;> exact ⟨bt_z i, bt_z i⟩
theorem inv0 : InvM mG0 := ⟨⟨good0, ext0⟩, ⟨by decide, rfl, fun j hj => absurd (show j < 0 from hj) (Nat.not_lt_zero _)⟩, fun q _ h => absurd rfl h⟩
theorem rel0 : Rel sK0 (mPd mG0 0 (upd (mG0 5) 0 0)) := by
  refine ⟨VG.congr (G := gF0) ⟨vs0, good0⟩ (seven rfl rfl rfl rfl rfl rfl rfl), ⟨0, 0, by decide, rfl, by decide, rfl, rfl, fun j hj => absurd hj (Nat.not_lt_zero _)⟩, ⟨0, by decide, rfl, rfl, ?_⟩, fun q hq => Or.inl ?_⟩
  · funext k
    show (0 : Int32) = upd (mG0 5) 0 0 k
    by_cases h : k = 0
    · subst h; rfl
    · rw [upd_ne h]; rfl
  · rcases (show q = 0 ∨ q = 1 by omega) with rfl | rfl <;> exact ⟨rfl, rfl⟩
def sL2 : SS := fun k => if k < 77 then sK0 k else sK0 (k - 77)
theorem sL2_o : ∀ k, k < 77 → sL2 k = sK0 k := fun k hk => if_pos hk
theorem sL2_q : ∀ k, k < 77 → gm sL2 77 k = sK0 k := fun k hk => by
  show sL2 (77 + k) = sK0 k
  unfold sL2; rw [if_neg (by omega), show 77 + k - 77 = k by omega]
theorem r0_o : R0 sL2 mG0 := ⟨0, rel0.congr sL2_o (fun _ _ => rfl)⟩
theorem r0_q : R0 (gm sL2 77) mG0 := ⟨0, rel0.congr sL2_q (fun _ _ => rfl)⟩
theorem XL.g {N : Nat} {xs : Nat → Int32} {n : Nat} : Xg (XL N xs) n := by
  rintro s args below meth D cy A ad ad' Q he ⟨h1, h2, h3, h4, h5⟩
  have e := he 200 (Or.inr (Nat.le_refl _))
  exact ⟨h1, by rw [e]; exact h2, by rw [e]; exact h3, by rw [e]; exact h4, h5⟩
theorem XL.new {N : Nat} {xs : Nat → Int32} : Xnew (XL N xs) := fun _ _ _ _ _ _ _ _ _ h q hq => (h.1 q).mpr hq
theorem law_world {g : Nat → va_E} {e6 e7 : va_E} : ∀ k, k < 77 + 77 → joinG (va_up (joinG (va_up g 0 e6) 0 (shW shK sK0)) 77 e7) 77 (shW shK sK0) k = shW sh2 sL2 k := by
  intro k hk
  by_cases h : k < 77
  · have e1 : joinG (va_up (joinG (va_up g 0 e6) 0 (shW shK sK0)) 77 e7) 77 (shW shK sK0) k = rE (fun i => 0 + i) (shW shK sK0 k) := by
      unfold joinG va_up; rw [if_pos h, if_neg (by omega)]; show (if k < 0 then _ else rE (fun i => 0 + i) (shW shK sK0 (k - 0))) = _; rw [if_neg (Nat.not_lt_zero k)]; rfl
    rw [e1, show (fun i => 0 + i) = fun i : Nat => i from funext fun i => Nat.zero_add i, rE_id]
    unfold shW
    rw [show sh2 k = shK k from if_pos h, show sL2 k = sK0 k from if_pos h]
  · have e1 : joinG (va_up (joinG (va_up g 0 e6) 0 (shW shK sK0)) 77 e7) 77 (shW shK sK0) k = rE (fun i => 77 + i) (shW shK sK0 (k - 77)) := by
      unfold joinG; rw [if_neg h]
    rw [e1]
    unfold shW
    rw [show sh2 k = shR (fun i => 77 + i) (shK (k - 77)) from if_neg h, show sL2 k = sK0 (k - 77) from if_neg h, shC_R]
