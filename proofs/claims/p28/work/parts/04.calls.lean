/-! contracts of the abstract machine, calls with a renaming of the cells (the frame rule) -/
def wM (y : MethodName) (cc : ByteArray) (n : Nat) (ret : Option FieldType) : List Cond := Cond.code y cc n ret :: TB
theorem wM_good {y : MethodName} {cc : ByteArray} {n : Nat} {ret : Option FieldType} (h : Cond.code y cc n ret ∈ TB) : GoodIn TB (wM y cc n ret) := fun w hw => by
  rcases List.mem_cons.mp hw with rfl | h1
  · exact tb_good _ h
  · exact tb_good _ h1
def PreF (D : va_G) (cy : Nat → ClassId) (ad : Nat → Nat) (n : Nat) (g : Nat → va_E) : State → Prop := fun U => va_P D vwCl (wd cy ad n g) U.heap ∧ va_K D vwCl (tysA cy) U ∧ aI ad n ∧ EN (AA ad n) U U.heap
def QF (D : va_G) (cy : Nat → ClassId) (ad : Nat → Nat) (n : Nat) (r : Option Value) (g2 : Nat → va_E) : Array Value → State → Outcome → State → Prop := fun _ st oc t => (oc = .returned (r.map (cV ad)) ∧ va_P D vwCl (wd cy ad n g2) t.heap) ∧ va_F (AA ad n) st t
/-- from the cells g the method with the arguments as gives r and leaves the cells g2; nothing else changes, nothing is made -/
def CtF (l : Launch) (y : MethodName) (cc : ByteArray) (nL : Nat) (ret : Option FieldType) (rm : Room) (as : List Value) (n : Nat) (g : Nat → va_E) (r : Option Value) (g2 : Nat → va_E) : Prop := ∀ (D : va_G) (cy : Nat → ClassId) (ad : Nat → Nat), Met l y (wM y cc nL ret) rm (va_Pc (as.map (cV ad)) (PreF D cy ad n g)) (QF D cy ad n r g2) 0 0 (AA ad n)
def XF (ret : Option FieldType) (n : Nat) (r : Option Value) (g2 : Nat → va_E) : XT := fun s args below meth D cy A ad Q => meth.sig.returnType = ret ∧ A = AA ad n ∧ Q = MQ below (QF D cy ad n r g2) args s 0 0 (AA ad n)
theorem CtF.of {l : Launch} {y : MethodName} {cc : ByteArray} {nL : Nat} {ret : Option FieldType} {rm : Room} {as : List Value} {n : Nat} {g : Nat → va_E} {r : Option Value} {g2 : Nat → va_E} {own : String} (L0 : List (Option Value)) (hy : plainName y.cls = true) (hown : y.cls = own) (hlen : ∀ ad : Nat → Nat, (lg_sl (as.map (cV ad))).length ≤ nL) (hL : ∀ ad : Nat → Nat, asL ad 0 L0 = lv_args 0 (as.map (cV ad))) (hv : VS l rm own cc nL (XF ret n r g2) 0 0 n g 0 L0 []) : CtF l y cc nL ret rm as n g r g2 := by
  intro D cy ad
  refine Met.ofW (cc := cc) (maxL := nL) (ret := ret) hy rfl ?_
  intro p e s m args below meth c s₁ B hml hp
  obtain ⟨rfl, hP, hK, hI, hE⟩ := hp
  have hts := atoms_spec (ws := wM y cc nL ret) B.pre
  have hown2 : s.vm.findClass own = some m.cls := by rw [← hown]; exact findClass_of_methodNamed B.named
  rw [lg_entry_eq]
  exact hv p e s m _ below meth c D cy (AA ad n) ad _ s.heap [] _ ⟨B.exec, B.bytes, hml, hown2, fun w hw => hts w (List.mem_cons_of_mem _ hw), B.notSynchronized, hK, hE⟩ ⟨B.returns, rfl, rfl⟩ hI (fun k hk => ⟨k, hk, rfl⟩) hP va_S.rf (by rw [hL]; exact lv_entry _ (hlen ad))
theorem wd_congr {cy : Nat → ClassId} {ad : Nat → Nat} {n : Nat} {g g2 : Nat → va_E} (h : ∀ k, k < n → g k = g2 k) : wd cy ad n g = wd cy ad n g2 := List.map_congr_left fun k hk => by rw [h k (List.mem_range.mp hk)]
section RET
variable {l : Launch} {R : Room} {own : String} {cc : ByteArray} {nL : Nat} {n : Nat} {g g2 : Nat → va_E} {pc : Nat} {L : List (Option Value)} {r : Option Value}
theorem VS.iret {v : Int32} (d : decode cc pc = .ok (.ireturn, 1)) (hr : r = some (.int v)) (hg : ∀ k, k < n → g k = g2 k) : VS l R own cc nL (XF (some .int) n r g2) 0 0 n g pc L [.int v] := by
  intro p e s m args below meth c D cy A ad Q H locs ls C0 x i a hP hS hl
  obtain ⟨h1, h2, h3⟩ := x
  subst h2; subst h3; subst hr
  rw [wd_congr hg] at hP
  exact W.iret C0.1 C0.2.1 h1 (fun t ht _ => ⟨⟨rfl, by rw [ht]; exact hP⟩, hS.F ht⟩) hS.2.2 d (hlocks := C0.2.2.2.2.2.1)
theorem VS.zret {v : Int32} (d : decode cc pc = .ok (.ireturn, 1)) (hn : narrow .boolean (.int v) = .int v) (hr : r = some (.int v)) (hg : ∀ k, k < n → g k = g2 k) : VS l R own cc nL (XF (some .boolean) n r g2) 0 0 n g pc L [.int v] := by
  intro p e s m args below meth c D cy A ad Q H locs ls C0 x i a hP hS hl
  obtain ⟨h1, h2, h3⟩ := x
  subst h2; subst h3; subst hr
  rw [wd_congr hg] at hP
  exact W.zret C0.1 C0.2.1 h1 hn (fun t ht _ => ⟨⟨rfl, by rw [ht]; exact hP⟩, hS.F ht⟩) hS.2.2 d (hlocks := C0.2.2.2.2.2.1)
theorem VS.vret (d : decode cc pc = .ok (.return_, 1)) (hr : r = none) (hg : ∀ k, k < n → g k = g2 k) : VS l R own cc nL (XF none n r g2) 0 0 n g pc L [] := by
  intro p e s m args below meth c D cy A ad Q H locs ls C0 x i a hP hS hl
  obtain ⟨h1, h2, h3⟩ := x
  subst h2; subst h3; subst hr
  rw [wd_congr hg] at hP
  exact W.vret C0.1 C0.2.1 h1 (fun t ht _ => ⟨⟨rfl, by rw [ht]; exact hP⟩, hS.F ht⟩) hS.2.2 d (hlocks := C0.2.2.2.2.2.1)
theorem VS.aret {o : Nat} {C : String} (d : decode cc pc = .ok (.areturn, 1)) (hr : r = some (.ref o)) (hg : ∀ k, k < n → g k = g2 k) : VS l R own cc nL (XF (some (.object C)) n r g2) 0 0 n g pc L [.ref o] := by
  intro p e s m args below meth c D cy A ad Q H locs ls C0 x i a hP hS hl
  obtain ⟨h1, h2, h3⟩ := x
  subst h2; subst h3; subst hr
  rw [wd_congr hg] at hP
  exact W.aret (v := .ref (ad o)) C0.1 C0.2.1 h1 (Or.inl ⟨_, rfl⟩) (Or.inr ⟨_, rfl⟩) (fun t ht _ => ⟨⟨rfl, by rw [ht]; exact hP⟩, hS.F ht⟩) hS.2.2 d (hlocks := C0.2.2.2.2.2.1)
end RET
/-! renaming -/
def rE (ρ : Nat → Nat) (e : va_E) : va_E := cE (fun t => t) ρ e
theorem cE_rE (cy : Nat → ClassId) (ad ρ : Nat → Nat) (e : va_E) : cE cy ad (rE ρ e) = cE cy (fun i => ad (ρ i)) e := by
  rcases e with ⟨t, n, y⟩ | ⟨ci, fs⟩
  · rcases y with y | y | y | y | y <;> try rfl
    show (Sum.inl (cy t, n, _) : va_E) = Sum.inl (cy t, n, _)
    simp only [Option.map_map]
    rfl
  · show (Sum.inr (ci, _) : va_E) = Sum.inr (ci, _)
    simp only [List.map_map]
    congr 2
    exact List.map_congr_left fun v _ => cV_comp ad ρ v
def frm (ρ : Nat → Nat) (n1 : Nat) (g1 g : Nat → va_E) : Nat → va_E := fun k => match (List.range n1).find? (fun i => ρ i == k) with
  | some i => rE ρ (g1 i)
  | none => g k
def Frm (ρ : Nat → Nat) (n1 : Nat) (g1 : Nat → va_E) (n : Nat) (g : Nat → va_E) : Prop := (∀ i, i < n1 → ρ i < n) ∧ (∀ i j, i < n1 → j < n1 → ρ i = ρ j → i = j) ∧ ∀ i, i < n1 → g (ρ i) = rE ρ (g1 i)
theorem frm_in {ρ : Nat → Nat} {n1 : Nat} {g1 g : Nat → va_E} (hi : ∀ i j, i < n1 → j < n1 → ρ i = ρ j → i = j) {i : Nat} (h : i < n1) : frm ρ n1 g1 g (ρ i) = rE ρ (g1 i) := by
  unfold frm
  cases hf : (List.range n1).find? (fun j => ρ j == ρ i) with
  | none =>
    have h1 := List.find?_eq_none.mp hf i (List.mem_range.mpr h)
    simp at h1
  | some j =>
    have h1 := List.find?_some hf
    have h2 := List.mem_range.mp (List.mem_of_find?_eq_some hf)
    have h3 : ρ j = ρ i := by simpa using h1
    rw [hi j i h2 h h3]
theorem frm_out {ρ : Nat → Nat} {n1 : Nat} {g1 g : Nat → va_E} {k : Nat} (h : ∀ i, i < n1 → ρ i ≠ k) : frm ρ n1 g1 g k = g k := by
  unfold frm
  cases hf : (List.range n1).find? (fun j => ρ j == k) with
  | none => rfl
  | some j =>
    have h1 := List.find?_some hf
    have h2 := List.mem_range.mp (List.mem_of_find?_eq_some hf)
    exact absurd (by simpa using h1) (h j h2)
theorem frm_0 {ρ : Nat → Nat} {g1 g : Nat → va_E} : frm ρ 0 g1 g = g := rfl
theorem EN.calling {A : Nat → Prop} {U : State} {H : Heap} (a : Array Value) (g : JFrame) (mk : MethodId) (h : EN A U H) : EN A (U.calling g mk a) H := by
  have hv : U.vm = (U.calling g mk a).vm := rfl
  have hvm : U.vm.Alike (U.calling g mk a).vm := Vm.Alike.refl U.vm
  refine ⟨⟨h.1.1.moved hvm, h.1.2.1.moved hvm, h.1.2.2.1.moved hvm, h.1.2.2.2.moved hvm⟩, fun w hw => ?_, va_AO.moved hvm h.2.2⟩
  have h1 := h.2.1 w hw
  simp only [nestW, List.mem_cons, List.not_mem_nil, or_false] at hw
  rcases hw with rfl | rfl | rfl | rfl | rfl | rfl <;> exact va_Nw.same rfl hv h1
theorem PreF.blind {av : List Value} {D : va_G} {cy : Nat → ClassId} {ad : Nat → Nat} {n : Nat} {g : Nat → va_E} : FrameBlind (va_Pc av (PreF D cy ad n g)) := fun a U gf mk q => by
  obtain ⟨q0, qP, qK, qI, qE⟩ := q
  exact ⟨q0, qP, va_K.moved (u := U) (U := U.calling gf mk a) (Vm.Alike.refl U.vm) qK, qI, qE.calling a gf mk⟩
theorem EN.now {A : Nat → Prop} {s U : State} {H : Heap} {locs : List Loc} (h : EN A s s.heap) (hS : va_S A s.heap H locs) (hW : s.WarmedH U.vm) : EN A U H := (h.kept fun a h1 h2 => hS.2.1 a h1 h2).warm hW
theorem preF_of {D : va_G} {cy : Nat → ClassId} {ad ρ : Nat → Nat} {n n1 : Nat} {g g1 : Nat → va_E} {A : Nat → Prop} {s U : State} {H : Heap} {locs : List Loc} (hF : Frm ρ n1 g1 n g) (hK : va_K D vwCl (tysA cy) s) (hE : EN A s s.heap) (i : aI ad n) (a : ∀ k, k < n → A (ad k)) (hP : va_P D vwCl (wd cy ad n g) H) (hS : va_S A s.heap H locs) (hU : U.heap = H) (hW : s.WarmedH U.vm) : PreF D cy (fun i => ad (ρ i)) n1 g1 U := by
  obtain ⟨f1, f2, f3⟩ := hF
  refine ⟨?_, va_K.moved hW.alike hK, fun x y hx hy h => f2 x y hx hy (i _ _ (f1 x hx) (f1 y hy) h), ?_⟩
  · rw [hU]
    intro k q hq
    obtain ⟨hk, rfl⟩ := wd_inv hq
    have h1 := hP (ρ k) _ (wd_at (f1 k hk))
    rw [f3 k hk, cE_rE] at h1
    exact h1
  · rw [hU]
    refine (hE.now hS hW).narrow ?_
    rintro q ⟨k, hk, rfl⟩
    exact a _ (f1 k hk)
/-- behind a call: the cells that it had are as it left them, the rest is as it was -/
theorem run_endF {p : Program} {l : Launch} {e : Env} {R : Room} {s : State} {m : MethodId} {args : Array Value} {below : List Frame} {meth : Method} {c : Code} {D : va_G} {cy : Nat → ClassId} {A : Nat → Prop} {ad ρ : Nat → Nat} {Q : State → Prop} {H : Heap} {locs : List Loc} {ls : Array Slot} {own : String} {cc : ByteArray} {nL : Nat} {X : XT} {cl sl n n1 : Nat} {g g1 g2 : Nat → va_E} {pc : Nat} {L : List (Option Value)} {st st0 : List Value} {r : Option Value} {av : Array Value}
    (hr : va_Run p l e R s m args below meth c H locs cl sl 0 0 (F0 m pc ls st0) (st.map (cV ad)) (QF D cy (fun i => ad (ρ i)) n1 r g2 av) (AA (fun i => ad (ρ i)) n1)) (hF : Frm ρ n1 g1 n g)
    (C0 : Cx p s m args meth c own cc nL D cy A) (x : X s args below meth D cy A ad Q) (i : aI ad n) (a : ∀ k, k < n → A (ad k)) (hP : va_P D vwCl (wd cy ad n g) H) (hS : va_S A s.heap H locs) (hl : lv_has ls nL (asL ad 0 L))
    (kk : VS l R own cc nL X cl sl n (frm ρ n1 g2 g) (pc + 3) L ((r.map (cV ρ)).toList ++ st)) : W p l e R s m args below meth c H locs cl sl Q (F0 m pc ls st0) := by
  intro T hT X0
  obtain ⟨v, st₀, t, T', L2, h0, X', hL, e1, e2, ⟨⟨hv, hp⟩, hz, hk⟩, stp⟩ := hr T hT X0
  obtain ⟨f1, f2, f3⟩ := hF
  have hv2 : v = (r.map (cV ρ)).map (cV ad) := by
    cases hv
    cases r <;> simp [cV_comp]
  rw [h0] at hz hk
  have hA1 : ∀ q, AA (fun i => ad (ρ i)) n1 q → A q := by
    rintro q ⟨k, hk, rfl⟩
    exact a _ (f1 k hk)
  have hP1 : va_P D vwCl (wd cy ad n (frm ρ n1 g2 g)) T'.heap := by
    rw [e1]
    intro k q hq
    obtain ⟨hk1, rfl⟩ := wd_inv hq
    by_cases hx : ∃ j, j < n1 ∧ ρ j = k
    · obtain ⟨j, hj, rfl⟩ := hx
      rw [frm_in f2 hj, cE_rE]
      exact hp j _ (wd_at hj)
    · rw [frm_out (fun j hj hjk => hx ⟨j, hj, hjk⟩)]
      have h1 := hP k _ (wd_at hk1)
      refine h1.kept (hk _ h1.lt ?_)
      rintro ⟨j, hj, hjk⟩
      exact hx ⟨j, hj, (i _ _ hk1 (f1 j hj) hjk).symm⟩
  have hS1 : va_S A s.heap T'.heap (locs ++ L2) := ⟨Nat.le_trans hS.1 (by rw [e1]; exact hz), fun q h1 h2 => by rw [e1, hk q (Nat.lt_of_lt_of_le h1 hS.1) (fun z => h2 (hA1 q z))]; exact hS.2.1 q h1 h2, fun q hq => by
      rcases List.mem_append.mp hq with h | h
      · exact hS.2.2 q h
      · exact hA1 _ (hL q h)⟩
  obtain ⟨t2, a1, b1⟩ := kk p e s m args below meth c D cy A ad Q T'.heap (locs ++ L2) ls C0 x i a hP1 hS1 hl T' rfl X'
  refine ⟨t2, stp t2 ?_, b1⟩
  have e3 : ((r.map (cV ρ)).toList ++ st).map (cV ad) = v.toList ++ st.map (cV ad) := by
    rw [List.map_append, hv2]
    cases r <;> rfl
  rw [e3] at a1
  exact a1
/-- a method's standing facts -/
def MI (y : MethodName) (cc : ByteArray) (nL : Nat) (ret : Option FieldType) (k : Nat) : Prop := Cond.code y cc nL ret ∈ TB ∧ Cond.initialized y.cls ∈ TB ∧ y.cls ≠ "java/lang/invoke/MethodHandle" ∧ y.cls ≠ "java/lang/invoke/VarHandle" ∧ (parseMethodDescriptor y.desc).map (fun d => d.parameters.length) = some k
section CALLS
variable {l : Launch} {R : Room} {own : String} {cc : ByteArray} {nL : Nat} {X : XT} {cl sl n : Nat} {g : Nat → va_E} {pc : Nat} {L : List (Option Value)} {st stk : List Value}
variable {y : MethodName} {cc1 : ByteArray} {nL1 n1 index : Nat} {ret1 : Option FieldType} {rm1 : Room} {as : List Value} {g1 g2 : Nat → va_E} {r : Option Value}
theorem VS.callS (ρ : Nat → Nat) (hC : CtF l y cc1 nL1 ret1 rm1 as n1 g1 r g2) (d : decode cc pc = .ok (.invokestatic index, 3)) (hF : Frm ρ n1 g1 n g) (hm : MI y cc1 nL1 ret1 as.length) (hst : Cond.static y ∈ TB) (hml : Cond.methodLink own index y ∈ TB)
    (hR : (rm1.frames + 1 ≤ R.frames ∧ 8 + (nL1 + 11) + rm1.locals ≤ R.locals) ∧ (rm1.cells = 0 ∧ rm1.slots = 0) ∧ cl ≤ R.cells ∧ sl ≤ R.slots) (hst8 : (st.map fun v => v.category).sum ≤ 8) (hk : stk = (as.map (cV ρ)).reverse ++ st)
    (kk : VS l R own cc nL X cl sl n (frm ρ n1 g2 g) (pc + 3) L ((r.map (cV ρ)).toList ++ st)) : VS l R own cc nL X cl sl n g pc L stk := by
  intro p e s m args below meth c D cy A ad Q H locs ls C0 x i a hP hS hl
  have hts := C0.2.2.2.2.1
  refine run_endF (va_runS (As := as.map (cV (fun i => ad (ρ i)))) (rest := st.map (cV ad)) (n := as.length) (Ts := TB) ⟨C0.1, C0.2.1, C0.2.2.1, C0.2.2.2.1, hts⟩ (hC D cy (fun i => ad (ρ i))) ⟨callB_of as.length hts (wM_good hm.1) rfl hR.2.1.1 hR.2.1.2 (hts _ hm.2.1) (hts _ hml) hm.2.2 hR.1, hts _ hst⟩ ⟨PreF.blind, fun U hU hW => ⟨rfl, preF_of hF C0.2.2.2.2.2.2.1 C0.2.2.2.2.2.2.2 i a hP hS hU hW⟩⟩ rfl (by rw [List.length_map]) hl.1 ?_ (lv_room (by rw [cV_cats]; exact hst8)) d ⟨hR.2.2.1, hR.2.2.2⟩) hF C0 x i a hP hS hl kk
  show stk.map (cV ad) = _
  rw [hk, List.map_append, List.map_reverse, List.map_map]
  congr 2
  exact List.map_congr_left fun v _ => cV_comp ad ρ v
theorem VS.callSN (ρ : Nat → Nat) (host : String) (hC : CtF l y cc1 nL1 ret1 rm1 as n1 g1 r g2) (d : decode cc pc = .ok (.invokestatic index, 3)) (hF : Frm ρ n1 g1 n g) (hm : MI y cc1 nL1 ret1 as.length) (hst : Cond.static y ∈ TB) (hml : Cond.methodLinkNest own index y host ∈ nestW)
    (hR : (rm1.frames + 1 ≤ R.frames ∧ 8 + (nL1 + 11) + rm1.locals ≤ R.locals) ∧ (rm1.cells = 0 ∧ rm1.slots = 0) ∧ cl ≤ R.cells ∧ sl ≤ R.slots) (hst8 : (st.map fun v => v.category).sum ≤ 8) (hk : stk = (as.map (cV ρ)).reverse ++ st)
    (kk : VS l R own cc nL X cl sl n (frm ρ n1 g2 g) (pc + 3) L ((r.map (cV ρ)).toList ++ st)) : VS l R own cc nL X cl sl n g pc L stk := by
  intro p e s m args below meth c D cy A ad Q H locs ls C0 x i a hP hS hl
  have hts := C0.2.2.2.2.1
  refine run_endF (va_runSN (As := as.map (cV (fun i => ad (ρ i)))) (rest := st.map (cV ad)) (n := as.length) (Ts := TB) ⟨C0.1, C0.2.1, C0.2.2.1, C0.2.2.2.1, hts⟩ (hC D cy (fun i => ad (ρ i))) ⟨va_cnB as.length hts (wM_good hm.1) rfl hR.2.1.1 hR.2.1.2 (C0.2.2.2.2.2.2.2.2.1 _ hml) (hts _ hm.2.1) hm.2.2 hR.1, hts _ hst, trivial⟩ ⟨PreF.blind, fun U hU hW => ⟨rfl, preF_of hF C0.2.2.2.2.2.2.1 C0.2.2.2.2.2.2.2 i a hP hS hU hW⟩⟩ rfl (by rw [List.length_map]) hl.1 ?_ (lv_room (by rw [cV_cats]; exact hst8)) d ⟨hR.2.2.1, hR.2.2.2⟩) hF C0 x i a hP hS hl kk
  show stk.map (cV ad) = _
  rw [hk, List.map_append, List.map_reverse, List.map_map]
  congr 2
  exact List.map_congr_left fun v _ => cV_comp ad ρ v
theorem VS.callV {o ci N : Nat} {T : u_T} {fs : List Value} {as1 : List Value} (ρ : Nat → Nat) (hC : CtF l y cc1 nL1 ret1 rm1 (.ref o :: as1) n1 g1 r g2) (d : decode cc pc = .ok (.invokevirtual index, 3)) (hF : Frm ρ n1 g1 n g) (hm : MI y cc1 nL1 ret1 as1.length) (him : Cond.instanceMethod y ∈ TB) (hse : Cond.selects y.cls y y ∈ TB) (hml : Cond.methodLink own index y ∈ TB)
    (ho : o < n1) (hg1 : g1 o = .inr (ci, fs)) (hc : vwCl[ci]? = some (y.cls, T, N))
    (hR : (rm1.frames + 1 ≤ R.frames ∧ 8 + (nL1 + 11) + rm1.locals ≤ R.locals) ∧ (rm1.cells = 0 ∧ rm1.slots = 0) ∧ cl ≤ R.cells ∧ sl ≤ R.slots) (hst8 : (st.map fun v => v.category).sum ≤ 8) (hk : stk = (as1.map (cV ρ)).reverse ++ .ref (ρ o) :: st)
    (kk : VS l R own cc nL X cl sl n (frm ρ n1 g2 g) (pc + 3) L ((r.map (cV ρ)).toList ++ st)) : VS l R own cc nL X cl sl n g pc L stk := by
  intro p e s m args below meth c D cy A ad Q H locs ls C0 x i a hP hS hl
  have hts := C0.2.2.2.2.1
  have hgo : g (ρ o) = .inr (ci, fs.map (cV ρ)) := by rw [hF.2.2 o ho, hg1]; rfl
  refine run_endF (va_runV (C := y.cls) (b := ad (ρ o)) (As := as1.map (cV (fun i => ad (ρ i)))) (rest := st.map (cV ad)) (n := as1.length) (Ts := TB) ⟨C0.1, C0.2.1, C0.2.2.1, C0.2.2.2.1, hts⟩ (hC D cy (fun i => ad (ρ i))) ⟨callB_of as1.length hts (wM_good hm.1) rfl hR.2.1.1 hR.2.1.2 (hts _ hm.2.1) (hts _ hml) hm.2.2 hR.1, hts _ him, hts _ hse⟩ ⟨PreF.blind, va_recv C0.2.2.2.2.2.2.1 hP hc (wat_r (hF.1 o ho) hgo), fun U hU hW => ⟨rfl, preF_of hF C0.2.2.2.2.2.2.1 C0.2.2.2.2.2.2.2 i a hP hS hU hW⟩⟩ rfl (by rw [List.length_map]) hl.1 ?_ (lv_room (by rw [cV_cats]; exact hst8)) d ⟨hR.2.2.1, hR.2.2.2⟩) hF C0 x i a hP hS hl kk
  show stk.map (cV ad) = _
  rw [hk, List.map_append, List.map_reverse, List.map_map, List.map_cons]
  congr 2
  exact List.map_congr_left fun v _ => cV_comp ad ρ v
end CALLS
