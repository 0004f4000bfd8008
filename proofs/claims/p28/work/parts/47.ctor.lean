/-! constructors: from one new object to its cells -/
def PreI (D : va_G) (cy : Nat → ClassId) (a : Nat) (e0 : va_E) (sz : Nat) : State → Prop := fun U => (va_P D vwCl (wd cy (fun _ => a) 1 (fun _ => e0)) U.heap ∧ va_K D vwCl (tysA cy) U ∧ EN (fun q => q = a) U U.heap) ∧ U.heap.size = sz
def QI (D : va_G) (cy : Nat → ClassId) (a sz n2 : Nat) (g2 : Nat → va_E) : Array Value → State → Outcome → State → Prop := fun _ st oc t => oc = .returned none ∧ (∃ ad : Nat → Nat, ad 0 = a ∧ aI ad n2 ∧ (∀ k, 0 < k → k < n2 → sz ≤ ad k) ∧ va_P D vwCl (wd cy ad n2 g2) t.heap) ∧ va_F (fun q => q = a) st t
/-- a constructor: the new object's cell holds e0; then its cells are g2, mc of them made, with ms places -/
def CtI (l : Launch) (y : MethodName) (cc : ByteArray) (nL : Nat) (rm : Room) (e0 : va_E) (n2 : Nat) (g2 : Nat → va_E) (mc ms : Nat) : Prop := ∀ (D : va_G) (cy : Nat → ClassId) (a sz : Nat), Met l y (wM y cc nL none) rm (va_Pc [.ref a] (PreI D cy a e0 sz)) (QI D cy a sz n2 g2) mc ms (fun q => q = a ∨ sz ≤ q)
def XI (n2 : Nat) (g2 : Nat → va_E) (mc ms : Nat) : XT := fun s args below meth D cy A ad Q => meth.sig.returnType = none ∧ meth.name = "<init>" ∧ ∃ a sz, ad 0 = a ∧ a < sz ∧ s.heap.size = sz ∧ (∀ q, A q ↔ (q = a ∨ sz ≤ q)) ∧ Q = MQ below (QI D cy a sz n2 g2) args s mc ms (fun q => q = a ∨ sz ≤ q)
/-- what is known stays known when new cells come -/
def Xg (X : XT) (n : Nat) : Prop := ∀ s args below meth D cy A ad ad' Q, (∀ k, k < n ∨ 200 ≤ k → ad' k = ad k) → X s args below meth D cy A ad Q → X s args below meth D cy A ad' Q
theorem Xg.up {X : XT} {n : Nat} (h : Xg X n) (hn : n < 200) : Xup X n := fun s args below meth D cy A ad Q q hx => h s args below meth D cy A ad _ Q (fun k hk => by unfold upA; rw [if_neg (by omega)]) hx
theorem Xg.mono {X : XT} {n n' : Nat} (h : Xg X n) (hn : n ≤ n') : Xg X n' := fun s args below meth D cy A ad ad' Q he hx => h s args below meth D cy A ad ad' Q (fun k hk => he k (by omega)) hx
theorem XI.g {n2 : Nat} {g2 : Nat → va_E} {mc ms n : Nat} (hn : 0 < n) : Xg (XI n2 g2 mc ms) n := by
  rintro s args below meth D cy A ad ad' Q he ⟨h1, h2, a, sz, h3, h4⟩
  exact ⟨h1, h2, a, sz, (he 0 (Or.inl hn)).trans h3, h4⟩
theorem XI.new {n2 : Nat} {g2 : Nat → va_E} {mc ms : Nat} : Xnew (XI n2 g2 mc ms) := by
  rintro s args below meth D cy A ad Q ⟨h1, h2, a, sz, h3, h4, h5, h6, h7⟩ q hq
  exact (h6 q).mpr (Or.inr (by omega))
theorem XI.nm {n2 : Nat} {g2 : Nat → va_E} {mc ms : Nat} : ∀ s args below meth D cy A ad Q, XI n2 g2 mc ms s args below meth D cy A ad Q → meth.name = "<init>" := fun _ _ _ _ _ _ _ _ _ h => h.2.1
theorem CtI.of {l : Launch} {y : MethodName} {cc : ByteArray} {nL : Nat} {rm : Room} {e0 : va_E} {n2 : Nat} {g2 : Nat → va_E} {mc ms : Nat} {own : String} (L0 : List (Option Value)) (hy : plainName y.cls = true) (hown : y.cls = own) (hnm : y.name = "<init>") (hlen : 1 ≤ nL) (hL : ∀ a : Nat, asL (fun _ => a) 0 L0 = lv_args 0 [Value.ref a]) (hv : VS l rm own cc nL (XI n2 g2 mc ms) 0 0 1 (fun _ => e0) 0 L0 []) : CtI l y cc nL rm e0 n2 g2 mc ms := by
  intro D cy a sz
  refine Met.ofW (cc := cc) (maxL := nL) (ret := none) hy rfl ?_
  intro p e s m args below meth c s₁ B hml hp
  obtain ⟨rfl, ⟨hP, hK, hE⟩, hz⟩ := hp
  have hts := atoms_spec (ws := wM y cc nL none) B.pre
  have hown2 : s.vm.findClass own = some m.cls := by rw [← hown]; exact findClass_of_methodNamed B.named
  have hin : meth.name = "<init>" := (name_of_methodNamed B.named B.method).1.trans hnm
  have hlt : a < s.heap.size := (hP 0 _ (wd_at (n := 1) (by decide))).lt
  rw [lg_entry_eq]
  refine hv p e s m _ below meth c D cy (fun q => q = a ∨ sz ≤ q) (fun _ => a) _ s.heap [] _ ⟨B.exec, B.bytes, hml, hown2, fun w hw => hts w (List.mem_cons_of_mem _ hw), B.notSynchronized, hK, ?_⟩ ⟨B.returns, hin, a, sz, rfl, by omega, hz, fun q => Iff.rfl, rfl⟩ (fun i j hi hj _ => by omega) (fun k hk => Or.inl rfl) hP va_S.rf (by rw [hL]; exact lv_entry _ (show (lg_sl [Value.ref a]).length ≤ nL from hlen))
  have := hE.wide
  rw [hz] at this
  exact this
def okW (o : Nat) (v : Value) : Bool := match v with
  | .ref r => decide (r ≤ o) || decide (200 ≤ r)
  | _ => true
def okWE (o : Nat) (e : va_E) : Prop := match e with
  | .inr x => x.2.all (okW o) = true
  | .inl (_, _, .inr (.inr (.inr (.inr f)))) => ∀ i r, f i = some r → r ≤ o
  | .inl _ => True
def okWL (o : Nat) (L : List (Option Value)) : Bool := L.all (fun x => match x with
  | some v => okW o v
  | none => true)
def ltE (n : Nat) (e : va_E) : Prop := match e with
  | .inr x => ∀ r, Value.ref r ∈ x.2 → r < n
  | .inl (_, _, .inr (.inr (.inr (.inr f)))) => ∀ i r, f i = some r → r < n
  | .inl _ => True
/-- addresses: the old ones below o, the constructor's from o on -/
def adJ (ad adC : Nat → Nat) (o : Nat) : Nat → Nat := fun k => if k < o then ad k else if 200 ≤ k then ad k else adC (k - o)
theorem okW_cV {ad adC : Nat → Nat} {o : Nat} {v : Value} (h0 : adC 0 = ad o) (h : okW o v = true) : cV (adJ ad adC o) v = cV ad v := by
  cases v <;> try rfl
  rename_i r
  have h2 : r ≤ o ∨ 200 ≤ r := by simpa [okW] using h
  show Value.ref (adJ ad adC o r) = Value.ref (ad r)
  congr 1
  unfold adJ
  by_cases c1 : r < o
  · rw [if_pos c1]
  · rw [if_neg c1]
    by_cases c2 : 200 ≤ r
    · rw [if_pos c2]
    · have e : r = o := Nat.le_antisymm (h2.resolve_right c2) (Nat.not_lt.mp c1)
      rw [if_neg c2, e, Nat.sub_self, h0]
theorem okWS_cV {ad adC : Nat → Nat} {o : Nat} {st : List Value} (h0 : adC 0 = ad o) (h : st.all (okW o) = true) : st.map (cV (adJ ad adC o)) = st.map (cV ad) := List.map_congr_left fun v hv => okW_cV h0 (List.all_eq_true.mp h v hv)
theorem okWL_as {ad adC : Nat → Nat} {o : Nat} (h0 : adC 0 = ad o) : ∀ (L : List (Option Value)) (i : Nat), okWL o L = true → asL (adJ ad adC o) i L = asL ad i L
  | [], _, _ => rfl
  | some v :: t, i, h => by
    have h2 : okW o v = true ∧ okWL o t = true := by simpa [okWL] using h
    show (i, cV (adJ ad adC o) v) :: asL (adJ ad adC o) (i + 1) t = (i, cV ad v) :: asL ad (i + 1) t
    rw [okW_cV h0 h2.1, okWL_as h0 t (i + 1) h2.2]
  | none :: t, i, h => okWL_as h0 t (i + 1) (by simpa [okWL] using h)
theorem okWE_cE {ad adC : Nat → Nat} {o : Nat} {cy : Nat → ClassId} {e : va_E} (ho : o < 200) (h0 : adC 0 = ad o) (h : okWE o e) : cE cy (adJ ad adC o) e = cE cy ad e := by
  rcases e with ⟨t, N, y⟩ | ⟨ci, fs⟩
  · rcases y with y | y | y | y | y <;> try rfl
    refine congrArg (fun f => (Sum.inl (cy t, N, Sum.inr (Sum.inr (Sum.inr (Sum.inr f)))) : ClassId × vp_A ⊕ Nat × List Value)) (funext fun i => ?_)
    cases hy : y i with
    | none => rfl
    | some r =>
      have h2 : r ≤ o := h i r hy
      show some (adJ ad adC o r) = some (ad r)
      congr 1
      unfold adJ
      by_cases c1 : r < o
      · rw [if_pos c1]
      · rw [if_neg c1, if_neg (by omega), show r = o by omega, Nat.sub_self, h0]
  · show (Sum.inr (ci, _) : ClassId × vp_A ⊕ Nat × List Value) = Sum.inr (ci, _)
    rw [okWS_cV h0 h]
theorem ltE_cE {ad adC : Nat → Nat} {o n : Nat} {cy : Nat → ClassId} {e : va_E} (hn : o + n ≤ 200) (h : ltE n e) : cE cy (adJ ad adC o) (rE (fun i => o + i) e) = cE cy adC e := by
  rw [cE_rE]
  have key : ∀ r, r < n → adJ ad adC o (o + r) = adC r := fun r hr => by
    unfold adJ; rw [if_neg (by omega), if_neg (by omega), show o + r - o = r by omega]
  rcases e with ⟨t, N, y⟩ | ⟨ci, fs⟩
  · rcases y with y | y | y | y | y <;> try rfl
    refine congrArg (fun f => (Sum.inl (cy t, N, Sum.inr (Sum.inr (Sum.inr (Sum.inr f)))) : ClassId × vp_A ⊕ Nat × List Value)) (funext fun i => ?_)
    cases hy : y i with
    | none => rfl
    | some r => exact congrArg some (key r (h i r hy))
  · show (Sum.inr (ci, _) : ClassId × vp_A ⊕ Nat × List Value) = Sum.inr (ci, _)
    congr 2
    refine List.map_congr_left fun v hv => ?_
    cases v <;> try rfl
    rename_i r
    exact congrArg Value.ref (key r (h r hv))
/-- the cells behind a constructor's call on the newest object -/
def joinG (g : Nat → va_E) (o : Nat) (g2 : Nat → va_E) : Nat → va_E := fun k => if k < o then g k else rE (fun i => o + i) (g2 (k - o))
theorem PreI.blind {av : List Value} {D : va_G} {cy : Nat → ClassId} {a : Nat} {e0 : va_E} {sz : Nat} : FrameBlind (va_Pc av (PreI D cy a e0 sz)) := fun x U gf mk q => by
  obtain ⟨q0, ⟨qP, qK, qE⟩, qz⟩ := q
  exact ⟨q0, ⟨qP, va_K.moved (u := U) (U := U.calling gf mk x) (Vm.Alike.refl U.vm) qK, qE.calling x gf mk⟩, qz⟩
section
variable {l : Launch} {R : Room} {own : String} {cc : ByteArray} {nL : Nat} {X : XT} {cl sl o : Nat} {g : Nat → va_E} {pc : Nat} {L : List (Option Value)} {st : List Value}
variable {y : MethodName} {cc1 : ByteArray} {nL1 n2 index mc ms : Nat} {rm1 : Room} {e0 : va_E} {g2 : Nat → va_E}
theorem preI_of {D : va_G} {cy : Nat → ClassId} {A : Nat → Prop} {ad : Nat → Nat} {s U : State} {H : Heap} {locs : List Loc} (hK : va_K D vwCl (tysA cy) s) (hE : EN A s s.heap) (a : ∀ k, k < o + 1 → A (ad k)) (hP : va_P D vwCl (wd cy ad (o + 1) g) H) (hS : va_S A s.heap H locs) (hge : g o = e0) (he0 : ∀ ad ad' : Nat → Nat, cE cy ad e0 = cE cy ad' e0) (hU : U.heap = H) (hW : s.WarmedH U.vm) : PreI D cy (ad o) e0 H.size U := by
  refine ⟨⟨?_, va_K.moved hW.alike hK, ?_⟩, by rw [hU]⟩
  · rw [hU]
    intro k q hq
    obtain ⟨hk, rfl⟩ := wd_inv hq
    have h1 := hP o _ (wd_at (by omega))
    rw [hge, he0 ad (fun _ => ad o)] at h1
    exact h1
  · rw [hU]
    refine (hE.now hS hW).narrow ?_
    rintro q rfl
    exact a o (by omega)
theorem run_endI {p : Program} {e : Env} {s : State} {m : MethodId} {args : Array Value} {below : List Frame} {meth : Method} {c : Code} {D : va_G} {cy : Nat → ClassId} {A : Nat → Prop} {ad : Nat → Nat} {Q : State → Prop} {H : Heap} {locs : List Loc} {ls : Array Slot} {av : Array Value} {st0 : List Value}
    (hr : va_Run p l e R s m args below meth c H locs cl sl mc ms (F0 m pc ls st0) (st.map (cV ad)) (QI D cy (ad o) H.size n2 g2 av) (fun q => q = ad o ∨ H.size ≤ q))
    (C0 : Cx p s m args meth c own cc nL D cy A) (x : X s args below meth D cy A ad Q) (i : aI ad (o + 1)) (a : ∀ k, k < o + 1 → A (ad k)) (hP : va_P D vwCl (wd cy ad (o + 1) g) H) (hS : va_S A s.heap H locs) (hl : lv_has ls nL (asL ad 0 L))
    (hX : Xg X (o + 1)) (hN : Xnew X) (h84 : o + n2 ≤ 200) (hn2 : 0 < n2) (hg : ∀ k, k < o → okWE o (g k)) (hg2 : ∀ k, k < n2 → ltE n2 (g2 k)) (hL : okWL o L = true) (hst : st.all (okW o) = true)
    (kk : VS l R own cc nL X (cl + mc) (sl + ms) (o + n2) (joinG g o g2) (pc + 3) L st) : W p l e R s m args below meth c H locs cl sl Q (F0 m pc ls st0) := by
  intro T hT X0
  obtain ⟨v, st₀, t, T', L2, h0, X', hL2, e1, e2, ⟨hv, ⟨adC, c0, ci, cn, cP⟩, hz, hk⟩, stp⟩ := hr T hT X0
  cases hv
  rw [h0] at hz hk
  have hlt : ∀ k, k < o + 1 → ad k < H.size := fun k hk => (hP k _ (wd_at hk)).lt
  have j1 : ∀ k, k < o + 1 → adJ ad adC o k = ad k := by
    intro k hk
    unfold adJ
    by_cases c1 : k < o
    · rw [if_pos c1]
    · rw [if_neg c1]
      have : k = o := by omega
      subst this
      rw [if_neg (by omega), Nat.sub_self, c0]
  have j2 : ∀ k, o ≤ k → k < o + n2 → adJ ad adC o k = adC (k - o) := by
    intro k h1 h2
    unfold adJ; rw [if_neg (by omega), if_neg (by omega)]
  have j84 : ∀ k, 200 ≤ k → adJ ad adC o k = ad k := by
    intro k hk
    unfold adJ; rw [if_neg (by omega), if_pos hk]
  have hA : ∀ q, H.size ≤ q → A q := fun q hq => hN _ _ _ _ _ _ _ _ _ x q (Nat.le_trans hS.1 hq)
  have i1 : aI (adJ ad adC o) (o + n2) := by
    intro x y hx hy he
    by_cases cx : x < o + 1
    · by_cases cyy : y < o + 1
      · rw [j1 x cx, j1 y cyy] at he; exact i x y cx cyy he
      · rw [j1 x cx, j2 y (by omega) hy] at he
        have h1 := cn (y - o) (by omega) (by omega)
        have h2 := hlt x cx
        omega
    · by_cases cyy : y < o + 1
      · rw [j2 x (by omega) hx, j1 y cyy] at he
        have h1 := cn (x - o) (by omega) (by omega)
        have h2 := hlt y cyy
        omega
      · rw [j2 x (by omega) hx, j2 y (by omega) hy] at he
        have := ci (x - o) (y - o) (by omega) (by omega) he
        omega
  have a1 : ∀ k, k < o + n2 → A (adJ ad adC o k) := by
    intro k hk
    by_cases ck : k < o + 1
    · rw [j1 k ck]; exact a k ck
    · rw [j2 k (by omega) hk]; exact hA _ (cn (k - o) (by omega) (by omega))
  have hP1 : va_P D vwCl (wd cy (adJ ad adC o) (o + n2) (joinG g o g2)) T'.heap := by
    rw [e1]
    intro k q hq
    obtain ⟨hk1, rfl⟩ := wd_inv hq
    by_cases ck : k < o
    · have ej : joinG g o g2 k = g k := if_pos ck
      rw [ej, okWE_cE (by omega) c0 (hg k ck), j1 k (by omega)]
      have h1 := hP k _ (wd_at (by omega))
      refine h1.kept (hk _ h1.lt ?_)
      intro z
      have := i k o (by omega) (by omega) z
      omega
    · have ej : joinG g o g2 k = rE (fun i => o + i) (g2 (k - o)) := if_neg ck
      rw [ej, ltE_cE h84 (hg2 (k - o) (by omega)), j2 k (by omega) hk1]
      exact cP (k - o) _ (wd_at (by omega))
  have hS1 : va_S A s.heap T'.heap (locs ++ L2) := ⟨Nat.le_trans hS.1 (by rw [e1]; exact hz), fun q h1 h2 => by
      rw [e1, hk q (Nat.lt_of_lt_of_le h1 hS.1) (fun z => h2 (by rw [z]; exact a o (by omega)))]
      exact hS.2.1 q h1 h2, fun q hq => by
      rcases List.mem_append.mp hq with h | h
      · exact hS.2.2 q h
      · rcases hL2 q h with z | z
        · rw [z]; exact a o (by omega)
        · exact hA _ z⟩
  obtain ⟨t2, z1, z2⟩ := kk p e s m args below meth c D cy A (adJ ad adC o) Q T'.heap (locs ++ L2) ls C0 (hX _ _ _ _ _ _ _ _ _ _ (fun k hk => by
      rcases hk with h | h
      · exact j1 k h
      · exact j84 k h) x) i1 a1 hP1 hS1 (by rw [okWL_as c0 L 0 hL]; exact hl) T' rfl X'
  refine ⟨t2, stp t2 ?_, z2⟩
  rw [okWS_cV c0 hst] at z1
  exact z1
def RmI (rm1 : Room) (nL1 mc ms : Nat) (R : Room) (cl sl : Nat) : Prop := (rm1.frames + 1 ≤ R.frames ∧ 8 + (nL1 + 11) + rm1.locals ≤ R.locals) ∧ (rm1.cells = mc ∧ rm1.slots = ms) ∧ cl + mc ≤ R.cells ∧ sl + ms ≤ R.slots
theorem VS.callI (hC : CtI l y cc1 nL1 rm1 e0 n2 g2 mc ms) (d : decode cc pc = .ok (.invokespecial index, 3)) (hm : MI y cc1 nL1 none 0) (hnm : y.name = "<init>") (him : Cond.instanceMethod y ∈ TB) (hml : Cond.methodLink own index y ∈ TB) (hR : RmI rm1 nL1 mc ms R cl sl) (hst8 : (st.map fun v => v.category).sum ≤ 8) (hge : g o = e0) (he0 : ∀ (cy : Nat → ClassId) (ad ad' : Nat → Nat), cE cy ad e0 = cE cy ad' e0)
    (hX : Xg X (o + 1)) (hN : Xnew X) (h84 : o + n2 ≤ 200) (hn2 : 0 < n2) (hg : ∀ k, k < o → okWE o (g k)) (hg2 : ∀ k, k < n2 → ltE n2 (g2 k)) (hL : okWL o L = true) (hst : st.all (okW o) = true)
    (kk : VS l R own cc nL X (cl + mc) (sl + ms) (o + n2) (joinG g o g2) (pc + 3) L st) : VS l R own cc nL X cl sl (o + 1) g pc L (.ref o :: st) := by
  intro p e s m args below meth c D cy A ad Q H locs ls C0 x i a hP hS hl
  have hts := C0.2.2.2.2.1
  exact run_endI (va_runI (b := ad o) (As := []) (rest := st.map (cV ad)) (n := 0) (Ts := TB) ⟨C0.1, C0.2.1, C0.2.2.1, C0.2.2.2.1, hts⟩ (hC D cy (ad o) H.size) ⟨callB_of 0 hts (wM_good hm.1) rfl hR.2.1.1 hR.2.1.2 (hts _ hm.2.1) (hts _ hml) hm.2.2 hR.1, hnm, hts _ him⟩ ⟨PreI.blind, fun U hU hW => ⟨rfl, preI_of C0.2.2.2.2.2.2.1 C0.2.2.2.2.2.2.2 a hP hS hge (he0 cy) hU hW⟩⟩ rfl rfl hl.1 rfl (lv_room (by rw [cV_cats]; exact hst8)) d hR.2.2) C0 x i a hP hS hl hX hN h84 hn2 hg hg2 hL hst kk
theorem VS.callIN (host : String) (hC : CtI l y cc1 nL1 rm1 e0 n2 g2 mc ms) (d : decode cc pc = .ok (.invokespecial index, 3)) (hm : MI y cc1 nL1 none 0) (hnm : y.name = "<init>") (him : Cond.instanceMethod y ∈ TB) (hml : Cond.methodLinkNest own index y host ∈ nestW) (hR : RmI rm1 nL1 mc ms R cl sl) (hst8 : (st.map fun v => v.category).sum ≤ 8) (hge : g o = e0) (he0 : ∀ (cy : Nat → ClassId) (ad ad' : Nat → Nat), cE cy ad e0 = cE cy ad' e0)
    (hX : Xg X (o + 1)) (hN : Xnew X) (h84 : o + n2 ≤ 200) (hn2 : 0 < n2) (hg : ∀ k, k < o → okWE o (g k)) (hg2 : ∀ k, k < n2 → ltE n2 (g2 k)) (hL : okWL o L = true) (hst : st.all (okW o) = true)
    (kk : VS l R own cc nL X (cl + mc) (sl + ms) (o + n2) (joinG g o g2) (pc + 3) L st) : VS l R own cc nL X cl sl (o + 1) g pc L (.ref o :: st) := by
  intro p e s m args below meth c D cy A ad Q H locs ls C0 x i a hP hS hl
  have hts := C0.2.2.2.2.1
  exact run_endI (va_runIN (b := ad o) (As := []) (rest := st.map (cV ad)) (n := 0) (Ts := TB) ⟨C0.1, C0.2.1, C0.2.2.1, C0.2.2.2.1, hts⟩ (hC D cy (ad o) H.size) ⟨va_cnB 0 hts (wM_good hm.1) rfl hR.2.1.1 hR.2.1.2 (C0.2.2.2.2.2.2.2.2.1 _ hml) (hts _ hm.2.1) hm.2.2 hR.1, hnm, hts _ him⟩ ⟨PreI.blind, fun U hU hW => ⟨rfl, preI_of C0.2.2.2.2.2.2.1 C0.2.2.2.2.2.2.2 a hP hS hge (he0 cy) hU hW⟩⟩ rfl rfl hl.1 rfl (lv_room (by rw [cV_cats]; exact hst8)) d hR.2.2) C0 x i a hP hS hl hX hN h84 hn2 hg hg2 hL hst kk
theorem VS.irt {n2 : Nat} (d : decode cc pc = .ok (.return_, 1)) (hg : ∀ k, k < n2 → g k = g2 k) : VS l R own cc nL (XI n2 g2 cl sl) cl sl n2 g pc L [] := by
  intro p e s m args below meth c D cy A ad Q H locs ls C0 x i a hP hS hl
  obtain ⟨h1, h2, a0, sz, h3, h4, h5, h6, rfl⟩ := id x
  rw [wd_congr hg] at hP
  refine W.vret C0.1 C0.2.1 h1 (fun t ht _ => ⟨rfl, ⟨ad, h3, i, fun k hk1 hk2 => ?_, by rw [ht]; exact hP⟩, ⟨by rw [ht]; exact hS.1, fun q hq1 hq2 => ?_⟩⟩) (fun q hq => (h6 _).mp (hS.2.2 q hq)) d (hlocks := C0.2.2.2.2.2.1)
  · rcases (h6 _).mp (a k hk2) with z | z
    · have := i k 0 hk2 (by omega) (z.trans h3.symm)
      omega
    · exact z
  · rw [ht]
    exact hS.2.1 q hq1 (fun z => by
      rcases (h6 q).mp z with y | y
      · exact hq2 y
      · omega)
end
