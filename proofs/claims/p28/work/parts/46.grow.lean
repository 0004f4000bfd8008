/-! growth: new cells -/
def upA (ad : Nat → Nat) (n q : Nat) : Nat → Nat := fun k => if k = n then q else ad k
def Xup (X : XT) (n : Nat) : Prop := ∀ s args below meth D cy A ad Q q, X s args below meth D cy A ad Q → X s args below meth D cy A (upA ad n q) Q
def Xnew (X : XT) : Prop := ∀ s args below meth D cy A ad Q, X s args below meth D cy A ad Q → ∀ q, s.heap.size ≤ q → A q
def okV (n : Nat) (v : Value) : Bool := match v with
  | .ref r => r != n
  | _ => true
def okE (n : Nat) (e : va_E) : Prop := match e with
  | .inr o => o.2.all (okV n) = true
  | .inl (_, _, .inr (.inr (.inr (.inr f)))) => ∀ i, f i ≠ some n
  | .inl _ => True
def okL (n : Nat) (L : List (Option Value)) : Bool := L.all (fun o => match o with
  | some v => okV n v
  | none => true)
theorem okV_cV {n q : Nat} {ad : Nat → Nat} {v : Value} (h : okV n v = true) : cV (upA ad n q) v = cV ad v := by
  cases v <;> try rfl
  rename_i r
  have h2 : r ≠ n := by simpa [okV] using h
  show Value.ref (upA ad n q r) = Value.ref (ad r)
  unfold upA; rw [if_neg h2]
theorem okS_cV {n q : Nat} {ad : Nat → Nat} {st : List Value} (h : st.all (okV n) = true) : st.map (cV (upA ad n q)) = st.map (cV ad) := List.map_congr_left fun v hv => okV_cV (List.all_eq_true.mp h v hv)
theorem okL_as {n q : Nat} {ad : Nat → Nat} : ∀ (L : List (Option Value)) (i : Nat), okL n L = true → asL (upA ad n q) i L = asL ad i L
  | [], _, _ => rfl
  | some v :: t, i, h => by
    have h2 : okV n v = true ∧ okL n t = true := by simpa [okL] using h
    show (i, cV (upA ad n q) v) :: asL (upA ad n q) (i + 1) t = (i, cV ad v) :: asL ad (i + 1) t
    rw [okV_cV h2.1, okL_as t (i + 1) h2.2]
  | none :: t, i, h => okL_as t (i + 1) (by simpa [okL] using h)
theorem okE_cE {n q : Nat} {ad : Nat → Nat} {cy : Nat → ClassId} {e : va_E} (h : okE n e) : cE cy (upA ad n q) e = cE cy ad e := by
  rcases e with ⟨t, N, y⟩ | ⟨ci, fs⟩
  · rcases y with y | y | y | y | y <;> try rfl
    refine congrArg (fun f => (Sum.inl (cy t, N, Sum.inr (Sum.inr (Sum.inr (Sum.inr f)))) : ClassId × vp_A ⊕ Nat × List Value)) (funext fun i => ?_)
    have h2 : y i ≠ some n := h i
    cases hy : y i with
    | none => rfl
    | some r =>
      rw [hy] at h2
      show some (upA ad n q r) = some (ad r)
      unfold upA; rw [if_neg (fun z => h2 (by rw [z]))]
  · show (Sum.inr (ci, _) : va_E) = Sum.inr (ci, _)
    rw [okS_cV h]
theorem wd_grow {cy : Nat → ClassId} {ad : Nat → Nat} {n q : Nat} {g : Nat → va_E} {e : va_E} (hg : ∀ k, k < n → okE n (g k)) (he : okE n e) : wd cy (upA ad n q) (n + 1) (va_up g n e) = wd cy ad n g ++ [(q, cE cy ad e)] := by
  unfold wd
  rw [List.range_succ, List.map_append]
  congr 1
  · refine List.map_congr_left fun k hk => ?_
    have hk2 : k < n := List.mem_range.mp hk
    have e1 : upA ad n q k = ad k := by unfold upA; rw [if_neg (by omega)]
    have e2 : va_up g n e k = g k := by unfold va_up; rw [if_neg (by omega)]
    rw [e1, e2, okE_cE (hg k hk2)]
  · show [(upA ad n q n, cE cy (upA ad n q) (va_up g n e n))] = _
    have e1 : upA ad n q n = q := if_pos rfl
    have e2 : va_up g n e n = e := if_pos rfl
    rw [e1, e2, okE_cE he]
theorem wd_apart {cy : Nat → ClassId} {ad : Nat → Nat} {n : Nat} {g : Nat → va_E} {A : Nat → Prop} (h : va_D A (wd cy ad n g)) : aI ad n ∧ ∀ k, k < n → A (ad k) := ⟨fun i j hi hj e => h.1 i j _ _ (wd_at hi) (wd_at hj) e, fun k hk => h.2 k _ (wd_at hk)⟩
section
variable {l : Launch} {R : Room} {own : String} {cc : ByteArray} {nL : Nat} {X : XT} {cl sl n : Nat} {g : Nat → va_E} {pc : Nat} {L : List (Option Value)} {st : List Value}
/-- an object is made -/
theorem VS.new {C : String} {T : u_T} {N index : Nat} (ci : Nat) (fs : List Value) (d : decode cc pc = .ok (.new index, 3)) (hu : ∀ w ∈ u_ws C T N, w ∈ TB) (ty0 : Nat → FieldType) (hty : ∀ k, k < N → parseFieldDescriptor (T k).2.2.1 = some (ty0 k)) (hc : vwCl[ci]? = some (C, T, N)) (hcl : Cond.classLink own index C ∈ TB) (hinst : Cond.instantiable C N ∈ TB) (hini : Cond.initialized C ∈ TB) (hfs : ∀ j, j < N → defaultValue (ty0 j) = vp_V fs j) (hf0 : fs.all (fun v => match v with
    | .ref _ => false
    | _ => true) = true) (hX : Xup X n) (hN : Xnew X) (hR : cl + 1 ≤ R.cells ∧ sl + N ≤ R.slots) (hg : ∀ k, k < n → okE n (g k)) (hL : okL n L = true) (hst : st.all (okV n) = true)
    (kk : VS l R own cc nL X (cl + 1) (sl + N) (n + 1) (va_up g n (.inr (ci, fs))) (pc + 3) L (.ref n :: st)) : VS l R own cc nL X cl sl n g pc L st := by
  intro p e s m args below meth c D cy A ad Q H locs ls C0 x i a hP hS hl
  have hok : okE n (.inr (ci, fs)) := by
    show fs.all (okV n) = true
    refine List.all_eq_true.mpr fun v hv => ?_
    have := List.all_eq_true.mp hf0 v hv
    cases v <;> first | rfl | exact absurd this Bool.false_ne_true
  have hfm : ∀ ad : Nat → Nat, fs.map (cV ad) = fs := fun ad => by
    refine (List.map_congr_left fun v hv => ?_).trans (List.map_id fs)
    have := List.all_eq_true.mp hf0 v hv
    cases v <;> first | rfl | exact absurd this Bool.false_ne_true
  refine va_new C0.1 C0.2.1 C0.2.2.2.2.1 hu ty0 hty C0.2.2.2.1 (C0.2.2.2.2.1 _ hcl) (C0.2.2.2.2.1 _ hinst) (C0.2.2.2.2.1 _ hini) C0.2.2.2.2.2.2.1 hP (wd_D i a) hS (hN _ _ _ _ _ _ _ _ _ x) hc hfs hR.1 hR.2 d (fun q H1 hP1 hD1 hS1 => ?_)
  have e1 : wd cy ad n g ++ [(q, .inr (ci, fs))] = wd cy (upA ad n q) (n + 1) (va_up g n (.inr (ci, fs))) := by
    rw [wd_grow hg hok]
    show _ = wd cy ad n g ++ [(q, Sum.inr (ci, fs.map (cV ad)))]
    rw [hfm]
  rw [e1] at hP1 hD1
  obtain ⟨i1, a1⟩ := wd_apart hD1
  have k2 := kk p e s m args below meth c D cy A (upA ad n q) Q H1 locs ls C0 (hX _ _ _ _ _ _ _ _ _ q x) i1 a1 hP1 hS1 (by rw [okL_as L 0 hL]; exact hl)
  have e3 : (Value.ref n :: st).map (cV (upA ad n q)) = .ref q :: st.map (cV ad) := by
    rw [List.map_cons, okS_cV hst]
    congr 1
    show Value.ref (upA ad n q n) = _
    unfold upA; rw [if_pos rfl]
  rw [e3] at k2
  exact k2
theorem cy_one {D : va_G} {cy : Nat → ClassId} {s : State} {t : Nat} {ty : FieldType} {cA : ClassId} (hK : va_K D vwCl (tysA cy) s) (hK1 : va_K D vwCl (tysA cy ++ [(cA, ty)]) s) (ht : (tysA cy)[t]? = some (cy t, ty)) : cA = cy t := by
  have h1 := (hK.2 t _ ht).2
  have h2 := (hK1.2 4 (cA, ty) rfl).2
  unfold va_RA at h1 h2
  cases ty <;> first
    | exact Option.some.inj (h2.symm.trans h1)
    | (obtain ⟨_, _, _, _, _, h1⟩ := h1; obtain ⟨_, _, _, _, _, h2⟩ := h2; exact Option.some.inj (h2.symm.trans h1))
/-- an array of numbers is made -/
theorem VS.newa {atype : ArrayType} (t N : Nat) (ty : FieldType) (z : Int32) (d : decode cc pc = .ok (.newarray atype, 2)) (harr : Cond.arrayClass (newarray.typeOf atype) ∈ TB) (hty : newarray.typeOf atype = ty) (hd : defaultValue ty = .int 0) (ht : ∀ cy : Nat → ClassId, (tysA cy)[t]? = some (cy t, ty)) (hz : z = nI N) (hN2 : N < 2000) (hb : N * componentBytes ty ≤ 536870912) (hX : Xup X n) (hN : Xnew X) (hR : cl + 1 ≤ R.cells ∧ sl + N ≤ R.slots) (hg : ∀ k, k < n → okE n (g k)) (hL : okL n L = true) (hst : st.all (okV n) = true)
    (kk : VS l R own cc nL X (cl + 1) (sl + N) (n + 1) (va_up g n (.inl (t, N, .inl (fun _ => 0)))) (pc + 2) L (.ref n :: st)) : VS l R own cc nL X cl sl n g pc L (.int z :: st) := by
  intro p e s m args below meth c D cy A ad Q H locs ls C0 x i a hP hS hl
  subst hz
  have hok : okE n (.inl (t, N, .inl (fun _ => 0))) := trivial
  refine va_newa (N' := N) (a0 := (N, .inl (fun _ => 0))) C0.1 C0.2.1 (C0.2.2.2.2.1 _ harr) hty C0.2.2.2.2.2.2.1 hP (wd_D i a) hS (hN _ _ _ _ _ _ _ _ _ x) (fun cA => by rw [hd]; rfl) (nI_pos (by omega)) (nI_clamp (by omega)) hb hR.1 hR.2 d (fun q cA H1 hK1 hP1 hD1 hS1 => ?_)
  have ec := cy_one C0.2.2.2.2.2.2.1 hK1 (ht cy)
  subst ec
  have e1 : wd cy ad n g ++ [(q, .inl (cy t, N, .inl (fun _ => 0)))] = wd cy (upA ad n q) (n + 1) (va_up g n (.inl (t, N, .inl (fun _ => 0)))) := (wd_grow hg hok).symm
  rw [e1] at hP1 hD1
  obtain ⟨i1, a1⟩ := wd_apart hD1
  have k2 := kk p e s m args below meth c D cy A (upA ad n q) Q H1 locs ls C0 (hX _ _ _ _ _ _ _ _ _ q x) i1 a1 hP1 hS1 (by rw [okL_as L 0 hL]; exact hl)
  have e3 : (Value.ref n :: st).map (cV (upA ad n q)) = .ref q :: st.map (cV ad) := by
    rw [List.map_cons, okS_cV hst]
    congr 1
    show Value.ref (upA ad n q n) = _
    unfold upA; rw [if_pos rfl]
  rw [e3] at k2
  exact k2
/-- an array of games is made -/
theorem VS.anewa {index : Nat} (N : Nat) (z : Int32) (d : decode cc pc = .ok (.anewarray index, 3)) (hcl : Cond.classLink own index RX0 ∈ TB) (hz : z = nI N) (hN2 : N < 2000) (hX : Xup X n) (hN : Xnew X) (hR : cl + 1 ≤ R.cells ∧ sl + N ≤ R.slots) (hg : ∀ k, k < n → okE n (g k)) (hL : okL n L = true) (hst : st.all (okV n) = true)
    (kk : VS l R own cc nL X (cl + 1) (sl + N) (n + 1) (va_up g n (.inl (3, N, .inr (.inr (.inr (.inr (fun _ => none))))))) (pc + 3) L (.ref n :: st)) : VS l R own cc nL X cl sl n g pc L (.int z :: st) := by
  intro p e s m args below meth c D cy A ad Q H locs ls C0 x i a hP hS hl
  subst hz
  have hok : okE n (.inl (3, N, .inr (.inr (.inr (.inr (fun _ => none)))))) := fun i z => by cases z
  refine va_newq (N' := N) C0.1 C0.2.1 C0.2.2.2.1 (C0.2.2.2.2.1 _ hcl) C0.2.2.2.2.2.2.2.2.2 C0.2.2.2.2.2.2.1 hP (wd_D i a) hS (hN _ _ _ _ _ _ _ _ _ x) (nI_pos (by omega)) (nI_clamp (by omega)) (by omega) hR.1 hR.2 d (fun q cA H1 hK1 hP1 hD1 hS1 => ?_)
  have ec : cA = cy 3 := cy_one C0.2.2.2.2.2.2.1 hK1 rfl
  subst ec
  have e1 : wd cy ad n g ++ [(q, .inl (cy 3, N, .inr (.inr (.inr (.inr (fun _ => none))))))] = wd cy (upA ad n q) (n + 1) (va_up g n (.inl (3, N, .inr (.inr (.inr (.inr (fun _ => none))))))) := (wd_grow hg hok).symm
  rw [e1] at hP1 hD1
  obtain ⟨i1, a1⟩ := wd_apart hD1
  have k2 := kk p e s m args below meth c D cy A (upA ad n q) Q H1 locs ls C0 (hX _ _ _ _ _ _ _ _ _ q x) i1 a1 hP1 hS1 (by rw [okL_as L 0 hL]; exact hl)
  have e3 : (Value.ref n :: st).map (cV (upA ad n q)) = .ref q :: st.map (cV ad) := by
    rw [List.map_cons, okS_cV hst]
    congr 1
    show Value.ref (upA ad n q n) = _
    unfold upA; rw [if_pos rfl]
  rw [e3] at k2
  exact k2
end
theorem va_Z.wide {C n d : String} {v : Value} {A : Nat → Prop} {U : State} {H : Heap} (h : va_Z C n d v A U H) : va_Z C n d v (fun q => A q ∨ H.size ≤ q) U H := by
  obtain ⟨cf, kf, fi, f, a, cell, h1, h2, h3, h4, h5, h6, h7, h8⟩ := h
  have := (Array.getElem?_eq_some_iff.mp h5).1
  exact ⟨cf, kf, fi, f, a, cell, h1, h2, h3, h4, h5, h6, h7, fun z => z.elim h8 (fun y => by omega)⟩
theorem va_T.wide {ty : FieldType} {t N : Nat} {f : Nat → Value} {A : Nat → Prop} {U : State} {H : Heap} (h : va_T ty t N f A U H) : va_T ty t N f (fun q => A q ∨ H.size ≤ q) U H := by
  obtain ⟨cell, h1, h2, h3, h4, h5, h6, h7⟩ := h
  have := (Array.getElem?_eq_some_iff.mp h1).1
  exact ⟨cell, h1, h2, h3, h4, h5, h6, fun z => z.elim h7 (fun y => by omega)⟩
theorem SA.wide {C n : String} {N : Nat} {f : Nat → Int32} {A : Nat → Prop} {U : State} {H : Heap} (h : SA C n N f A U H) : SA C n N f (fun q => A q ∨ H.size ≤ q) U H := by
  obtain ⟨t, h1, h2⟩ := h
  exact ⟨t, h1.wide, h2.wide⟩
theorem EN.wide {A : Nat → Prop} {U : State} {H : Heap} (h : EN A U H) : EN (fun q => A q ∨ H.size ≤ q) U H := ⟨⟨h.1.1.wide, h.1.2.1.wide, h.1.2.2.1.wide, h.1.2.2.2.wide⟩, h.2⟩
