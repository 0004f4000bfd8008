/-! cells of a fixed shape, filled by numbers: cell c, place j holds the number S c j -/
abbrev Shp : Type := (Nat × List (Option Nat)) ⊕ (Nat × Nat) ⊕ (Nat × (Nat → Option Nat))
abbrev SS : Type := Nat → Nat → Int32
def shF (fl : List (Option Nat)) (v : Nat → Int32) : List Value := fl.mapIdx (fun j o => match o with
  | some r => .ref r
  | none => .int (v j))
def shC (h : Shp) (v : Nat → Int32) : va_E := match h with
  | .inl (ci, fl) => .inr (ci, shF fl v)
  | .inr (.inl (t, N)) => .inl (t, N, .inl v)
  | .inr (.inr (N, f)) => .inl (3, N, .inr (.inr (.inr (.inr f))))
def shW (sh : Nat → Shp) (S : SS) (k : Nat) : va_E := shC (sh k) (S k)
/-- cell c is filled by f -/
def upC (S : SS) (c : Nat) (f : Nat → Int32) : SS := fun a => if a = c then f else S a
theorem upC_at (S : SS) (c : Nat) (f : Nat → Int32) : upC S c f c = f := if_pos rfl
theorem upC_ne {S : SS} {c a : Nat} {f : Nat → Int32} (h : a ≠ c) : upC S c f a = S a := if_neg h
theorem upC_upC (S : SS) (c : Nat) (f h : Nat → Int32) : upC (upC S c f) c h = upC S c h := by
  funext a; unfold upC; split <;> rfl
theorem upC_id (S : SS) (c : Nat) : upC S c (S c) = S := by
  funext a; unfold upC; split
  · rename_i h; rw [h]
  · rfl
theorem upC_comm (S : SS) {c d : Nat} (f h : Nat → Int32) (hcd : c ≠ d) : upC (upC S c f) d h = upC (upC S d h) c f := by
  funext a; unfold upC
  by_cases h1 : a = d
  · subst h1; rw [if_pos rfl, if_neg (Ne.symm hcd), if_pos rfl]
  · rw [if_neg h1, if_neg h1]
abbrev up2 (S : SS) (c j : Nat) (v : Int32) : SS := upC S c (upd (S c) j v)
theorem upd_upd (f : Nat → Int32) (k : Nat) (x y : Int32) : upd (upd f k x) k y = upd f k y := by
  funext a; unfold upd; split <;> rfl
theorem upd_at (f : Nat → Int32) (k : Nat) (x : Int32) : upd f k x k = x := if_pos rfl
theorem upd_ne {f : Nat → Int32} {k a : Nat} {x : Int32} (h : a ≠ k) : upd f k x a = f a := if_neg h
theorem upd_comm (f : Nat → Int32) {k j : Nat} (x y : Int32) (h : k ≠ j) : upd (upd f k x) j y = upd (upd f j y) k x := by
  funext a; unfold upd
  by_cases h1 : a = j
  · subst h1; rw [if_pos rfl, if_neg (Ne.symm h), if_pos rfl]
  · rw [if_neg h1, if_neg h1]
theorem shF_set {fl : List (Option Nat)} {v : Nat → Int32} {k : Nat} {x : Int32} (h : fl[k]? = some none) : (shF fl v).set k (.int x) = shF fl (upd v k x) := by
  apply List.ext_getElem?
  intro j
  by_cases hj : j = k
  · subst hj
    have hlt : j < (shF fl v).length := by
      have := (List.getElem?_eq_some_iff.mp h).1
      simpa [shF] using this
    rw [List.getElem?_set_self hlt]
    simp [shF, List.getElem?_mapIdx, h, upd]
  · rw [List.getElem?_set_ne (Ne.symm hj)]
    simp only [shF, List.getElem?_mapIdx]
    cases fl[j]? with
    | none => rfl
    | some o => cases o <;> simp [upd, hj]
theorem shW_up {sh : Nat → Shp} {S : SS} {o j : Nat} {x : Int32} {e : va_E} (h : e = shC (sh o) (upd (S o) j x)) (k : Nat) : va_up (shW sh S) o e k = shW sh (up2 S o j x) k := by
  by_cases hk : k = o
  · subst hk
    rw [va_up_self, h]
    unfold shW up2
    rw [upC_at]
  · rw [va_up_ne _ _ hk]
    unfold shW up2
    rw [upC_ne hk]
section ST
variable {l : Launch} {R : Room} {own : String} {cc : ByteArray} {nL : Nat} {X : XT} {cl sl n : Nat} {pc : Nat} {L : List (Option Value)} {st stk : List Value} {sh : Nat → Shp} {S : SS}
theorem VS.sgetI {o : Nat} {ref C : String} {T : u_T} {N index : Nat} {fl : List (Option Nat)} (ci : Nat) (d : decode cc pc = .ok (.getfield index, 3)) (hu : ∀ w ∈ u_ws C T N, w ∈ TB) (hc : vwCl[ci]? = some (C, T, N)) (ho : o < n) (k : Nat) (hsh : sh o = .inl (ci, fl)) (hf : fl[k]? = some none) (hk : k < N) (hlink : (Cond.fieldLink own index ref (T k).2.1 (T k).2.2.1) ∈ TB) (hsame : (T k).1 = ref) (kk : VS l R own cc nL X cl sl n (shW sh S) (pc + 3) L (.int (S o k) :: st)) : VS l R own cc nL X cl sl n (shW sh S) pc L (.ref o :: st) :=
  VS.getf ci d hu hc ho k (show shW sh S o = .inr (ci, shF fl (S o)) by unfold shW; rw [hsh]; rfl) hk hlink hsame (by simp [shF, List.getElem?_mapIdx, hf]) kk
theorem VS.sgetR {o r : Nat} {ref C : String} {T : u_T} {N index : Nat} {fl : List (Option Nat)} (ci : Nat) (d : decode cc pc = .ok (.getfield index, 3)) (hu : ∀ w ∈ u_ws C T N, w ∈ TB) (hc : vwCl[ci]? = some (C, T, N)) (ho : o < n) (k : Nat) (hsh : sh o = .inl (ci, fl)) (hf : fl[k]? = some (some r)) (hk : k < N) (hlink : (Cond.fieldLink own index ref (T k).2.1 (T k).2.2.1) ∈ TB) (hsame : (T k).1 = ref) (kk : VS l R own cc nL X cl sl n (shW sh S) (pc + 3) L (.ref r :: st)) : VS l R own cc nL X cl sl n (shW sh S) pc L (.ref o :: st) :=
  VS.getf ci d hu hc ho k (show shW sh S o = .inr (ci, shF fl (S o)) by unfold shW; rw [hsh]; rfl) hk hlink hsame (by simp [shF, List.getElem?_mapIdx, hf]) kk
theorem VS.sput {o : Nat} {ref C : String} {T : u_T} {N index : Nat} {fl : List (Option Nat)} {v : Int32} (ci : Nat) (d : decode cc pc = .ok (.putfield index, 3)) (hu : ∀ w ∈ u_ws C T N, w ∈ TB) (ty0 : Nat → FieldType) (hty : ∀ k, k < N → parseFieldDescriptor (T k).2.2.1 = some (ty0 k)) (hnm : ∀ a, a < N → ∀ b, b < N → a ≠ b → (T a).2.1 ≠ (T b).2.1) (hc : vwCl[ci]? = some (C, T, N)) (ho : o < n) (k : Nat) (hsh : sh o = .inl (ci, fl)) (hf : fl[k]? = some none) (hk : k < N) (hlink : (Cond.fieldLink own index ref (T k).2.1 (T k).2.2.1) ∈ TB) (hsame : (T k).1 = ref) (hfin : (T k).2.2.2 = false) (hn : narrow (ty0 k) (.int v) = .int v) (hfit : fits (ty0 k) (.int v) = true) (kk : VS l R own cc nL X cl sl n (shW sh (up2 S o k v)) (pc + 3) L st) : VS l R own cc nL X cl sl n (shW sh S) pc L (.int v :: .ref o :: st) := by
  have hg : shW sh S o = .inr (ci, shF fl (S o)) := by unfold shW; rw [hsh]; rfl
  refine VS.putf ci d hu ty0 hty hnm hc ho k hg hk hlink hsame hfin (fun _ => hn) (fun _ => hfit) ?_ (VS.heap (fun q _ => shW_up ?_ q) kk)
  · have := (List.getElem?_eq_some_iff.mp hf).1
    simpa [shF] using this
  · rw [shF_set hf, hsh]; rfl
theorem VS.siald {o N : Nat} {j : Int32} (k : Nat) (d : decode cc pc = .ok (.iaload, 1)) (ho : o < n) (hsh : sh o = .inr (.inl (1, N))) (hj : j = nI k) (hk : k < N) (hN : N < 2000) (kk : VS l R own cc nL X cl sl n (shW sh S) (pc + 1) L (.int (S o k) :: st)) : VS l R own cc nL X cl sl n (shW sh S) pc L (.int j :: .ref o :: st) := by
  subst hj
  exact VS.iald d ho (show shW sh S o = .inl (1, N, .inl (S o)) by unfold shW; rw [hsh]; rfl) (vp_in_nI hk (by omega)) (by rw [nI_clamp (by omega)]; exact kk)
theorem VS.scald {o N : Nat} {j : Int32} (k : Nat) (d : decode cc pc = .ok (.caload, 1)) (ho : o < n) (hsh : sh o = .inr (.inl (0, N))) (hj : j = nI k) (hk : k < N) (hN : N < 2000) (kk : VS l R own cc nL X cl sl n (shW sh S) (pc + 1) L (.int (S o k) :: st)) : VS l R own cc nL X cl sl n (shW sh S) pc L (.int j :: .ref o :: st) := by
  subst hj
  exact VS.cald d ho (show shW sh S o = .inl (0, N, .inl (S o)) by unfold shW; rw [hsh]; rfl) (vp_in_nI hk (by omega)) (by rw [nI_clamp (by omega)]; exact kk)
theorem VS.siast {o N : Nat} {j z : Int32} (k : Nat) (d : decode cc pc = .ok (.iastore, 1)) (ho : o < n) (hsh : sh o = .inr (.inl (1, N))) (hj : j = nI k) (hk : k < N) (hN : N < 2000) (kk : VS l R own cc nL X cl sl n (shW sh (up2 S o k z)) (pc + 1) L st) : VS l R own cc nL X cl sl n (shW sh S) pc L (.int z :: .int j :: .ref o :: st) := by
  subst hj
  exact VS.iast d ho (show shW sh S o = .inl (1, N, .inl (S o)) by unfold shW; rw [hsh]; rfl) (vp_in_nI hk (by omega)) (VS.heap (fun q _ => shW_up (by rw [hsh, nI_clamp (by omega)]; rfl) q) kk)
theorem VS.scast {o N : Nat} {j z : Int32} (k : Nat) (d : decode cc pc = .ok (.castore, 1)) (ho : o < n) (hsh : sh o = .inr (.inl (0, N))) (hj : j = nI k) (hk : k < N) (hN : N < 2000) (kk : VS l R own cc nL X cl sl n (shW sh (up2 S o k (vp_nar .char z))) (pc + 1) L st) : VS l R own cc nL X cl sl n (shW sh S) pc L (.int z :: .int j :: .ref o :: st) := by
  subst hj
  exact VS.cast d ho (show shW sh S o = .inl (0, N, .inl (S o)) by unfold shW; rw [hsh]; rfl) (vp_in_nI hk (by omega)) (VS.heap (fun q _ => shW_up (by rw [hsh, nI_clamp (by omega)]; rfl) q) kk)
theorem VS.salen {o t N : Nat} {v : Int32} (ty : FieldType) (d : decode cc pc = .ok (.arraylength, 1)) (ho : o < n) (hsh : sh o = .inr (.inl (t, N))) (ht : ∀ cy : Nat → ClassId, (tysA cy)[t]? = some (cy t, ty)) (hv : Int32.ofNat N = v) (kk : VS l R own cc nL X cl sl n (shW sh S) (pc + 1) L (.int v :: st)) : VS l R own cc nL X cl sl n (shW sh S) pc L (.ref o :: st) :=
  VS.alen (t := t) (N := N) (y := .inl (S o)) ty d ho (by unfold shW; rw [hsh]; rfl) ht hv kk
theorem VS.stt {S2 : SS} (h : S = S2) (kk : VS l R own cc nL X cl sl n (shW sh S2) pc L st) : VS l R own cc nL X cl sl n (shW sh S) pc L st := h ▸ kk
end ST
/-! renaming of shapes -/
def shR (ρ : Nat → Nat) (h : Shp) : Shp := match h with
  | .inl (ci, fl) => .inl (ci, fl.map (Option.map ρ))
  | .inr (.inl z) => .inr (.inl z)
  | .inr (.inr (N, f)) => .inr (.inr (N, fun i => (f i).map ρ))
theorem shC_R (ρ : Nat → Nat) (h : Shp) (v : Nat → Int32) : shC (shR ρ h) v = rE ρ (shC h v) := by
  rcases h with ⟨ci, fl⟩ | z | ⟨N, f⟩
  · show (Sum.inr (ci, shF (fl.map (Option.map ρ)) v) : va_E) = Sum.inr (ci, (shF fl v).map (cV ρ))
    congr 2
    apply List.ext_getElem?
    intro j
    simp only [shF, List.getElem?_map, List.getElem?_mapIdx]
    cases fl[j]? with
    | none => rfl
    | some o => cases o <;> rfl
  · rfl
  · rfl
/-- the numbers S2 of the first n1 cells, renamed, over S -/
def mg (ρ : Nat → Nat) (n1 : Nat) (S2 S : SS) : SS := fun k => match (List.range n1).find? (fun i => ρ i == k) with
  | some i => S2 i
  | none => S k
def ShI (ρ : Nat → Nat) (n1 : Nat) (sh1 : Nat → Shp) (n : Nat) (sh : Nat → Shp) : Prop := (∀ i, i < n1 → ρ i < n) ∧ (∀ i j, i < n1 → j < n1 → ρ i = ρ j → i = j) ∧ ∀ i, i < n1 → sh (ρ i) = shR ρ (sh1 i)
theorem ShI.toFrm {ρ : Nat → Nat} {n1 : Nat} {sh1 : Nat → Shp} {n : Nat} {sh : Nat → Shp} (h : ShI ρ n1 sh1 n sh) (S : SS) : Frm ρ n1 (shW sh1 (fun i => S (ρ i))) n (shW sh S) := by
  refine ⟨h.1, h.2.1, fun i hi => ?_⟩
  unfold shW
  rw [h.2.2 i hi, shC_R]
theorem ShI.out {ρ : Nat → Nat} {n1 : Nat} {sh1 : Nat → Shp} {n : Nat} {sh : Nat → Shp} (h : ShI ρ n1 sh1 n sh) (S S2 : SS) (k : Nat) : frm ρ n1 (shW sh1 S2) (shW sh S) k = shW sh (mg ρ n1 S2 S) k := by
  unfold frm shW mg
  cases hf : (List.range n1).find? (fun j => ρ j == k) with
  | none => rfl
  | some j =>
    have h1 := List.find?_some hf
    have h2 := List.mem_range.mp (List.mem_of_find?_eq_some hf)
    have h3 : ρ j = k := by simpa using h1
    show rE ρ (shC (sh1 j) (S2 j)) = shC (sh k) (S2 j)
    rw [← h3, h.2.2 j h2, shC_R]
theorem mg_in {ρ : Nat → Nat} {n1 : Nat} {S2 S : SS} (hi : ∀ i j, i < n1 → j < n1 → ρ i = ρ j → i = j) {i : Nat} (h : i < n1) : mg ρ n1 S2 S (ρ i) = S2 i := by
  unfold mg
  cases hf : (List.range n1).find? (fun j => ρ j == ρ i) with
  | none =>
    have h1 := List.find?_eq_none.mp hf i (List.mem_range.mpr h)
    simp at h1
  | some j =>
    have h1 := List.find?_some hf
    have h2 := List.mem_range.mp (List.mem_of_find?_eq_some hf)
    have h3 : ρ j = ρ i := by simpa using h1
    rw [hi j i h2 h h3]
theorem mg_out {ρ : Nat → Nat} {n1 : Nat} {S2 S : SS} {k : Nat} (h : ∀ i, i < n1 → ρ i ≠ k) : mg ρ n1 S2 S k = S k := by
  unfold mg
  cases hf : (List.range n1).find? (fun j => ρ j == k) with
  | none => rfl
  | some j =>
    have h1 := List.find?_some hf
    have h2 := List.mem_range.mp (List.mem_of_find?_eq_some hf)
    exact absurd (by simpa using h1) (h j h2)
theorem rE_id (e : va_E) : rE (fun i => i) e = e := by
  have hv : ∀ v : Value, cV (fun i => i) v = v := fun v => by cases v <;> rfl
  rcases e with ⟨t, n, y⟩ | ⟨ci, fs⟩
  · rcases y with y | y | y | y | y <;> try rfl
    show (Sum.inl (t, n, _) : va_E) = Sum.inl (t, n, _)
    simp
  · show (Sum.inr (ci, _) : va_E) = Sum.inr (ci, _)
    congr 2
    exact (List.map_congr_left fun v _ => hv v).trans (List.map_id fs)
theorem Frm.id {n : Nat} {g : Nat → va_E} : Frm (fun i => i) n g n g := ⟨fun _ h => h, fun _ _ _ _ h => h, fun _ _ => (rE_id _).symm⟩
theorem Frm.zero {n : Nat} {g1 g : Nat → va_E} : Frm (fun i => i) 0 g1 n g := ⟨fun _ h => absurd h (Nat.not_lt_zero _), fun _ _ h => absurd h (Nat.not_lt_zero _), fun _ h => absurd h (Nat.not_lt_zero _)⟩
theorem frm_id {n k : Nat} {g1 g : Nat → va_E} (h : k < n) : frm (fun i => i) n g1 g k = g1 k := by
  have := frm_in (ρ := fun i => i) (n1 := n) (g1 := g1) (g := g) (fun _ _ _ _ h => h) h
  rw [this, rE_id]
def gz : Nat → va_E := fun _ => .inr (0, [])
/-- contracts over shapes -/
abbrev CtS (l : Launch) (y : MethodName) (cc : ByteArray) (nL : Nat) (ret : Option FieldType) (rm : Room) (as : List Value) (n : Nat) (sh : Nat → Shp) (S : SS) (r : Option Value) (S2 : SS) : Prop := CtF l y cc nL ret rm as n (shW sh S) r (shW sh S2)
/-- a static method of numbers -/
abbrev CtN (l : Launch) (y : MethodName) (cc : ByteArray) (nL : Nat) (ret : Option FieldType) (rm : Room) (as : List Value) (v : Int32) : Prop := CtF l y cc nL ret rm as 0 gz (some (.int v)) gz
def RmOk (rm1 : Room) (nL1 : Nat) (R : Room) (cl sl : Nat) : Prop := (rm1.frames + 1 ≤ R.frames ∧ 8 + (nL1 + 11) + rm1.locals ≤ R.locals) ∧ (rm1.cells = 0 ∧ rm1.slots = 0) ∧ cl ≤ R.cells ∧ sl ≤ R.slots
section CALLT
variable {l : Launch} {R : Room} {own : String} {cc : ByteArray} {nL : Nat} {X : XT} {cl sl n : Nat} {g : Nat → va_E} {pc : Nat} {L : List (Option Value)} {st stk : List Value} {sh sh1 : Nat → Shp} {S S2 : SS}
variable {y : MethodName} {cc1 : ByteArray} {nL1 n1 index : Nat} {ret1 : Option FieldType} {rm1 : Room} {as : List Value} {r : Option Value}
/-- a static method of numbers -/
theorem VS.callN {v : Int32} (hC : CtN l y cc1 nL1 ret1 rm1 as v) (d : decode cc pc = .ok (.invokestatic index, 3)) (hm : MI y cc1 nL1 ret1 as.length) (hst : Cond.static y ∈ TB) (hml : Cond.methodLink own index y ∈ TB) (hR : RmOk rm1 nL1 R cl sl) (hst8 : (st.map fun v => v.category).sum ≤ 8) (hk : stk = (as.map (cV (fun i => i))).reverse ++ st)
    (kk : VS l R own cc nL X cl sl n g (pc + 3) L (.int v :: st)) : VS l R own cc nL X cl sl n g pc L stk :=
  VS.callS (fun i => i) hC d Frm.zero hm hst hml hR hst8 hk kk
theorem VS.callNN {v : Int32} (host : String) (hC : CtN l y cc1 nL1 ret1 rm1 as v) (d : decode cc pc = .ok (.invokestatic index, 3)) (hm : MI y cc1 nL1 ret1 as.length) (hst : Cond.static y ∈ TB) (hml : Cond.methodLinkNest own index y host ∈ nestW) (hR : RmOk rm1 nL1 R cl sl) (hst8 : (st.map fun v => v.category).sum ≤ 8) (hk : stk = (as.map (cV (fun i => i))).reverse ++ st)
    (kk : VS l R own cc nL X cl sl n g (pc + 3) L (.int v :: st)) : VS l R own cc nL X cl sl n g pc L stk :=
  VS.callSN (fun i => i) host hC d Frm.zero hm hst hml hR hst8 hk kk
/-- a method on the same cells -/
theorem VS.callT {o ci N : Nat} {T : u_T} {fl : List (Option Nat)} {as1 : List Value} (hC : CtS l y cc1 nL1 ret1 rm1 (.ref o :: as1) n sh S r S2) (d : decode cc pc = .ok (.invokevirtual index, 3)) (hm : MI y cc1 nL1 ret1 as1.length) (him : Cond.instanceMethod y ∈ TB) (hse : Cond.selects y.cls y y ∈ TB) (hml : Cond.methodLink own index y ∈ TB)
    (ho : o < n) (hsh : sh o = .inl (ci, fl)) (hc : vwCl[ci]? = some (y.cls, T, N)) (hR : RmOk rm1 nL1 R cl sl) (hst8 : (st.map fun v => v.category).sum ≤ 8) (hk : stk = (as1.map (cV (fun i => i))).reverse ++ .ref o :: st)
    (kk : VS l R own cc nL X cl sl n (shW sh S2) (pc + 3) L ((r.map (cV (fun i => i))).toList ++ st)) : VS l R own cc nL X cl sl n (shW sh S) pc L stk :=
  VS.callV (fun i => i) hC d Frm.id hm him hse hml ho (show shW sh S o = .inr (ci, shF fl (S o)) by unfold shW; rw [hsh]; rfl) hc hR hst8 hk (VS.heap (fun _ h => frm_id h) kk)
/-- a method on some of the cells -/
theorem VS.callR {o ci N : Nat} {T : u_T} {fl : List (Option Nat)} {as1 : List Value} (ρ : Nat → Nat) (hI : ShI ρ n1 sh1 n sh) (hC : CtS l y cc1 nL1 ret1 rm1 (.ref o :: as1) n1 sh1 (fun i => S (ρ i)) r S2) (d : decode cc pc = .ok (.invokevirtual index, 3)) (hm : MI y cc1 nL1 ret1 as1.length) (him : Cond.instanceMethod y ∈ TB) (hse : Cond.selects y.cls y y ∈ TB) (hml : Cond.methodLink own index y ∈ TB)
    (ho : o < n1) (hsh : sh1 o = .inl (ci, fl)) (hc : vwCl[ci]? = some (y.cls, T, N)) (hR : RmOk rm1 nL1 R cl sl) (hst8 : (st.map fun v => v.category).sum ≤ 8) (hk : stk = (as1.map (cV ρ)).reverse ++ .ref (ρ o) :: st)
    (kk : VS l R own cc nL X cl sl n (shW sh (mg ρ n1 S2 S)) (pc + 3) L ((r.map (cV ρ)).toList ++ st)) : VS l R own cc nL X cl sl n (shW sh S) pc L stk :=
  VS.callV ρ hC d (hI.toFrm S) hm him hse hml ho (show shW sh1 _ o = .inr (ci, shF fl _) by unfold shW; rw [hsh]; rfl) hc hR hst8 hk (VS.heap (fun k _ => hI.out S S2 k) kk)
end CALLT
