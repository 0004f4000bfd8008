/-! worlds whose references stay within -/
def Clo (n : Nat) (g : Nat → va_E) : Prop := ∀ k, k < n → ltE n (g k)
def VC (l : Launch) (R : Room) (own : String) (cc : ByteArray) (nL : Nat) (X : XT) (cl sl n : Nat) (g : Nat → va_E) (pc : Nat) (L : List (Option Value)) (st : List Value) : Prop := Clo n g → VS l R own cc nL X cl sl n g pc L st
def rfLt (n : Nat) (fs : List Value) : Bool := fs.all (fun v => match v with
  | .ref r => decide (r < n)
  | _ => true)
theorem ltE_o {n ci : Nat} {fs : List Value} (h : rfLt n fs = true) : ltE n (.inr (ci, fs)) := fun r hr => by
  have := List.all_eq_true.mp h _ hr
  simpa using this
theorem ltE_mono {n n' : Nat} {e : va_E} (hn : n ≤ n') (h : ltE n e) : ltE n' e := by
  rcases e with ⟨t, N, y⟩ | ⟨ci, fs⟩
  · rcases y with y | y | y | y | y
    · trivial
    · trivial
    · trivial
    · trivial
    · exact fun i r hr => Nat.lt_of_lt_of_le (h i r hr) hn
  · exact fun r hr => Nat.lt_of_lt_of_le (h r hr) hn
theorem ltE_okE {n : Nat} {e : va_E} (h : ltE n e) : okE n e := by
  rcases e with ⟨t, N, y⟩ | ⟨ci, fs⟩
  · rcases y with y | y | y | y | y
    · trivial
    · trivial
    · trivial
    · trivial
    · exact fun i hi => absurd (h i n hi) (Nat.lt_irrefl n)
  · refine List.all_eq_true.mpr fun v hv => ?_
    cases v <;> try rfl
    rename_i r
    have := h r hv
    exact bne_iff_ne.mpr (Nat.ne_of_lt this)
theorem ltE_okW {o : Nat} {e : va_E} (h : ltE (o + 1) e) : okWE o e := by
  rcases e with ⟨t, N, y⟩ | ⟨ci, fs⟩
  · rcases y with y | y | y | y | y
    · trivial
    · trivial
    · trivial
    · trivial
    · exact fun i r hi => Nat.le_of_lt_succ (h i r hi)
  · refine List.all_eq_true.mpr fun v hv => ?_
    cases v <;> try rfl
    rename_i r
    have := h r hv
    show (decide (r ≤ o) || decide (200 ≤ r)) = true
    rw [decide_eq_true (Nat.le_of_lt_succ this)]; rfl
theorem Clo.up {n o : Nat} {g : Nat → va_E} {e : va_E} (h : Clo n g) (he : ltE n e) : Clo n (va_up g o e) := fun k hk => by
  unfold va_up; split
  · exact he
  · exact h k hk
theorem Clo.new {n : Nat} {g : Nat → va_E} {e : va_E} (h : Clo n g) (he : ltE (n + 1) e) : Clo (n + 1) (va_up g n e) := fun k hk => by
  unfold va_up; split
  · exact he
  · exact ltE_mono (Nat.le_succ n) (h k (by omega))
theorem ltE_rE {n o : Nat} {e : va_E} (h : ltE n e) : ltE (o + n) (rE (fun i => o + i) e) := by
  rcases e with ⟨t, N, y⟩ | ⟨ci, fs⟩
  · rcases y with y | y | y | y | y
    · trivial
    · trivial
    · trivial
    · trivial
    · intro i r hr
      have hr2 : (y i).map (fun i => o + i) = some r := hr
      cases hy : y i with
      | none => rw [hy] at hr2; cases hr2
      | some q =>
        rw [hy] at hr2
        have : o + q = r := Option.some.inj hr2
        have := h i q hy
        omega
  · intro r hr
    have hr2 : Value.ref r ∈ fs.map (cV (fun i => o + i)) := hr
    obtain ⟨v, hv, e⟩ := List.mem_map.mp hr2
    cases v <;> try cases e
    rename_i q
    have := h q hv
    exact Nat.add_lt_add_left this o
theorem Clo.join {o n2 : Nat} {g g2 : Nat → va_E} (h : Clo (o + 1) g) (h2 : Clo n2 g2) (hn : 0 < n2) : Clo (o + n2) (joinG g o g2) := fun k hk => by
  unfold joinG; split
  · exact ltE_mono (by omega) (h k (by omega))
  · exact ltE_rE (h2 (k - o) (by omega))
def rmC (k mc ms : Nat) : Room := { frames := k, cells := mc, slots := ms, locals := 32 * k }
theorem rmI {j k nL mc ms mc' ms' cl sl : Nat} (h : j < k) (hn : nL ≤ 13) (h1 : cl + mc ≤ mc') (h2 : sl + ms ≤ ms') : RmI (rmC j mc ms) nL mc ms (rmC k mc' ms') cl sl := ⟨⟨h, by show 8 + (nL + 11) + 32 * j ≤ 32 * k; omega⟩, ⟨rfl, rfl⟩, h1, h2⟩
section
variable {l : Launch} {R : Room} {own : String} {cc : ByteArray} {nL : Nat} {X : XT} {cl sl n : Nat} {g : Nat → va_E} {pc : Nat} {L : List (Option Value)} {st : List Value}
theorem VC.lift {pc' : Nat} {L' : List (Option Value)} {st' : List Value} {cl' sl' : Nat} (f : VS l R own cc nL X cl' sl' n g pc' L' st' → VS l R own cc nL X cl sl n g pc L st) (kk : VC l R own cc nL X cl' sl' n g pc' L' st') : VC l R own cc nL X cl sl n g pc L st := fun hc => f (kk hc)
theorem VC.drop (kk : VS l R own cc nL X cl sl n g pc L st) : VC l R own cc nL X cl sl n g pc L st := fun _ => kk
theorem VS.oi {index a : Nat} (d : decode cc pc = .ok (.invokespecial index, 3)) (hml : Cond.methodLink own index objectInit ∈ TB) (hR : 1 ≤ R.frames ∧ 20 ≤ R.locals) (hst : (st.map fun v => v.category).sum ≤ 8) (kk : VS l R own cc nL X cl sl n g (pc + 3) L st) : VS l R own cc nL X cl sl n g pc L (.ref a :: st) := by
  intro p e s m args below meth c D cy A ad Q H locs ls C0 x i ha hP hS hl
  have hts := C0.2.2.2.2.1
  have hr : 2 * (F0 m pc ls (.ref (ad a) :: st.map (cV ad))).monitorRoom + ((st.map (cV ad)).map fun v => v.category).sum ≤ 8 := lv_room (by rw [cV_cats]; exact hst)
  exact W.objInit C0.1 C0.2.1 C0.2.2.2.1 (hts _ hml) (hts _ im_obj) (hts _ cd_obj) rfl (hl.1.trans C0.2.2.1.symm) rfl d hR.1 (by have h2 := hR.2; show 2 * (F0 m pc ls (.ref (ad a) :: st.map (cV ad))).monitorRoom + ((st.map (cV ad)).map fun v => v.category).sum + 12 ≤ R.locals; omega) (kk p e s m args below meth c D cy A ad Q H locs ls C0 x i ha hP hS hl)
theorem VC.putF {o : Nat} {ref C : String} {T : u_T} {N index : Nat} {v : Value} (ci : Nat) (fs : List Value) (d : decode cc pc = .ok (.putfield index, 3)) (hu : ∀ w ∈ u_ws C T N, w ∈ TB) (ty0 : Nat → FieldType) (hty : ∀ k, k < N → parseFieldDescriptor (T k).2.2.1 = some (ty0 k)) (hnm : ∀ a, a < N → ∀ b, b < N → a ≠ b → (T a).2.1 ≠ (T b).2.1) (hc : vwCl[ci]? = some (C, T, N)) (ho : o < n) (k : Nat) (hg : g o = .inr (ci, fs)) (hk : k < N) (hlink : (Cond.fieldLink own index ref (T k).2.1 (T k).2.2.1) ∈ TB) (hsame : (T k).1 = ref) (hfin : (T k).2.2.2 = true) (hX : ∀ s args below meth D cy A ad Q, X s args below meth D cy A ad Q → meth.name = "<init>") (hown : (T k).1 = own) (hn : ∀ ad : Nat → Nat, narrow (ty0 k) (cV ad v) = cV ad v) (hfit : ∀ ad : Nat → Nat, fits (ty0 k) (cV ad v) = true) (hl0 : k < fs.length) (hlt : rfLt n (fs.set k v) = true) (kk : VC l R own cc nL X cl sl n (va_up g o (.inr (ci, fs.set k v))) (pc + 3) L st) : VC l R own cc nL X cl sl n g pc L (v :: .ref o :: st) := fun hcl => VS.putF ci d hu ty0 hty hnm hc ho k hg hk hlink hsame hfin hX hown hn hfit hl0 (kk (hcl.up (ltE_o hlt)))
theorem VC.putf {o : Nat} {ref C : String} {T : u_T} {N index : Nat} {v : Value} (ci : Nat) (fs : List Value) (d : decode cc pc = .ok (.putfield index, 3)) (hu : ∀ w ∈ u_ws C T N, w ∈ TB) (ty0 : Nat → FieldType) (hty : ∀ k, k < N → parseFieldDescriptor (T k).2.2.1 = some (ty0 k)) (hnm : ∀ a, a < N → ∀ b, b < N → a ≠ b → (T a).2.1 ≠ (T b).2.1) (hc : vwCl[ci]? = some (C, T, N)) (ho : o < n) (k : Nat) (hg : g o = .inr (ci, fs)) (hk : k < N) (hlink : (Cond.fieldLink own index ref (T k).2.1 (T k).2.2.1) ∈ TB) (hsame : (T k).1 = ref) (hfin : (T k).2.2.2 = false) (hn : ∀ ad : Nat → Nat, narrow (ty0 k) (cV ad v) = cV ad v) (hfit : ∀ ad : Nat → Nat, fits (ty0 k) (cV ad v) = true) (hl0 : k < fs.length) (hlt : rfLt n (fs.set k v) = true) (kk : VC l R own cc nL X cl sl n (va_up g o (.inr (ci, fs.set k v))) (pc + 3) L st) : VC l R own cc nL X cl sl n g pc L (v :: .ref o :: st) := fun hcl => VS.putf ci d hu ty0 hty hnm hc ho k hg hk hlink hsame hfin hn hfit hl0 (kk (hcl.up (ltE_o hlt)))
theorem VC.new {C : String} {T : u_T} {N index : Nat} (ci : Nat) (fs : List Value) (d : decode cc pc = .ok (.new index, 3)) (hu : ∀ w ∈ u_ws C T N, w ∈ TB) (ty0 : Nat → FieldType) (hty : ∀ k, k < N → parseFieldDescriptor (T k).2.2.1 = some (ty0 k)) (hc : vwCl[ci]? = some (C, T, N)) (hcl : Cond.classLink own index C ∈ TB) (hinst : Cond.instantiable C N ∈ TB) (hini : Cond.initialized C ∈ TB) (hfs : ∀ j, j < N → defaultValue (ty0 j) = vp_V fs j) (hf0 : fs.all (fun v => match v with
    | .ref _ => false
    | _ => true) = true) (hX : Xg X n) (h84 : n < 200) (hN : Xnew X) (hR : cl + 1 ≤ R.cells ∧ sl + N ≤ R.slots) (hL : okL n L = true) (hst : st.all (okV n) = true)
    (kk : VC l R own cc nL X (cl + 1) (sl + N) (n + 1) (va_up g n (.inr (ci, fs))) (pc + 3) L (.ref n :: st)) : VC l R own cc nL X cl sl n g pc L st := fun hc2 => VS.new ci fs d hu ty0 hty hc hcl hinst hini hfs hf0 (hX.up h84) hN hR (fun k hk => ltE_okE (hc2 k hk)) hL hst (kk (hc2.new (ltE_o (List.all_eq_true.mpr fun v hv => by
      have := List.all_eq_true.mp hf0 v hv
      cases v <;> first | rfl | exact absurd this Bool.false_ne_true))))
theorem VC.newa {atype : ArrayType} (t N : Nat) (ty : FieldType) (z : Int32) (d : decode cc pc = .ok (.newarray atype, 2)) (harr : Cond.arrayClass (newarray.typeOf atype) ∈ TB) (hty : newarray.typeOf atype = ty) (hd : defaultValue ty = .int 0) (ht : ∀ cy : Nat → ClassId, (tysA cy)[t]? = some (cy t, ty)) (hz : z = nI N) (hN2 : N < 2000) (hb : N * componentBytes ty ≤ 536870912) (hX : Xg X n) (h84 : n < 200) (hN : Xnew X) (hR : cl + 1 ≤ R.cells ∧ sl + N ≤ R.slots) (hL : okL n L = true) (hst : st.all (okV n) = true)
    (kk : VC l R own cc nL X (cl + 1) (sl + N) (n + 1) (va_up g n (.inl (t, N, .inl (fun _ => 0)))) (pc + 2) L (.ref n :: st)) : VC l R own cc nL X cl sl n g pc L (.int z :: st) := fun hc2 => VS.newa t N ty z d harr hty hd ht hz hN2 hb (hX.up h84) hN hR (fun k hk => ltE_okE (hc2 k hk)) hL hst (kk (hc2.new trivial))
theorem VC.anewa {index : Nat} (N : Nat) (z : Int32) (d : decode cc pc = .ok (.anewarray index, 3)) (hcl : Cond.classLink own index RX0 ∈ TB) (hz : z = nI N) (hN2 : N < 2000) (hX : Xg X n) (h84 : n < 200) (hN : Xnew X) (hR : cl + 1 ≤ R.cells ∧ sl + N ≤ R.slots) (hL : okL n L = true) (hst : st.all (okV n) = true)
    (kk : VC l R own cc nL X (cl + 1) (sl + N) (n + 1) (va_up g n (.inl (3, N, .inr (.inr (.inr (.inr (fun _ => none))))))) (pc + 3) L (.ref n :: st)) : VC l R own cc nL X cl sl n g pc L (.int z :: st) := fun hc2 => VS.anewa N z d hcl hz hN2 (hX.up h84) hN hR (fun k hk => ltE_okE (hc2 k hk)) hL hst (kk (hc2.new (fun i r hr => by cases hr)))
variable {o : Nat} {y : MethodName} {cc1 : ByteArray} {nL1 n2 index mc ms : Nat} {rm1 : Room} {e0 : va_E} {g2 : Nat → va_E}
theorem VC.callI (hC : CtI l y cc1 nL1 rm1 e0 n2 g2 mc ms) (d : decode cc pc = .ok (.invokespecial index, 3)) (hm : MI y cc1 nL1 none 0) (hnm : y.name = "<init>") (him : Cond.instanceMethod y ∈ TB) (hml : Cond.methodLink own index y ∈ TB) (hR : RmI rm1 nL1 mc ms R cl sl) (hst8 : (st.map fun v => v.category).sum ≤ 8) (hge : g o = e0) (he0 : ∀ (cy : Nat → ClassId) (ad ad' : Nat → Nat), cE cy ad e0 = cE cy ad' e0)
    (hX : Xg X (o + 1)) (hN : Xnew X) (h84 : o + n2 ≤ 200) (hn2 : 0 < n2) (hg2 : Clo n2 g2) (hL : okWL o L = true) (hst : st.all (okW o) = true)
    (kk : VC l R own cc nL X (cl + mc) (sl + ms) (o + n2) (joinG g o g2) (pc + 3) L st) : VC l R own cc nL X cl sl (o + 1) g pc L (.ref o :: st) := fun hc => VS.callI hC d hm hnm him hml hR hst8 hge he0 hX hN h84 hn2 (fun k hk => ltE_okW (hc k (by omega))) hg2 hL hst (kk (hc.join hg2 hn2))
theorem VC.callIN (host : String) (hC : CtI l y cc1 nL1 rm1 e0 n2 g2 mc ms) (d : decode cc pc = .ok (.invokespecial index, 3)) (hm : MI y cc1 nL1 none 0) (hnm : y.name = "<init>") (him : Cond.instanceMethod y ∈ TB) (hml : Cond.methodLinkNest own index y host ∈ nestW) (hR : RmI rm1 nL1 mc ms R cl sl) (hst8 : (st.map fun v => v.category).sum ≤ 8) (hge : g o = e0) (he0 : ∀ (cy : Nat → ClassId) (ad ad' : Nat → Nat), cE cy ad e0 = cE cy ad' e0)
    (hX : Xg X (o + 1)) (hN : Xnew X) (h84 : o + n2 ≤ 200) (hn2 : 0 < n2) (hg2 : Clo n2 g2) (hL : okWL o L = true) (hst : st.all (okW o) = true)
    (kk : VC l R own cc nL X (cl + mc) (sl + ms) (o + n2) (joinG g o g2) (pc + 3) L st) : VC l R own cc nL X cl sl (o + 1) g pc L (.ref o :: st) := fun hc => VS.callIN host hC d hm hnm him hml hR hst8 hge he0 hX hN h84 hn2 (fun k hk => ltE_okW (hc k (by omega))) hg2 hL hst (kk (hc.join hg2 hn2))
end
def fsX4 : List Value := [.int 0, .int 0, .int 0, .int 0, .int 0, .int 0, .int 0]
def fsX2 : List Value := [.null, .int 0]
def fsX5 : List Value := [.null, .int 0]
def fsX3 : List Value := [.null, .int 0, .int 0]
def fsX6 : List Value := [.null, .null, .null, .null, .null]
def fsX0 : List Value := [.null, .int 0, .int 0, .int 0, .int 0, .int 0, .int 0, .int 0, .null, .null, .null, .null, .null, .int 0]
