/-! An abstract machine over the kit's rows: cells have numbers (0, 1, ..), references in cells, locals and on the stack are such numbers; 'ad' gives each number its address. -/
def cV (ad : Nat → Nat) (v : Value) : Value := match v with
  | .ref k => .ref (ad k)
  | v => v
def cA (cy : Nat → ClassId) (ad : Nat → Nat) (t : Nat) (x : vp_A) : ClassId × vp_A := match x with
  | (n, .inr (.inr (.inr (.inr f)))) => (cy t, n, .inr (.inr (.inr (.inr (fun i => (f i).map ad)))))
  | (n, y) => (cy t, n, y)
def cE (cy : Nat → ClassId) (ad : Nat → Nat) (e : va_E) : va_E := match e with
  | .inr o => .inr (o.1, o.2.map (cV ad))
  | .inl a => .inl (cA cy ad a.1 a.2)
theorem cV_cat (ad : Nat → Nat) (v : Value) : (cV ad v).category = v.category := by cases v <;> rfl
theorem cV_cats (ad : Nat → Nat) (st : List Value) : ((st.map (cV ad)).map fun v => v.category) = st.map fun v => v.category := by
  rw [List.map_map]
  exact List.map_congr_left fun v _ => cV_cat ad v
theorem cV_comp (ad ρ : Nat → Nat) (v : Value) : cV ad (cV ρ v) = cV (fun i => ad (ρ i)) v := by cases v <;> rfl
/-- the cells 0 .. n-1 -/
def wd (cy : Nat → ClassId) (ad : Nat → Nat) (n : Nat) (g : Nat → va_E) : va_W := (List.range n).map (fun k => (ad k, cE cy ad (g k)))
theorem wd_at {cy : Nat → ClassId} {ad : Nat → Nat} {n : Nat} {g : Nat → va_E} {k : Nat} (h : k < n) : (wd cy ad n g)[k]? = some (ad k, cE cy ad (g k)) := by
  simp [wd, List.getElem?_map, List.getElem?_range h]
theorem wd_inv {cy : Nat → ClassId} {ad : Nat → Nat} {n : Nat} {g : Nat → va_E} {k : Nat} {q : Nat × va_E} (h : (wd cy ad n g)[k]? = some q) : k < n ∧ q = (ad k, cE cy ad (g k)) := by
  have hk : k < n := by
    have h1 := (List.getElem?_eq_some_iff.mp h).1
    simpa [wd] using h1
  rw [wd_at hk] at h
  exact ⟨hk, (Option.some.inj h).symm⟩
theorem wd_len (cy : Nat → ClassId) (ad : Nat → Nat) (n : Nat) (g : Nat → va_E) : (wd cy ad n g).length = n := by simp [wd]
theorem wd_set {cy : Nat → ClassId} {ad : Nat → Nat} {n : Nat} {g : Nat → va_E} {k : Nat} {e : va_E} (h : k < n) : (wd cy ad n g).set k (ad k, cE cy ad e) = wd cy ad n (va_up g k e) := by
  apply List.ext_getElem?
  intro j
  by_cases hj : j < n
  · by_cases hjk : j = k
    · subst hjk
      rw [List.getElem?_set_self (by rw [wd_len]; exact h), wd_at h, va_up_self]
    · rw [List.getElem?_set_ne (Ne.symm hjk), wd_at hj, wd_at hj, va_up_ne _ _ hjk]
  · rw [List.getElem?_eq_none (by rw [List.length_set, wd_len]; omega), List.getElem?_eq_none (by rw [wd_len]; omega)]
def aI (ad : Nat → Nat) (n : Nat) : Prop := ∀ i j : Nat, i < n → j < n → ad i = ad j → i = j
theorem wd_D {cy : Nat → ClassId} {ad : Nat → Nat} {n : Nat} {g : Nat → va_E} {A : Nat → Prop} (hI : aI ad n) (hA : ∀ k : Nat, k < n → A (ad k)) : va_D A (wd cy ad n g) := by
  refine ⟨fun i j p q hi hj h => ?_, fun k q hk => ?_⟩
  · obtain ⟨a1, a2⟩ := wd_inv hi
    obtain ⟨b1, b2⟩ := wd_inv hj
    subst a2; subst b2
    exact hI i j a1 b1 h
  · obtain ⟨a1, a2⟩ := wd_inv hk
    subst a2
    exact hA k a1
/-- the addresses of the cells 0 .. n-1 -/
def AA (ad : Nat → Nat) (n : Nat) : Nat → Prop := fun q => ∃ k : Nat, k < n ∧ q = ad k
/-- locals, by their numbers -/
def asL (ad : Nat → Nat) : Nat → List (Option Value) → List (Nat × Value)
  | _, [] => []
  | i, some v :: t => (i, cV ad v) :: asL ad (i + 1) t
  | i, none :: t => asL ad (i + 1) t
theorem asL_mem {ad : Nat → Nat} : ∀ (L : List (Option Value)) (j : Nat) (q : Nat × Value), q ∈ asL ad j L ↔ ∃ (i : Nat) (v : Value), L[i]? = some (some v) ∧ q = (j + i, cV ad v)
  | [], j, q => by simp [asL]
  | some w :: t, j, q => by
    rw [asL, List.mem_cons, asL_mem t (j + 1) q]
    constructor
    · rintro (h | ⟨i, v, h1, h2⟩)
      · exact ⟨0, w, rfl, h⟩
      · exact ⟨i + 1, v, h1, by rw [h2]; congr 1; omega⟩
    · rintro ⟨i, v, h1, h2⟩
      cases i with
      | zero => simp at h1; subst h1; exact Or.inl h2
      | succ i => exact Or.inr ⟨i, v, by simpa using h1, by rw [h2]; congr 1; omega⟩
  | none :: t, j, q => by
    rw [asL, asL_mem t (j + 1) q]
    constructor
    · rintro ⟨i, v, h1, h2⟩
      exact ⟨i + 1, v, h1, by rw [h2]; congr 1; omega⟩
    · rintro ⟨i, v, h1, h2⟩
      cases i with
      | zero => simp at h1
      | succ i => exact ⟨i, v, by simpa using h1, by rw [h2]; congr 1; omega⟩
theorem lget {ad : Nat → Nat} {ls : Array Slot} {nL : Nat} {L : List (Option Value)} (h : lv_has ls nL (asL ad 0 L)) {i : Nat} {v : Value} (hv : L[i]? = some (some v)) : ls[i]? = some (.val (cV ad v)) :=
  h.2.2 (i, cV ad v) ((asL_mem L 0 _).mpr ⟨i, v, hv, by simp⟩)
/-- no long stands ahead of the place -/
def okst (L : List (Option Value)) : Nat → Bool
  | 0 => true
  | i + 1 => match L[i]? with
    | some (some v) => v.category == 1
    | _ => true
theorem lsto {ad : Nat → Nat} {ls : Array Slot} {nL : Nat} {L : List (Option Value)} {i : Nat} {v : Value} (h : lv_has ls nL ((i, cV ad v) :: (asL ad 0 L).filter (fun q => !(q.1 == i) && !(q.1 + 1 == i && q.2.category == 2)))) (ho : okst L i = true) : lv_has ls nL (asL ad 0 (L.set i (some v))) := by
  refine ⟨h.1, h.2.1, fun q hq => h.2.2 q ?_⟩
  obtain ⟨j, w, h1, h2⟩ := (asL_mem _ 0 q).mp hq
  by_cases hji : j = i
  · subst hji
    have hlt : j < L.length := by
      have := (List.getElem?_eq_some_iff.mp h1).1
      simpa using this
    rw [List.getElem?_set_self hlt] at h1
    have hw : v = w := by simpa using h1
    subst hw
    rw [h2]
    simp
  · rw [List.getElem?_set_ne (Ne.symm hji)] at h1
    refine List.mem_cons_of_mem _ (List.mem_filter.mpr ⟨(asL_mem L 0 q).mpr ⟨j, w, h1, h2⟩, ?_⟩)
    rw [h2]
    have e1 : (0 + j == i) = false := by simpa using hji
    by_cases hj1 : j + 1 = i
    · subst hj1
      have hc : w.category = 1 := by
        have ho2 : (match L[j]? with
          | some (some v) => v.category == 1
          | _ => true) = true := ho
        rw [h1] at ho2
        simpa using ho2
      simp [cV_cat, hc]
    · have e2 : (0 + j + 1 == i) = false := by simpa using hj1
      simp only [e1, e2]
      simp
/-- the array classes: of chars, ints, booleans, games -/
def tysA (cy : Nat → ClassId) : List (ClassId × FieldType) := [(cy 0, .char), (cy 1, .int), (cy 2, .int), (cy 3, .object RX0)]
/-- a static array of ints that nobody writes -/
def SA (C n : String) (N : Nat) (f : Nat → Int32) (A : Nat → Prop) (U : State) (H : Heap) : Prop := ∃ t : Nat, va_Z C n "[I" (.ref t) A U H ∧ va_T .int t N (fun j => .int (f j)) A U H
theorem SA.moved {C n : String} {N : Nat} {f : Nat → Int32} {A : Nat → Prop} {u U : State} {H : Heap} (hvm : u.vm.Alike U.vm) (h : SA C n N f A u H) : SA C n N f A U H := by
  obtain ⟨t, h1, h2⟩ := h
  exact ⟨t, h1.moved hvm, h2.moved hvm⟩
theorem SA.kept {C n : String} {N : Nat} {f : Nat → Int32} {A : Nat → Prop} {U : State} {H H1 : Heap} (h : SA C n N f A U H) (hq : ∀ a : Nat, a < H.size → ¬ A a → H1[a]? = H[a]?) : SA C n N f A U H1 := by
  obtain ⟨t, h1, h2⟩ := h
  exact ⟨t, h1.kept hq, h2.kept hq⟩
theorem SA.narrow {C n : String} {N : Nat} {f : Nat → Int32} {A B : Nat → Prop} {U : State} {H : Heap} (h : SA C n N f A U H) (hAB : ∀ q, B q → A q) : SA C n N f B U H := by
  obtain ⟨t, h1, h2⟩ := h
  exact ⟨t, h1.narrow hAB, h2.narrow hAB⟩
def k_first (j : Nat) : Int32 := if j = 0 then 2 else if j = 1 then 5 else if j = 2 then 4 else 40
def k_least (j : Nat) : Int32 := if j = 0 then 0 else if j = 1 then 1 else if j = 2 then 0 else 1
def k_most (j : Nat) : Int32 := if j = 0 then 20 else if j = 1 then 50 else if j = 2 then 50 else 200
def k_at (j : Nat) : Int32 := if j = 0 then 127 else if j = 1 then 8065 else if j = 2 then 254082 else if j = 3 then 3940612 else if j = 4 then 29639176 else if j = 5 then 105415696 else if j = 6 then 177276960 else 220336192
def nestW : List Cond := [.methodLinkNest RX6 25 yX2_init RX6, .methodLinkNest RX6 32 yX5_init RX6, .methodLinkNest RX0 118 yX6_isPlayer RX6, .methodLinkNest RX0 171 yX6_isIn RX6, .methodLinkNest RX0 21 yX4_init RX6, .methodLinkNest RX0 43 yX6_copyRow RX6]
/-- what stays: the static arrays, the links between nest mates, the class of arrays of games -/
def EN (A : Nat → Prop) (U : State) (H : Heap) : Prop := (SA RX0 "FIRST_SETTINGS" 4 k_first A U H ∧ SA RX0 "LEAST_SETTINGS" 4 k_least A U H ∧ SA RX0 "MOST_SETTINGS" 4 k_most A U H ∧ SA RX1 "ROADS_AT" 8 k_at A U H) ∧ (∀ w ∈ nestW, va_Nw w U) ∧ va_AO RX0 U
theorem EN.kept {A : Nat → Prop} {U : State} {H H1 : Heap} (h : EN A U H) (hq : ∀ a : Nat, a < H.size → ¬ A a → H1[a]? = H[a]?) : EN A U H1 := ⟨⟨h.1.1.kept hq, h.1.2.1.kept hq, h.1.2.2.1.kept hq, h.1.2.2.2.kept hq⟩, h.2⟩
theorem EN.narrow {A B : Nat → Prop} {U : State} {H : Heap} (h : EN A U H) (hAB : ∀ q, B q → A q) : EN B U H := ⟨⟨h.1.1.narrow hAB, h.1.2.1.narrow hAB, h.1.2.2.1.narrow hAB, h.1.2.2.2.narrow hAB⟩, h.2⟩
theorem EN.warm {A : Nat → Prop} {s U : State} {H : Heap} (hW : s.WarmedH U.vm) (h : EN A s H) : EN A U H := by
  have hvm := hW.alike
  refine ⟨⟨h.1.1.moved hvm, h.1.2.1.moved hvm, h.1.2.2.1.moved hvm, h.1.2.2.2.moved hvm⟩, fun w hw => ?_, va_AO.moved hvm h.2.2⟩
  have h1 := h.2.1 w hw
  simp only [nestW, List.mem_cons, List.not_mem_nil, or_false] at hw
  rcases hw with rfl | rfl | rfl | rfl | rfl | rfl <;> exact va_Nw.warmM hW h1
/-- what does not change in a method -/
def Cx (p : Program) (s : State) (m : MethodId) (args : Array Value) (meth : Method) (c : Code) (own : String) (cc : ByteArray) (nL : Nat) (D : va_G) (cy : Nat → ClassId) (A : Nat → Prop) : Prop :=
  p.tables.exec = Jvm.exec ∧ c.code = cc ∧ c.maxLocals = nL ∧ s.vm.findClass own = some m.cls ∧ (∀ w ∈ TB, w.before args s = true) ∧ meth.locks = false ∧ va_K D vwCl (tysA cy) s ∧ EN A s s.heap
abbrev XT : Type := State → Array Value → List Frame → Method → va_G → (Nat → ClassId) → (Nat → Prop) → (Nat → Nat) → (State → Prop) → Prop
def VS (l : Launch) (R : Room) (own : String) (cc : ByteArray) (nL : Nat) (X : XT) (cl sl n : Nat) (g : Nat → va_E) (pc : Nat) (L : List (Option Value)) (st : List Value) : Prop :=
  ∀ (p : Program) (e : Env) (s : State) (m : MethodId) (args : Array Value) (below : List Frame) (meth : Method) (c : Code) (D : va_G) (cy : Nat → ClassId) (A : Nat → Prop) (ad : Nat → Nat) (Q : State → Prop) (H : Heap) (locs : List Loc) (ls : Array Slot), Cx p s m args meth c own cc nL D cy A → X s args below meth D cy A ad Q → aI ad n → (∀ k : Nat, k < n → A (ad k)) → va_P D vwCl (wd cy ad n g) H → va_S A s.heap H locs → lv_has ls nL (asL ad 0 L) → W p l e R s m args below meth c H locs cl sl Q (F0 m pc ls (st.map (cV ad)))
section VSR
variable {l : Launch} {R : Room} {own : String} {cc : ByteArray} {nL : Nat} {X : XT} {cl sl n : Nat} {g : Nat → va_E} {pc : Nat} {L : List (Option Value)} {st : List Value}
theorem VS.iconst {z : Int} (v : Int32) (d : decode cc pc = .ok (.iconst z, 1)) (hv : Int32.ofInt z = v) (kk : VS l R own cc nL X cl sl n g  (pc + 1) L (.int v :: st)) : VS l R own cc nL X cl sl n g  pc L st := fun p e s m args below meth c D cy A ad Q H locs ls C0 x i a hP hS hl => lv_iconst C0.1 C0.2.1 d hv (kk p e s m args below meth c D cy A ad Q H locs ls C0 x i a hP hS hl)
theorem VS.bipush {z : Int} (v : Int32) (d : decode cc pc = .ok (.bipush z, 2)) (hv : (Int8.ofInt z).toInt32 = v) (kk : VS l R own cc nL X cl sl n g  (pc + 2) L (.int v :: st)) : VS l R own cc nL X cl sl n g  pc L st := fun p e s m args below meth c D cy A ad Q H locs ls C0 x i a hP hS hl => lv_bipush C0.1 C0.2.1 d hv (kk p e s m args below meth c D cy A ad Q H locs ls C0 x i a hP hS hl)
theorem VS.sipush {z : Int} (v : Int32) (d : decode cc pc = .ok (.sipush z, 3)) (hv : (Int16.ofInt z).toInt32 = v) (kk : VS l R own cc nL X cl sl n g  (pc + 3) L (.int v :: st)) : VS l R own cc nL X cl sl n g  pc L st := fun p e s m args below meth c D cy A ad Q H locs ls C0 x i a hP hS hl => lv_sipush C0.1 C0.2.1 d hv (kk p e s m args below meth c D cy A ad Q H locs ls C0 x i a hP hS hl)
theorem VS.lconst {z : Fin 2} (v : Int64) (d : decode cc pc = .ok (.lconst z, 1)) (hv : Int64.ofNat (z : Nat) = v) (kk : VS l R own cc nL X cl sl n g  (pc + 1) L (.long v :: st)) : VS l R own cc nL X cl sl n g  pc L st := fun p e s m args below meth c D cy A ad Q H locs ls C0 x i a hP hS hl => lv_lconst C0.1 C0.2.1 d hv (kk p e s m args below meth c D cy A ad Q H locs ls C0 x i a hP hS hl)
theorem VS.iload_n {k : Fin 4} {v : Int32} (d : decode cc pc = .ok (.iload_n k, 1)) (hv : L[(k : Nat)]? = some (some (.int v))) (kk : VS l R own cc nL X cl sl n g  (pc + 1) L (.int v :: st)) : VS l R own cc nL X cl sl n g  pc L st := fun p e s m args below meth c D cy A ad Q H locs ls C0 x i a hP hS hl => lv_iload_n C0.1 C0.2.1 d rfl (lget hl hv) (kk p e s m args below meth c D cy A ad Q H locs ls C0 x i a hP hS hl)
theorem VS.iload {k : Nat} {v : Int32} (d : decode cc pc = .ok (.iload k, 2)) (hv : L[k]? = some (some (.int v))) (kk : VS l R own cc nL X cl sl n g  (pc + 2) L (.int v :: st)) : VS l R own cc nL X cl sl n g  pc L st := fun p e s m args below meth c D cy A ad Q H locs ls C0 x i a hP hS hl => lv_iload C0.1 C0.2.1 d (lget hl hv) (kk p e s m args below meth c D cy A ad Q H locs ls C0 x i a hP hS hl)
theorem VS.lload_n {k : Fin 4} {v : Int64} (d : decode cc pc = .ok (.lload_n k, 1)) (hv : L[(k : Nat)]? = some (some (.long v))) (kk : VS l R own cc nL X cl sl n g  (pc + 1) L (.long v :: st)) : VS l R own cc nL X cl sl n g  pc L st := fun p e s m args below meth c D cy A ad Q H locs ls C0 x i a hP hS hl => lv_lload_n C0.1 C0.2.1 d rfl (lget hl hv) (kk p e s m args below meth c D cy A ad Q H locs ls C0 x i a hP hS hl)
theorem VS.lload {k : Nat} {v : Int64} (d : decode cc pc = .ok (.lload k, 2)) (hv : L[k]? = some (some (.long v))) (kk : VS l R own cc nL X cl sl n g  (pc + 2) L (.long v :: st)) : VS l R own cc nL X cl sl n g  pc L st := fun p e s m args below meth c D cy A ad Q H locs ls C0 x i a hP hS hl => lv_lload C0.1 C0.2.1 d (lget hl hv) (kk p e s m args below meth c D cy A ad Q H locs ls C0 x i a hP hS hl)
theorem VS.aload_n {k : Fin 4} {v : Nat} (d : decode cc pc = .ok (.aload_n k, 1)) (hv : L[(k : Nat)]? = some (some (.ref v))) (kk : VS l R own cc nL X cl sl n g  (pc + 1) L (.ref v :: st)) : VS l R own cc nL X cl sl n g  pc L st := fun p e s m args below meth c D cy A ad Q H locs ls C0 x i a hP hS hl => lv_aload_n C0.1 C0.2.1 d rfl (lget hl hv) (kk p e s m args below meth c D cy A ad Q H locs ls C0 x i a hP hS hl)
theorem VS.aload_nN {k : Fin 4} (d : decode cc pc = .ok (.aload_n k, 1)) (hv : L[(k : Nat)]? = some (some .null)) (kk : VS l R own cc nL X cl sl n g  (pc + 1) L (.null :: st)) : VS l R own cc nL X cl sl n g  pc L st := fun p e s m args below meth c D cy A ad Q H locs ls C0 x i a hP hS hl => lv_aload_nN C0.1 C0.2.1 d rfl (lget hl hv) (kk p e s m args below meth c D cy A ad Q H locs ls C0 x i a hP hS hl)
theorem VS.aload {k : Nat} {v : Nat} (d : decode cc pc = .ok (.aload k, 2)) (hv : L[k]? = some (some (.ref v))) (kk : VS l R own cc nL X cl sl n g  (pc + 2) L (.ref v :: st)) : VS l R own cc nL X cl sl n g  pc L st := fun p e s m args below meth c D cy A ad Q H locs ls C0 x i a hP hS hl => lv_aload C0.1 C0.2.1 d (lget hl hv) (kk p e s m args below meth c D cy A ad Q H locs ls C0 x i a hP hS hl)
theorem VS.istore_n {k : Fin 4} {v : Int32} (d : decode cc pc = .ok (.istore_n k, 1)) (hn : (k : Nat) < nL) (ho : okst L k = true) (kk : VS l R own cc nL X cl sl n g  (pc + 1) (L.set k (some (.int v))) st) : VS l R own cc nL X cl sl n g  pc L (.int v :: st) := fun p e s m args below meth c D cy A ad Q H locs ls C0 x i a hP hS hl => lv_istore_n C0.1 C0.2.1 d rfl hl hn rfl (fun ls hl2 => kk p e s m args below meth c D cy A ad Q H locs ls C0 x i a hP hS (lsto (v := .int v) hl2 ho))
theorem VS.istore {k : Nat} {v : Int32} (d : decode cc pc = .ok (.istore k, 2)) (hn : k < nL) (ho : okst L k = true) (kk : VS l R own cc nL X cl sl n g  (pc + 2) (L.set k (some (.int v))) st) : VS l R own cc nL X cl sl n g  pc L (.int v :: st) := fun p e s m args below meth c D cy A ad Q H locs ls C0 x i a hP hS hl => lv_istore C0.1 C0.2.1 d hl hn rfl (fun ls hl2 => kk p e s m args below meth c D cy A ad Q H locs ls C0 x i a hP hS (lsto (v := .int v) hl2 ho))
theorem VS.astore_n {k : Fin 4} {v : Nat} (d : decode cc pc = .ok (.astore_n k, 1)) (hn : (k : Nat) < nL) (ho : okst L k = true) (kk : VS l R own cc nL X cl sl n g  (pc + 1) (L.set k (some (.ref v))) st) : VS l R own cc nL X cl sl n g  pc L (.ref v :: st) := fun p e s m args below meth c D cy A ad Q H locs ls C0 x i a hP hS hl => lv_astore_n C0.1 C0.2.1 d rfl hl hn rfl (fun ls hl2 => kk p e s m args below meth c D cy A ad Q H locs ls C0 x i a hP hS (lsto (v := .ref v) hl2 ho))
theorem VS.astore {k : Nat} {v : Nat} (d : decode cc pc = .ok (.astore k, 2)) (hn : k < nL) (ho : okst L k = true) (kk : VS l R own cc nL X cl sl n g  (pc + 2) (L.set k (some (.ref v))) st) : VS l R own cc nL X cl sl n g  pc L (.ref v :: st) := fun p e s m args below meth c D cy A ad Q H locs ls C0 x i a hP hS hl => lv_astore C0.1 C0.2.1 d hl hn rfl (fun ls hl2 => kk p e s m args below meth c D cy A ad Q H locs ls C0 x i a hP hS (lsto (v := .ref v) hl2 ho))
theorem VS.iadd {x y : Int32} (d : decode cc pc = .ok (.iadd, 1)) (kk : VS l R own cc nL X cl sl n g  (pc + 1) L (.int (x + y) :: st)) : VS l R own cc nL X cl sl n g  pc L (.int y :: .int x :: st) := fun p e s m args below meth c D cy A ad Q H locs ls C0 x0 i a hP hS hl => lv_iadd C0.1 C0.2.1 d (kk p e s m args below meth c D cy A ad Q H locs ls C0 x0 i a hP hS hl)
theorem VS.isub {x y : Int32} (d : decode cc pc = .ok (.isub, 1)) (kk : VS l R own cc nL X cl sl n g  (pc + 1) L (.int (x - y) :: st)) : VS l R own cc nL X cl sl n g  pc L (.int y :: .int x :: st) := fun p e s m args below meth c D cy A ad Q H locs ls C0 x0 i a hP hS hl => lv_isub C0.1 C0.2.1 d (kk p e s m args below meth c D cy A ad Q H locs ls C0 x0 i a hP hS hl)
theorem VS.imul {x y : Int32} (d : decode cc pc = .ok (.imul, 1)) (kk : VS l R own cc nL X cl sl n g  (pc + 1) L (.int (x * y) :: st)) : VS l R own cc nL X cl sl n g  pc L (.int y :: .int x :: st) := fun p e s m args below meth c D cy A ad Q H locs ls C0 x0 i a hP hS hl => lv_imul C0.1 C0.2.1 d (kk p e s m args below meth c D cy A ad Q H locs ls C0 x0 i a hP hS hl)
theorem VS.iand {x y : Int32} (d : decode cc pc = .ok (.iand, 1)) (kk : VS l R own cc nL X cl sl n g  (pc + 1) L (.int (x &&& y) :: st)) : VS l R own cc nL X cl sl n g  pc L (.int y :: .int x :: st) := fun p e s m args below meth c D cy A ad Q H locs ls C0 x0 i a hP hS hl => lv_iand C0.1 C0.2.1 d (kk p e s m args below meth c D cy A ad Q H locs ls C0 x0 i a hP hS hl)
theorem VS.ior {x y : Int32} (d : decode cc pc = .ok (.ior, 1)) (kk : VS l R own cc nL X cl sl n g  (pc + 1) L (.int (x ||| y) :: st)) : VS l R own cc nL X cl sl n g  pc L (.int y :: .int x :: st) := fun p e s m args below meth c D cy A ad Q H locs ls C0 x0 i a hP hS hl => lv_ior C0.1 C0.2.1 d (kk p e s m args below meth c D cy A ad Q H locs ls C0 x0 i a hP hS hl)
theorem VS.ixor {x y : Int32} (d : decode cc pc = .ok (.ixor, 1)) (kk : VS l R own cc nL X cl sl n g  (pc + 1) L (.int (x ^^^ y) :: st)) : VS l R own cc nL X cl sl n g  pc L (.int y :: .int x :: st) := fun p e s m args below meth c D cy A ad Q H locs ls C0 x0 i a hP hS hl => lv_ixor C0.1 C0.2.1 d (kk p e s m args below meth c D cy A ad Q H locs ls C0 x0 i a hP hS hl)
theorem VS.ishl {x y : Int32} (d : decode cc pc = .ok (.ishl, 1)) (kk : VS l R own cc nL X cl sl n g  (pc + 1) L (.int (x <<< (y &&& 31)) :: st)) : VS l R own cc nL X cl sl n g  pc L (.int y :: .int x :: st) := fun p e s m args below meth c D cy A ad Q H locs ls C0 x0 i a hP hS hl => lv_ishl C0.1 C0.2.1 d (kk p e s m args below meth c D cy A ad Q H locs ls C0 x0 i a hP hS hl)
theorem VS.ishr {x y : Int32} (d : decode cc pc = .ok (.ishr, 1)) (kk : VS l R own cc nL X cl sl n g  (pc + 1) L (.int (x >>> (y &&& 31)) :: st)) : VS l R own cc nL X cl sl n g  pc L (.int y :: .int x :: st) := fun p e s m args below meth c D cy A ad Q H locs ls C0 x0 i a hP hS hl => lv_ishr C0.1 C0.2.1 d (kk p e s m args below meth c D cy A ad Q H locs ls C0 x0 i a hP hS hl)
theorem VS.idiv {x y : Int32} (d : decode cc pc = .ok (.idiv, 1)) (hne : ¬ y = 0) (kk : VS l R own cc nL X cl sl n g  (pc + 1) L (.int (x / y) :: st)) : VS l R own cc nL X cl sl n g  pc L (.int y :: .int x :: st) := fun p e s m args below meth c D cy A ad Q H locs ls C0 x0 i a hP hS hl => lv_idiv C0.1 C0.2.1 d hne (kk p e s m args below meth c D cy A ad Q H locs ls C0 x0 i a hP hS hl)
theorem VS.irem {x y : Int32} (d : decode cc pc = .ok (.irem, 1)) (hne : ¬ y = 0) (kk : VS l R own cc nL X cl sl n g  (pc + 1) L (.int (x - x / y * y) :: st)) : VS l R own cc nL X cl sl n g  pc L (.int y :: .int x :: st) := fun p e s m args below meth c D cy A ad Q H locs ls C0 x0 i a hP hS hl => lv_irem C0.1 C0.2.1 d hne (kk p e s m args below meth c D cy A ad Q H locs ls C0 x0 i a hP hS hl)
theorem VS.iushr {x y : Int32} (d : decode cc pc = .ok (.iushr, 1)) (kk : VS l R own cc nL X cl sl n g  (pc + 1) L (.int (x.toUInt32 >>> (y.toUInt32 &&& Int32.toUInt32 31)).toInt32 :: st)) : VS l R own cc nL X cl sl n g  pc L (.int y :: .int x :: st) := fun p e s m args below meth c D cy A ad Q H locs ls C0 x0 i a hP hS hl => lv_iushr C0.1 C0.2.1 d rfl (kk p e s m args below meth c D cy A ad Q H locs ls C0 x0 i a hP hS hl)
theorem VS.lushr {x : Int64} {y : Int32} (d : decode cc pc = .ok (.lushr, 1)) (kk : VS l R own cc nL X cl sl n g  (pc + 1) L (.long (x.toUInt64 >>> (y.toInt64.toUInt64 &&& Int64.toUInt64 63)).toInt64 :: st)) : VS l R own cc nL X cl sl n g  pc L (.int y :: .long x :: st) := fun p e s m args below meth c D cy A ad Q H locs ls C0 x0 i a hP hS hl => lv_lushr C0.1 C0.2.1 d rfl (kk p e s m args below meth c D cy A ad Q H locs ls C0 x0 i a hP hS hl)
theorem VS.lshl {x : Int64} {y : Int32} (d : decode cc pc = .ok (.lshl, 1)) (kk : VS l R own cc nL X cl sl n g  (pc + 1) L (.long (x <<< (y.toInt64 &&& 63)) :: st)) : VS l R own cc nL X cl sl n g  pc L (.int y :: .long x :: st) := fun p e s m args below meth c D cy A ad Q H locs ls C0 x0 i a hP hS hl => lv_lshl C0.1 C0.2.1 d rfl (kk p e s m args below meth c D cy A ad Q H locs ls C0 x0 i a hP hS hl)
theorem VS.land {x y : Int64} (d : decode cc pc = .ok (.land, 1)) (kk : VS l R own cc nL X cl sl n g  (pc + 1) L (.long (x &&& y) :: st)) : VS l R own cc nL X cl sl n g  pc L (.long y :: .long x :: st) := fun p e s m args below meth c D cy A ad Q H locs ls C0 x0 i a hP hS hl => lv_land C0.1 C0.2.1 d (kk p e s m args below meth c D cy A ad Q H locs ls C0 x0 i a hP hS hl)
theorem VS.lor {x y : Int64} (d : decode cc pc = .ok (.lor, 1)) (kk : VS l R own cc nL X cl sl n g  (pc + 1) L (.long (x ||| y) :: st)) : VS l R own cc nL X cl sl n g  pc L (.long y :: .long x :: st) := fun p e s m args below meth c D cy A ad Q H locs ls C0 x0 i a hP hS hl => lv_lor C0.1 C0.2.1 d (kk p e s m args below meth c D cy A ad Q H locs ls C0 x0 i a hP hS hl)
theorem VS.i2l {x : Int32} (d : decode cc pc = .ok (.i2l, 1)) (kk : VS l R own cc nL X cl sl n g  (pc + 1) L (.long x.toInt64 :: st)) : VS l R own cc nL X cl sl n g  pc L (.int x :: st) := fun p e s m args below meth c D cy A ad Q H locs ls C0 x0 i a hP hS hl => lv_i2l C0.1 C0.2.1 d rfl (kk p e s m args below meth c D cy A ad Q H locs ls C0 x0 i a hP hS hl)
theorem VS.l2i {x : Int64} (d : decode cc pc = .ok (.l2i, 1)) (kk : VS l R own cc nL X cl sl n g  (pc + 1) L (.int x.toInt32 :: st)) : VS l R own cc nL X cl sl n g  pc L (.long x :: st) := fun p e s m args below meth c D cy A ad Q H locs ls C0 x0 i a hP hS hl => lv_l2i C0.1 C0.2.1 d rfl (kk p e s m args below meth c D cy A ad Q H locs ls C0 x0 i a hP hS hl)
theorem VS.i2c {x : Int32} (d : decode cc pc = .ok (.i2c, 1)) (kk : VS l R own cc nL X cl sl n g  (pc + 1) L (.int (x.toUInt32 % 65536).toInt32 :: st)) : VS l R own cc nL X cl sl n g  pc L (.int x :: st) := fun p e s m args below meth c D cy A ad Q H locs ls C0 x0 i a hP hS hl => lv_i2c C0.1 C0.2.1 d rfl (kk p e s m args below meth c D cy A ad Q H locs ls C0 x0 i a hP hS hl)
theorem VS.dup {v : Value} (d : decode cc pc = .ok (.dup, 1)) (hv : v.category = 1) (kk : VS l R own cc nL X cl sl n g  (pc + 1) L (v :: v :: st)) : VS l R own cc nL X cl sl n g  pc L (v :: st) := fun p e s m args below meth c D cy A ad Q H locs ls C0 x i a hP hS hl => lv_dup C0.1 C0.2.1 d (by rw [cV_cat]; exact hv) (kk p e s m args below meth c D cy A ad Q H locs ls C0 x i a hP hS hl)
theorem VS.pop {v : Value} (d : decode cc pc = .ok (.pop, 1)) (hv : v.category = 1) (kk : VS l R own cc nL X cl sl n g  (pc + 1) L st) : VS l R own cc nL X cl sl n g  pc L (v :: st) := fun p e s m args below meth c D cy A ad Q H locs ls C0 x i a hP hS hl => lv_pop C0.1 C0.2.1 d (by rw [cV_cat]; exact hv) (kk p e s m args below meth c D cy A ad Q H locs ls C0 x i a hP hS hl)
theorem VS.dup2 {v w : Value} (d : decode cc pc = .ok (.dup2, 1)) (hv : v.category = 1) (hw : w.category = 1) (kk : VS l R own cc nL X cl sl n g  (pc + 1) L (v :: w :: v :: w :: st)) : VS l R own cc nL X cl sl n g  pc L (v :: w :: st) := fun p e s m args below meth c D cy A ad Q H locs ls C0 x i a hP hS hl => lv_dup2_11 C0.1 C0.2.1 d (by rw [cV_cat]; exact hv) (by rw [cV_cat]; exact hw) (kk p e s m args below meth c D cy A ad Q H locs ls C0 x i a hP hS hl)
theorem VS.aconst_null (d : decode cc pc = .ok (.aconst_null, 1)) (kk : VS l R own cc nL X cl sl n g  (pc + 1) L (.null :: st)) : VS l R own cc nL X cl sl n g  pc L st := fun p e s m args below meth c D cy A ad Q H locs ls C0 x i a hP hS hl => lv_null C0.1 C0.2.1 d (kk p e s m args below meth c D cy A ad Q H locs ls C0 x i a hP hS hl)
theorem VS.topi {x : Int32} (kk : ∀ y : Int32, y = x → VS l R own cc nL X cl sl n g  pc L (.int y :: st)) : VS l R own cc nL X cl sl n g  pc L (.int x :: st) := kk x rfl
theorem VS.val {x y : Int32} (h : x = y) (kk : VS l R own cc nL X cl sl n g  pc L (.int y :: st)) : VS l R own cc nL X cl sl n g  pc L (.int x :: st) := h ▸ kk
theorem VS.heap {g2 : Nat → va_E} (h : ∀ k, k < n → g k = g2 k) (kk : VS l R own cc nL X cl sl n g2 pc L st) : VS l R own cc nL X cl sl n g  pc L st := by
  intro p e s m args below meth c D cy A ad Q H locs ls C0 x i a hP
  refine kk p e s m args below meth c D cy A ad Q H locs ls C0 x i a ?_
  have e : wd cy ad n g = wd cy ad n g2 := List.map_congr_left fun k hk => by rw [h k (List.mem_range.mp hk)]
  rw [← e]; exact hP
theorem VS.locals {L2 : List (Option Value)} (h : ∀ (j : Nat) (v : Value), L2[j]? = some (some v) → L[j]? = some (some v)) (kk : VS l R own cc nL X cl sl n g  pc L2 st) : VS l R own cc nL X cl sl n g  pc L st := fun p e s m args below meth c D cy A ad Q H locs ls C0 x i a hP hS hl => kk p e s m args below meth c D cy A ad Q H locs ls C0 x i a hP hS ⟨hl.1, hl.2.1, fun q hq => hl.2.2 q (by
  obtain ⟨j, v, h1, h2⟩ := (asL_mem L2 0 q).mp hq
  exact (asL_mem L 0 q).mpr ⟨j, v, h j v h1, h2⟩)⟩
theorem VS.iinc {k : Nat} {z : Int} {x : Int32} (v : Int32) (d : decode cc pc = .ok (.iinc k z, 3)) (hx : L[k]? = some (some (.int x))) (hn : k < nL) (hv : x + Int32.ofInt z = v) (ho : okst L k = true) (kk : VS l R own cc nL X cl sl n g  (pc + 3) (L.set k (some (.int v))) st) : VS l R own cc nL X cl sl n g  pc L st := by
  intro p e s m args below meth c D cy A ad Q H locs ls C0 x0 i a hP hS hl
  obtain ⟨q0, hq0⟩ : ∃ q0 : Nat, (asL ad 0 L)[q0]? = some (k, .int x) := List.getElem?_of_mem ((asL_mem L 0 _).mpr ⟨k, _, hx, by simp [cV]⟩)
  exact lv_iinc (v := v) C0.1 C0.2.1 d hl hq0 hv hn rfl (fun ls hl2 => kk p e s m args below meth c D cy A ad Q H locs ls C0 x0 i a hP hS (lsto (v := .int v) hl2 ho))
theorem VS.if_eq {x : Int32} {off : Int} (tgt : Nat) (d : decode cc pc = .ok (.ifCond .eq off, 3)) (ht : (pc : Int) + off = (tgt : Int)) (kt : x = 0 → VS l R own cc nL X cl sl n g  tgt L st) (kf : ¬ (x = 0) → VS l R own cc nL X cl sl n g  (pc + 3) L st) : VS l R own cc nL X cl sl n g  pc L (.int x :: st) := fun p e s m args below meth c D cy A ad Q H locs ls C0 x0 i a hP hS hl => lv_if_eq C0.1 C0.2.1 d ht (fun h => kt h p e s m args below meth c D cy A ad Q H locs ls C0 x0 i a hP hS hl) (fun h => kf h p e s m args below meth c D cy A ad Q H locs ls C0 x0 i a hP hS hl)
theorem VS.icmp_eq {x y : Int32} {off : Int} (tgt : Nat) (d : decode cc pc = .ok (.if_icmp .eq off, 3)) (ht : (pc : Int) + off = (tgt : Int)) (kt : x = y → VS l R own cc nL X cl sl n g  tgt L st) (kf : ¬ (x = y) → VS l R own cc nL X cl sl n g  (pc + 3) L st) : VS l R own cc nL X cl sl n g  pc L (.int y :: .int x :: st) := fun p e s m args below meth c D cy A ad Q H locs ls C0 x0 i a hP hS hl => lv_icmp_eq C0.1 C0.2.1 d ht (fun h => kt h p e s m args below meth c D cy A ad Q H locs ls C0 x0 i a hP hS hl) (fun h => kf h p e s m args below meth c D cy A ad Q H locs ls C0 x0 i a hP hS hl)
theorem VS.if_ne {x : Int32} {off : Int} (tgt : Nat) (d : decode cc pc = .ok (.ifCond .ne off, 3)) (ht : (pc : Int) + off = (tgt : Int)) (kt : ¬ x = 0 → VS l R own cc nL X cl sl n g  tgt L st) (kf : x = 0 → VS l R own cc nL X cl sl n g  (pc + 3) L st) : VS l R own cc nL X cl sl n g  pc L (.int x :: st) := fun p e s m args below meth c D cy A ad Q H locs ls C0 x0 i a hP hS hl => lv_if_ne C0.1 C0.2.1 d ht (fun h => kt h p e s m args below meth c D cy A ad Q H locs ls C0 x0 i a hP hS hl) (fun h => kf h p e s m args below meth c D cy A ad Q H locs ls C0 x0 i a hP hS hl)
theorem VS.icmp_ne {x y : Int32} {off : Int} (tgt : Nat) (d : decode cc pc = .ok (.if_icmp .ne off, 3)) (ht : (pc : Int) + off = (tgt : Int)) (kt : ¬ x = y → VS l R own cc nL X cl sl n g  tgt L st) (kf : x = y → VS l R own cc nL X cl sl n g  (pc + 3) L st) : VS l R own cc nL X cl sl n g  pc L (.int y :: .int x :: st) := fun p e s m args below meth c D cy A ad Q H locs ls C0 x0 i a hP hS hl => lv_icmp_ne C0.1 C0.2.1 d ht (fun h => kt h p e s m args below meth c D cy A ad Q H locs ls C0 x0 i a hP hS hl) (fun h => kf h p e s m args below meth c D cy A ad Q H locs ls C0 x0 i a hP hS hl)
theorem VS.if_lt {x : Int32} {off : Int} (tgt : Nat) (d : decode cc pc = .ok (.ifCond .lt off, 3)) (ht : (pc : Int) + off = (tgt : Int)) (kt : x < 0 → VS l R own cc nL X cl sl n g  tgt L st) (kf : ¬ (x < 0) → VS l R own cc nL X cl sl n g  (pc + 3) L st) : VS l R own cc nL X cl sl n g  pc L (.int x :: st) := fun p e s m args below meth c D cy A ad Q H locs ls C0 x0 i a hP hS hl => lv_if_lt C0.1 C0.2.1 d ht (fun h => kt h p e s m args below meth c D cy A ad Q H locs ls C0 x0 i a hP hS hl) (fun h => kf h p e s m args below meth c D cy A ad Q H locs ls C0 x0 i a hP hS hl)
theorem VS.icmp_lt {x y : Int32} {off : Int} (tgt : Nat) (d : decode cc pc = .ok (.if_icmp .lt off, 3)) (ht : (pc : Int) + off = (tgt : Int)) (kt : x < y → VS l R own cc nL X cl sl n g  tgt L st) (kf : ¬ (x < y) → VS l R own cc nL X cl sl n g  (pc + 3) L st) : VS l R own cc nL X cl sl n g  pc L (.int y :: .int x :: st) := fun p e s m args below meth c D cy A ad Q H locs ls C0 x0 i a hP hS hl => lv_icmp_lt C0.1 C0.2.1 d ht (fun h => kt h p e s m args below meth c D cy A ad Q H locs ls C0 x0 i a hP hS hl) (fun h => kf h p e s m args below meth c D cy A ad Q H locs ls C0 x0 i a hP hS hl)
theorem VS.if_ge {x : Int32} {off : Int} (tgt : Nat) (d : decode cc pc = .ok (.ifCond .ge off, 3)) (ht : (pc : Int) + off = (tgt : Int)) (kt : 0 ≤ x → VS l R own cc nL X cl sl n g  tgt L st) (kf : ¬ (0 ≤ x) → VS l R own cc nL X cl sl n g  (pc + 3) L st) : VS l R own cc nL X cl sl n g  pc L (.int x :: st) := fun p e s m args below meth c D cy A ad Q H locs ls C0 x0 i a hP hS hl => lv_if_ge C0.1 C0.2.1 d ht (fun h => kt h p e s m args below meth c D cy A ad Q H locs ls C0 x0 i a hP hS hl) (fun h => kf h p e s m args below meth c D cy A ad Q H locs ls C0 x0 i a hP hS hl)
theorem VS.icmp_ge {x y : Int32} {off : Int} (tgt : Nat) (d : decode cc pc = .ok (.if_icmp .ge off, 3)) (ht : (pc : Int) + off = (tgt : Int)) (kt : y ≤ x → VS l R own cc nL X cl sl n g  tgt L st) (kf : ¬ (y ≤ x) → VS l R own cc nL X cl sl n g  (pc + 3) L st) : VS l R own cc nL X cl sl n g  pc L (.int y :: .int x :: st) := fun p e s m args below meth c D cy A ad Q H locs ls C0 x0 i a hP hS hl => lv_icmp_ge C0.1 C0.2.1 d ht (fun h => kt h p e s m args below meth c D cy A ad Q H locs ls C0 x0 i a hP hS hl) (fun h => kf h p e s m args below meth c D cy A ad Q H locs ls C0 x0 i a hP hS hl)
theorem VS.if_gt {x : Int32} {off : Int} (tgt : Nat) (d : decode cc pc = .ok (.ifCond .gt off, 3)) (ht : (pc : Int) + off = (tgt : Int)) (kt : 0 < x → VS l R own cc nL X cl sl n g  tgt L st) (kf : ¬ (0 < x) → VS l R own cc nL X cl sl n g  (pc + 3) L st) : VS l R own cc nL X cl sl n g  pc L (.int x :: st) := fun p e s m args below meth c D cy A ad Q H locs ls C0 x0 i a hP hS hl => lv_if_gt C0.1 C0.2.1 d ht (fun h => kt h p e s m args below meth c D cy A ad Q H locs ls C0 x0 i a hP hS hl) (fun h => kf h p e s m args below meth c D cy A ad Q H locs ls C0 x0 i a hP hS hl)
theorem VS.icmp_gt {x y : Int32} {off : Int} (tgt : Nat) (d : decode cc pc = .ok (.if_icmp .gt off, 3)) (ht : (pc : Int) + off = (tgt : Int)) (kt : y < x → VS l R own cc nL X cl sl n g  tgt L st) (kf : ¬ (y < x) → VS l R own cc nL X cl sl n g  (pc + 3) L st) : VS l R own cc nL X cl sl n g  pc L (.int y :: .int x :: st) := fun p e s m args below meth c D cy A ad Q H locs ls C0 x0 i a hP hS hl => lv_icmp_gt C0.1 C0.2.1 d ht (fun h => kt h p e s m args below meth c D cy A ad Q H locs ls C0 x0 i a hP hS hl) (fun h => kf h p e s m args below meth c D cy A ad Q H locs ls C0 x0 i a hP hS hl)
theorem VS.if_le {x : Int32} {off : Int} (tgt : Nat) (d : decode cc pc = .ok (.ifCond .le off, 3)) (ht : (pc : Int) + off = (tgt : Int)) (kt : x ≤ 0 → VS l R own cc nL X cl sl n g  tgt L st) (kf : ¬ (x ≤ 0) → VS l R own cc nL X cl sl n g  (pc + 3) L st) : VS l R own cc nL X cl sl n g  pc L (.int x :: st) := fun p e s m args below meth c D cy A ad Q H locs ls C0 x0 i a hP hS hl => lv_if_le C0.1 C0.2.1 d ht (fun h => kt h p e s m args below meth c D cy A ad Q H locs ls C0 x0 i a hP hS hl) (fun h => kf h p e s m args below meth c D cy A ad Q H locs ls C0 x0 i a hP hS hl)
theorem VS.icmp_le {x y : Int32} {off : Int} (tgt : Nat) (d : decode cc pc = .ok (.if_icmp .le off, 3)) (ht : (pc : Int) + off = (tgt : Int)) (kt : x ≤ y → VS l R own cc nL X cl sl n g  tgt L st) (kf : ¬ (x ≤ y) → VS l R own cc nL X cl sl n g  (pc + 3) L st) : VS l R own cc nL X cl sl n g  pc L (.int y :: .int x :: st) := fun p e s m args below meth c D cy A ad Q H locs ls C0 x0 i a hP hS hl => lv_icmp_le C0.1 C0.2.1 d ht (fun h => kt h p e s m args below meth c D cy A ad Q H locs ls C0 x0 i a hP hS hl) (fun h => kf h p e s m args below meth c D cy A ad Q H locs ls C0 x0 i a hP hS hl)
theorem VS.goto {off : Int} (tgt : Nat) (d : decode cc pc = .ok (.goto off, 3)) (ht : (pc : Int) + off = (tgt : Int)) (kk : VS l R own cc nL X cl sl n g  tgt L st) : VS l R own cc nL X cl sl n g  pc L st := fun p e s m args below meth c D cy A ad Q H locs ls C0 x i a hP hS hl => lv_goto C0.1 C0.2.1 d ht (kk p e s m args below meth c D cy A ad Q H locs ls C0 x i a hP hS hl)
theorem VS.ifnull {v : Nat} {off : Int} (d : decode cc pc = .ok (.ifnull off, 3)) (kk : VS l R own cc nL X cl sl n g  (pc + 3) L st) : VS l R own cc nL X cl sl n g  pc L (.ref v :: st) := fun p e s m args below meth c D cy A ad Q H locs ls C0 x i a hP hS hl => lv_ifnull C0.1 C0.2.1 d (kk p e s m args below meth c D cy A ad Q H locs ls C0 x i a hP hS hl)
theorem VS.ifnonnull {v : Nat} {off : Int} (tgt : Nat) (d : decode cc pc = .ok (.ifnonnull off, 3)) (ht : (pc : Int) + off = (tgt : Int)) (kk : VS l R own cc nL X cl sl n g  tgt L st) : VS l R own cc nL X cl sl n g  pc L (.ref v :: st) := fun p e s m args below meth c D cy A ad Q H locs ls C0 x i a hP hS hl => lv_ifnonnull C0.1 C0.2.1 d ht (kk p e s m args below meth c D cy A ad Q H locs ls C0 x i a hP hS hl)
theorem VS.tableIn {dflt lo hi : Int} {offs : Array Int} {len : Nat} {x : Int32} {off : Int} (tgt : Nat) (d : decode cc pc = .ok (.tableswitch dflt lo hi offs, len)) (h1 : ¬ x.toInt < lo) (h2 : ¬ hi < x.toInt) (ho : offs[(x.toInt - lo).toNat]? = some off) (ht : (pc : Int) + off = (tgt : Int)) (kk : VS l R own cc nL X cl sl n g  tgt L st) : VS l R own cc nL X cl sl n g  pc L (.int x :: st) := fun p e s m args below meth c D cy A ad Q H locs ls C0 x0 i a hP hS hl => lv_tableIn C0.1 C0.2.1 d h1 h2 ho ht (kk p e s m args below meth c D cy A ad Q H locs ls C0 x0 i a hP hS hl)
theorem VS.tableOut {dflt lo hi : Int} {offs : Array Int} {len : Nat} {x : Int32} (tgt : Nat) (d : decode cc pc = .ok (.tableswitch dflt lo hi offs, len)) (h : x.toInt < lo ∨ hi < x.toInt) (ht : (pc : Int) + dflt = (tgt : Int)) (kk : VS l R own cc nL X cl sl n g  tgt L st) : VS l R own cc nL X cl sl n g  pc L (.int x :: st) := fun p e s m args below meth c D cy A ad Q H locs ls C0 x0 i a hP hS hl => lv_tableOut C0.1 C0.2.1 d h ht (kk p e s m args below meth c D cy A ad Q H locs ls C0 x0 i a hP hS hl)
theorem VS.lookup {dflt : Int} {ps : Array (Int × Int)} {len : Nat} {x : Int32} {off : Int} (tgt : Nat) (d : decode cc pc = .ok (.lookupswitch dflt ps, len)) (hp : (ps.toList.zip (ps.toList.drop 1)).all (fun (a, next) => a.1 < next.1) = true) (ho : Op.lookupswitch.offset ps.toList dflt x.toInt = off) (ht : (pc : Int) + off = (tgt : Int)) (kk : VS l R own cc nL X cl sl n g  tgt L st) : VS l R own cc nL X cl sl n g  pc L (.int x :: st) := fun p e s m args below meth c D cy A ad Q H locs ls C0 x0 i a hP hS hl => lv_lookup C0.1 C0.2.1 d hp ho ht (kk p e s m args below meth c D cy A ad Q H locs ls C0 x0 i a hP hS hl)
theorem VS.ldc {index : Nat} {v : Int32} (d : decode cc pc = .ok (.ldc index, 2)) (hc : (Cond.constant own index v) ∈ TB) (kk : VS l R own cc nL X cl sl n g  (pc + 2) L (.int v :: st)) : VS l R own cc nL X cl sl n g  pc L st := fun p e s m args below meth c D cy A ad Q H locs ls C0 x i a hP hS hl => lv_ldc C0.1 C0.2.1 C0.2.2.2.1 (C0.2.2.2.2.1 _ hc) d (kk p e s m args below meth c D cy A ad Q H locs ls C0 x i a hP hS hl)
theorem VS.ldc_w {index : Nat} {v : Int32} (d : decode cc pc = .ok (.ldc_w index, 3)) (hc : (Cond.constant own index v) ∈ TB) (kk : VS l R own cc nL X cl sl n g  (pc + 3) L (.int v :: st)) : VS l R own cc nL X cl sl n g  pc L st := fun p e s m args below meth c D cy A ad Q H locs ls C0 x i a hP hS hl => lv_ldcw C0.1 C0.2.1 C0.2.2.2.1 (C0.2.2.2.2.1 _ hc) d (kk p e s m args below meth c D cy A ad Q H locs ls C0 x i a hP hS hl)
theorem VS.ldc2 {index : Nat} {v : Int64} (d : decode cc pc = .ok (.ldc2_w index, 3)) (hc : (Cond.constantLong own index v) ∈ TB) (kk : VS l R own cc nL X cl sl n g  (pc + 3) L (.long v :: st)) : VS l R own cc nL X cl sl n g  pc L st := fun p e s m args below meth c D cy A ad Q H locs ls C0 x i a hP hS hl => lv_ldc2 C0.1 C0.2.1 C0.2.2.2.1 (C0.2.2.2.2.1 _ hc) d (kk p e s m args below meth c D cy A ad Q H locs ls C0 x i a hP hS hl)
theorem wat_r {cy : Nat → ClassId} {ad : Nat → Nat} {k ci : Nat} {fs : List Value} (hk : k < n) (hg : g k = .inr (ci, fs)) : (wd cy ad n g)[k]? = some (ad k, .inr (ci, fs.map (cV ad))) := by
  rw [wd_at hk, hg]; rfl
theorem wat_i {cy : Nat → ClassId} {ad : Nat → Nat} {k t N : Nat} {f : Nat → Int32} (hk : k < n) (hg : g k = .inl (t, N, .inl f)) : (wd cy ad n g)[k]? = some (ad k, .inl (cy t, N, .inl f)) := by
  rw [wd_at hk, hg]; rfl
theorem wat_q {cy : Nat → ClassId} {ad : Nat → Nat} {k t N : Nat} {f : Nat → Option Nat} (hk : k < n) (hg : g k = .inl (t, N, .inr (.inr (.inr (.inr f))))) : (wd cy ad n g)[k]? = some (ad k, .inl (cy t, N, .inr (.inr (.inr (.inr (fun i => (f i).map ad)))))) := by
  rw [wd_at hk, hg]; rfl
theorem VS.getf {o : Nat} {ref C : String} {T : u_T} {N index : Nat} {fs : List Value} {v : Value} (ci : Nat) (d : decode cc pc = .ok (.getfield index, 3)) (hu : ∀ w ∈ u_ws C T N, w ∈ TB) (hc : vwCl[ci]? = some (C, T, N)) (ho : o < n) (k : Nat) (hg : g o = .inr (ci, fs)) (hk : k < N) (hlink : (Cond.fieldLink own index ref (T k).2.1 (T k).2.2.1) ∈ TB) (hsame : (T k).1 = ref) (hv : fs[k]? = some v) (kk : VS l R own cc nL X cl sl n g  (pc + 3) L (v :: st)) : VS l R own cc nL X cl sl n g  pc L (.ref o :: st) := fun p e s m args below meth c D cy A ad Q H locs ls C0 x i a hP hS hl => va_get (D := D) C0.1 C0.2.1 C0.2.2.2.2.1 hu C0.2.2.2.1 C0.2.2.2.2.2.2.1 hP o (wat_r ho hg) hc k hk (C0.2.2.2.2.1 _ hlink) (fun _ h => by rw [← hsame]; exact h) (by rw [List.getElem?_map, hv]; rfl) d (kk p e s m args below meth c D cy A ad Q H locs ls C0 x i a hP hS hl)
theorem VS.putf {o : Nat} {ref C : String} {T : u_T} {N index : Nat} {fs : List Value} {v : Value} (ci : Nat) (d : decode cc pc = .ok (.putfield index, 3)) (hu : ∀ w ∈ u_ws C T N, w ∈ TB) (ty0 : Nat → FieldType) (hty : ∀ k, k < N → parseFieldDescriptor (T k).2.2.1 = some (ty0 k)) (hnm : ∀ a, a < N → ∀ b, b < N → a ≠ b → (T a).2.1 ≠ (T b).2.1) (hc : vwCl[ci]? = some (C, T, N)) (ho : o < n) (k : Nat) (hg : g o = .inr (ci, fs)) (hk : k < N) (hlink : (Cond.fieldLink own index ref (T k).2.1 (T k).2.2.1) ∈ TB) (hsame : (T k).1 = ref) (hfin : (T k).2.2.2 = false) (hn : ∀ ad : Nat → Nat, narrow (ty0 k) (cV ad v) = cV ad v) (hfit : ∀ ad : Nat → Nat, fits (ty0 k) (cV ad v) = true) (hl0 : k < fs.length) (kk : VS l R own cc nL X cl sl n (va_up g o (.inr (ci, fs.set k v))) (pc + 3) L st) : VS l R own cc nL X cl sl n g  pc L (v :: .ref o :: st) := by
  intro p e s m args below meth c D cy A ad Q H locs ls C0 x i a hP hS hl
  refine va_put (D := D) C0.1 C0.2.1 C0.2.2.2.2.1 hu ty0 hty hnm C0.2.2.2.1 C0.2.2.2.2.2.2.1 hP (wd_D i a) hS o (wat_r ho hg) hc k hk (C0.2.2.2.2.1 _ hlink) (fun _ h => by rw [← hsame]; exact h) hfin (hty k hk) (hn ad) (hfit ad) (by simpa using hl0) d (fun H1 locs1 hP1 _ hS1 => ?_)
  have e1 : (o, ad o, cE cy ad (.inr (ci, fs.set k v))) = (o, ad o, .inr (ci, (fs.map (cV ad)).set k (cV ad v))) := by
    simp [cE, List.map_set]
  have e2 : (wd cy ad n g).set o (ad o, .inr (ci, (fs.map (cV ad)).set k (cV ad v))) = wd cy ad n (va_up g o (.inr (ci, fs.set k v))) := by
    rw [← wd_set ho]; congr 2; exact (congrArg (fun z => z.2.2) e1).symm
  rw [e2] at hP1
  exact kk p e s m args below meth c D cy A ad Q H1 locs1 ls C0 x i a hP1 hS1 hl
theorem VS.putF {o : Nat} {ref C : String} {T : u_T} {N index : Nat} {fs : List Value} {v : Value} (ci : Nat) (d : decode cc pc = .ok (.putfield index, 3)) (hu : ∀ w ∈ u_ws C T N, w ∈ TB) (ty0 : Nat → FieldType) (hty : ∀ k, k < N → parseFieldDescriptor (T k).2.2.1 = some (ty0 k)) (hnm : ∀ a, a < N → ∀ b, b < N → a ≠ b → (T a).2.1 ≠ (T b).2.1) (hc : vwCl[ci]? = some (C, T, N)) (ho : o < n) (k : Nat) (hg : g o = .inr (ci, fs)) (hk : k < N) (hlink : (Cond.fieldLink own index ref (T k).2.1 (T k).2.2.1) ∈ TB) (hsame : (T k).1 = ref) (hfin : (T k).2.2.2 = true) (hX : ∀ s args below meth D cy A ad Q, X s args below meth D cy A ad Q → meth.name = "<init>") (hown : (T k).1 = own) (hn : ∀ ad : Nat → Nat, narrow (ty0 k) (cV ad v) = cV ad v) (hfit : ∀ ad : Nat → Nat, fits (ty0 k) (cV ad v) = true) (hl0 : k < fs.length) (kk : VS l R own cc nL X cl sl n (va_up g o (.inr (ci, fs.set k v))) (pc + 3) L st) : VS l R own cc nL X cl sl n g  pc L (v :: .ref o :: st) := by
  intro p e s m args below meth c D cy A ad Q H locs ls C0 x i a hP hS hl
  refine va_putF (D := D) C0.1 C0.2.1 C0.2.2.2.2.1 hu ty0 hty hnm C0.2.2.2.1 C0.2.2.2.2.2.2.1 hP (wd_D i a) hS o (wat_r ho hg) hc k hk (C0.2.2.2.2.1 _ hlink) (fun _ h => by rw [← hsame]; exact h) hfin (hX _ _ _ _ _ _ _ _ _ x) hown (hty k hk) (hn ad) (hfit ad) (by simpa using hl0) d (fun H1 locs1 hP1 _ hS1 => ?_)
  have e1 : (o, ad o, cE cy ad (.inr (ci, fs.set k v))) = (o, ad o, .inr (ci, (fs.map (cV ad)).set k (cV ad v))) := by
    simp [cE, List.map_set]
  have e2 : (wd cy ad n g).set o (ad o, .inr (ci, (fs.map (cV ad)).set k (cV ad v))) = wd cy ad n (va_up g o (.inr (ci, fs.set k v))) := by
    rw [← wd_set ho]; congr 2; exact (congrArg (fun z => z.2.2) e1).symm
  rw [e2] at hP1
  exact kk p e s m args below meth c D cy A ad Q H1 locs1 ls C0 x i a hP1 hS1 hl
theorem VS.iald {o N : Nat} {f : Nat → Int32} {j : Int32} (d : decode cc pc = .ok (.iaload, 1)) (ho : o < n) (hg : g o = .inl (1, N, .inl f)) (hin : vp_in j N) (kk : VS l R own cc nL X cl sl n g  (pc + 1) L (.int (f j.toNatClampNeg) :: st)) : VS l R own cc nL X cl sl n g  pc L (.int j :: .ref o :: st) := fun p e s m args below meth c D cy A ad Q H locs ls C0 x i a hP hS hl => va_iald (D := D) C0.1 C0.2.1 C0.2.2.2.2.2.2.1 hP o 1 (wat_i ho hg) rfl hin d (kk p e s m args below meth c D cy A ad Q H locs ls C0 x i a hP hS hl)
theorem VS.cald {o N : Nat} {f : Nat → Int32} {j : Int32} (d : decode cc pc = .ok (.caload, 1)) (ho : o < n) (hg : g o = .inl (0, N, .inl f)) (hin : vp_in j N) (kk : VS l R own cc nL X cl sl n g  (pc + 1) L (.int (f j.toNatClampNeg) :: st)) : VS l R own cc nL X cl sl n g  pc L (.int j :: .ref o :: st) := fun p e s m args below meth c D cy A ad Q H locs ls C0 x i a hP hS hl => va_cald (D := D) C0.1 C0.2.1 C0.2.2.2.2.2.2.1 hP o 0 (wat_i ho hg) rfl hin d (kk p e s m args below meth c D cy A ad Q H locs ls C0 x i a hP hS hl)
theorem VS.iast {o N : Nat} {f : Nat → Int32} {j z : Int32} (d : decode cc pc = .ok (.iastore, 1)) (ho : o < n) (hg : g o = .inl (1, N, .inl f)) (hin : vp_in j N) (kk : VS l R own cc nL X cl sl n (va_up g o (.inl (1, N, .inl (upd f j.toNatClampNeg z)))) (pc + 1) L st) : VS l R own cc nL X cl sl n g  pc L (.int z :: .int j :: .ref o :: st) := by
  intro p e s m args below meth c D cy A ad Q H locs ls C0 x i a hP hS hl
  refine va_iast (D := D) C0.1 C0.2.1 C0.2.2.2.2.2.2.1 hP (wd_D i a) hS o 1 (wat_i ho hg) rfl hin d (fun H1 locs1 hP1 _ hS1 => ?_)
  have e2 : (wd cy ad n g).set o (ad o, .inl (cy 1, N, .inl (upd f j.toNatClampNeg z))) = wd cy ad n (va_up g o (.inl (1, N, .inl (upd f j.toNatClampNeg z)))) := by
    rw [← wd_set ho]; rfl
  rw [e2] at hP1
  exact kk p e s m args below meth c D cy A ad Q H1 locs1 ls C0 x i a hP1 hS1 hl
theorem VS.cast {o N : Nat} {f : Nat → Int32} {j z : Int32} (d : decode cc pc = .ok (.castore, 1)) (ho : o < n) (hg : g o = .inl (0, N, .inl f)) (hin : vp_in j N) (kk : VS l R own cc nL X cl sl n (va_up g o (.inl (0, N, .inl (upd f j.toNatClampNeg (vp_nar .char z))))) (pc + 1) L st) : VS l R own cc nL X cl sl n g  pc L (.int z :: .int j :: .ref o :: st) := by
  intro p e s m args below meth c D cy A ad Q H locs ls C0 x i a hP hS hl
  refine va_cast (D := D) C0.1 C0.2.1 C0.2.2.2.2.2.2.1 hP (wd_D i a) hS o 0 (wat_i ho hg) rfl hin d (fun H1 locs1 hP1 _ hS1 => ?_)
  have e2 : (wd cy ad n g).set o (ad o, .inl (cy 0, N, .inl (upd f j.toNatClampNeg (vp_nar .char z)))) = wd cy ad n (va_up g o (.inl (0, N, .inl (upd f j.toNatClampNeg (vp_nar .char z))))) := by
    rw [← wd_set ho]; rfl
  rw [e2] at hP1
  exact kk p e s m args below meth c D cy A ad Q H1 locs1 ls C0 x i a hP1 hS1 hl
theorem VS.alen {o t N : Nat} {y} {v : Int32} (ty : FieldType) (d : decode cc pc = .ok (.arraylength, 1)) (ho : o < n) (hg : g o = .inl (t, N, y)) (ht : ∀ cy : Nat → ClassId, (tysA cy)[t]? = some (cy t, ty)) (hv : Int32.ofNat N = v) (kk : VS l R own cc nL X cl sl n g  (pc + 1) L (.int v :: st)) : VS l R own cc nL X cl sl n g  pc L (.ref o :: st) := by
  intro p e s m args below meth c D cy A ad Q H locs ls C0 x i a hP hS hl
  obtain ⟨x2, h1, h2⟩ : ∃ x2 : vp_A, (wd cy ad n g)[o]? = some (ad o, .inl (cy t, x2)) ∧ x2.1 = N := by
    rw [wd_at ho, hg]
    rcases y with y | y | y | y | y <;> exact ⟨_, rfl, rfl⟩
  exact va_alen (D := D) C0.1 C0.2.1 C0.2.2.2.2.2.2.1 hP o t h1 (ht cy) (by rw [h2]; exact hv) d (kk p e s m args below meth c D cy A ad Q H locs ls C0 x i a hP hS hl)
theorem VS.aald {o N : Nat} {f : Nat → Option Nat} {j : Int32} {v : Value} (d : decode cc pc = .ok (.aaload, 1)) (ho : o < n) (hg : g o = .inl (3, N, .inr (.inr (.inr (.inr f))))) (hin : vp_in j N) (hv : va_rf (f j.toNatClampNeg) = v) (kk : VS l R own cc nL X cl sl n g  (pc + 1) L (v :: st)) : VS l R own cc nL X cl sl n g  pc L (.int j :: .ref o :: st) := by
  intro p e s m args below meth c D cy A ad Q H locs ls C0 x i a hP hS hl
  refine va_aldq (D := D) C0.1 C0.2.1 C0.2.2.2.2.2.2.1 hP o 3 (wat_q ho hg) rfl hin d ?_
  have e9 : va_rf ((f j.toNatClampNeg).map ad) = cV ad v := by rw [← hv]; cases f j.toNatClampNeg <;> rfl
  show W p l e R s m args below meth c H locs cl sl Q (F0 m (pc + 1) ls (va_rf ((f j.toNatClampNeg).map ad) :: List.map (cV ad) st))
  rw [e9]
  exact kk p e s m args below meth c D cy A ad Q H locs ls C0 x i a hP hS hl
theorem VS.aast {o o2 N ci : Nat} {f : Nat → Option Nat} {j : Int32} {fs : List Value} {T : u_T} {M : Nat} (d : decode cc pc = .ok (.aastore, 1)) (ho : o < n) (hg : g o = .inl (3, N, .inr (.inr (.inr (.inr f))))) (hin : vp_in j N) (ho2 : o2 < n) (hg2 : g o2 = .inr (ci, fs)) (hc : vwCl[ci]? = some (RX0, T, M)) (kk : VS l R own cc nL X cl sl n (va_up g o (.inl (3, N, .inr (.inr (.inr (.inr (va_up f j.toNatClampNeg (some o2)))))))) (pc + 1) L st) : VS l R own cc nL X cl sl n g  pc L (.ref o2 :: .int j :: .ref o :: st) := by
  intro p e s m args below meth c D cy A ad Q H locs ls C0 x i a hP hS hl
  refine va_astq (D := D) C0.1 C0.2.1 C0.2.2.2.2.2.2.1 hP (wd_D i a) hS o 3 o2 ci (wat_q ho hg) rfl (wat_r ho2 hg2) hc hin d (fun H1 locs1 hP1 _ hS1 => ?_)
  have e3 : va_up (fun i => (f i).map ad) j.toNatClampNeg (some (ad o2)) = fun i => (va_up f j.toNatClampNeg (some o2) i).map ad := by
    funext q; unfold va_up; split <;> rfl
  have e2 : (wd cy ad n g).set o (ad o, .inl (cy 3, N, .inr (.inr (.inr (.inr (va_up (fun i => (f i).map ad) j.toNatClampNeg (some (ad o2)))))))) = wd cy ad n (va_up g o (.inl (3, N, .inr (.inr (.inr (.inr (va_up f j.toNatClampNeg (some o2)))))))) := by
    rw [← wd_set ho, e3]; rfl
  rw [e2] at hP1
  exact kk p e s m args below meth c D cy A ad Q H1 locs1 ls C0 x i a hP1 hS1 hl
theorem VS.gslen {Cn fn ref : String} {N index : Nat} {f : Nat → Int32} {v : Int32} (hsa : ∀ (A : Nat → Prop) (U : State) (H : Heap), EN A U H → SA Cn fn N f A U H) (d : decode cc pc = .ok (.getstatic index, 3)) (d2 : decode cc (pc + 3) = .ok (.arraylength, 1)) (hlink : (Cond.fieldLink own index Cn fn "[I") ∈ TB) (hv : Int32.ofNat N = v) (kk : VS l R own cc nL X cl sl n g  (pc + 4) L (.int v :: st)) : VS l R own cc nL X cl sl n g  pc L st := by
  intro p e s m args below meth c D cy A ad Q H locs ls C0 x i a hP hS hl
  obtain ⟨t, h1, h2⟩ := hsa _ _ _ C0.2.2.2.2.2.2.2
  exact va_gets C0.1 C0.2.1 h1 hS C0.2.2.2.1 (C0.2.2.2.2.1 _ hlink) (fun _ h => h) d (va_tlen C0.1 C0.2.1 h2 hS hv d2 (kk p e s m args below meth c D cy A ad Q H locs ls C0 x i a hP hS hl))
theorem VS.gsld {Cn fn ref : String} {N index : Nat} {f : Nat → Int32} {k : Fin 4} {j : Int32} (hsa : ∀ (A : Nat → Prop) (U : State) (H : Heap), EN A U H → SA Cn fn N f A U H) (d : decode cc pc = .ok (.getstatic index, 3)) (d2 : decode cc (pc + 3) = .ok (.iload_n k, 1)) (d3 : decode cc (pc + 4) = .ok (.iaload, 1)) (hlink : (Cond.fieldLink own index Cn fn "[I") ∈ TB) (hv : L[(k : Nat)]? = some (some (.int j))) (hin : vp_in j N) (kk : VS l R own cc nL X cl sl n g  (pc + 5) L (.int (f j.toNatClampNeg) :: st)) : VS l R own cc nL X cl sl n g  pc L st := by
  intro p e s m args below meth c D cy A ad Q H locs ls C0 x i a hP hS hl
  obtain ⟨t, h1, h2⟩ := hsa _ _ _ C0.2.2.2.2.2.2.2
  exact va_gets C0.1 C0.2.1 h1 hS C0.2.2.2.1 (C0.2.2.2.2.1 _ hlink) (fun _ h => h) d (lv_iload_n C0.1 C0.2.1 d2 rfl (lget hl hv) (va_ti C0.1 C0.2.1 h2 hS hin rfl d3 (kk p e s m args below meth c D cy A ad Q H locs ls C0 x i a hP hS hl)))
theorem VS.mmin {index : Nat} {x y : Int32} (d : decode cc pc = .ok (.invokestatic index, 3)) (hlink : (Cond.methodLink own index Lib.Math.min.name) ∈ TB) (hR : 1 ≤ R.frames ∧ 29 ≤ R.locals ∧ cl ≤ R.cells ∧ sl ≤ R.slots) (hst : (st.map fun v => v.category).sum ≤ 16) (kk : VS l R own cc nL X cl sl n g  (pc + 3) L (.int (if y < x then y else x) :: st)) : VS l R own cc nL X cl sl n g  pc L (.int y :: .int x :: st) := fun p e s m args below meth c D cy A ad Q H locs ls C0 x0 i a hP hS hl => va_mmin C0.1 C0.2.1 (C0.2.2.1.trans hl.1.symm) C0.2.2.2.1 (C0.2.2.2.2.1 _ hlink) (C0.2.2.2.2.1 _ st_J9_min) (C0.2.2.2.2.1 _ ini_J9) (C0.2.2.2.2.1 _ cd_J9_min) hR.1 (by rw [cV_cats]; omega) hR.2.2.1 hR.2.2.2 d (kk p e s m args below meth c D cy A ad Q H locs ls C0 x0 i a hP hS hl)
theorem VS.mmax {index : Nat} {x y : Int32} (d : decode cc pc = .ok (.invokestatic index, 3)) (hlink : (Cond.methodLink own index Lib.Math.max.name) ∈ TB) (hR : 1 ≤ R.frames ∧ 29 ≤ R.locals ∧ cl ≤ R.cells ∧ sl ≤ R.slots) (hst : (st.map fun v => v.category).sum ≤ 16) (kk : VS l R own cc nL X cl sl n g  (pc + 3) L (.int (if x < y then y else x) :: st)) : VS l R own cc nL X cl sl n g  pc L (.int y :: .int x :: st) := fun p e s m args below meth c D cy A ad Q H locs ls C0 x0 i a hP hS hl => va_mmax C0.1 C0.2.1 (C0.2.2.1.trans hl.1.symm) C0.2.2.2.1 (C0.2.2.2.2.1 _ hlink) (C0.2.2.2.2.1 _ st_J9_max) (C0.2.2.2.2.1 _ ini_J9) (C0.2.2.2.2.1 _ cd_J9_max) hR.1 (by rw [cV_cats]; omega) hR.2.2.1 hR.2.2.2 d (kk p e s m args below meth c D cy A ad Q H locs ls C0 x0 i a hP hS hl)
end VSR
