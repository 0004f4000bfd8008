/-! the script, in the law and in its method cell; the law's end -/
def R_law : String := "LiarMapsLaw"
def lw_P (b : Addr) (xs : List Int32) (args : Array Value) (s : State) : Prop := args = #[.ref b] ∧ s.IntsAt b xs ∧ xs.length ≤ 260 ∧ (Jvm.Cond.and given_1 narrow_1).before args s = true
def lw_Q (_ : Array Value) (s : State) (o : Outcome) (t : State) : Prop := o = .returned (some (.int 1)) ∧ Framed s o t [] 600000 7302250
def lw_Z (below : List Frame) (a : Array Value) (s : State) : State → Prop := fun t => ∃ o, t.status = .running ∧ Ended t below o ∧ lw_Q a s o t
/-- the law's own end, with 1 on the stack, nothing written that was there before, its room as the claim has it -/
theorem lw_ret {p : Program} {l : Launch} {e : Env} {s : State} {m : MethodId} {below : List Frame} {meth : Method} {c : Code} {b : Nat} (hx : p.tables.exec = Jvm.exec) (hb : c.code = code) (hr : meth.sig.returnType = ret) (hlocks : meth.locks = false) {pc : Nat} {H : Heap} {ls : Array Slot} (hdg : decode code pc = .ok (.ireturn, 1)) : W p l e room_1 s m #[Value.ref b] below meth c H [] 600000 7302250 (lw_Z below #[Value.ref b] s) (F0 m pc ls [.int 1]) := by
  intro T hT X
  obtain ⟨fs, hret, hrun, hended, hW, hframe⟩ := X.leave (v := some (.int 1)) (hlocks := hlocks) (fun h => by rw [hr] at h; cases h)
  have hmeth' : T.vm.method? m = some meth := X.method'
  refine ⟨T.setFrames fs, ?_, .returned (some (.int 1)), hrun, hended, rfl, ⟨_, rfl⟩, hW, hframe⟩
  jvm_step X.here [X.here.top, hx, hb, hdg, hmeth', hr, ret, narrow_b1]
  (try refine ⟨rfl, ?_⟩); (try refine ⟨rfl, ?_⟩)
  first | (intro acts; rw [hret _ acts rfl rfl rfl]) | rw [hret _ _ rfl rfl rfl]
  exact Steps.refl _
/-- what holds at the law's entry: the machine, the code, the tables' words (any of lw_tbl by 'hts w (by decide +kernel)'), the script of L ints xs at the cell b, what the Statement gives of the start (any of its parts by flat_of_before) -/
def lw_At (p : Program) (s : State) (m : MethodId) (meth : Method) (c : Code) (b L : Nat) (xs : Nat → Int32) : Prop :=
  p.tables.exec = Jvm.exec ∧ c.code = code ∧ meth.sig.returnType = ret ∧ c.maxLocals = 8 ∧ s.vm.findClass R_law = some m.cls ∧ (∀ w ∈ lw_tbl, w.before #[Value.ref b] s = true) ∧ va_X b L xs s s.heap ∧ b < s.heap.size ∧ meth.locks = false ∧ (Jvm.Cond.and given_1 narrow_1).before #[Value.ref b] s = true
/-- the law's own context: the script is at 200 -/
def XL (N : Nat) (xs : Nat → Int32) : XT := fun s args below meth _ _ A ad Q => (∀ q, A q ↔ s.heap.size ≤ q) ∧ args = #[Value.ref (ad 200)] ∧ va_X (ad 200) N xs s s.heap ∧ ad 200 < s.heap.size ∧ meth.sig.returnType = ret ∧ Q = lw_Z below args s
/-- a context that sees the script -/
def SeesX (X : XT) (N : Nat) (xs : Nat → Int32) : Prop := ∀ s args below meth D cy A ad Q, X s args below meth D cy A ad Q → va_X (ad 200) N xs s s.heap ∧ ad 200 < s.heap.size ∧ ¬ A (ad 200)
theorem XL.sees {N : Nat} {xs : Nat → Int32} : SeesX (XL N xs) N xs := fun s args below meth D cy A ad Q h => ⟨h.2.2.1, h.2.2.2.1, fun z => by have := (h.1 _).mp z; have := h.2.2.2.1; omega⟩
def PreX (D : va_G) (cy : Nat → ClassId) (ad : Nat → Nat) (N : Nat) (xs : Nat → Int32) : State → Prop := fun U => (va_X (ad 200) N xs U U.heap ∧ ad 200 < U.heap.size) ∧ va_K D vwCl (tysA cy) U ∧ EN (AA ad 0) U U.heap
/-- a method that reads the script: it makes and changes nothing -/
def CtX (l : Launch) (y : MethodName) (cc : ByteArray) (nL : Nat) (ret : Option FieldType) (rm : Room) (as : List Value) (N : Nat) (xs : Nat → Int32) (r : Option Value) : Prop := ∀ (D : va_G) (cy : Nat → ClassId) (ad : Nat → Nat), Met l y (wM y cc nL ret) rm (va_Pc (as.map (cV ad)) (PreX D cy ad N xs)) (QF D cy ad 0 r gz) 0 0 (AA ad 0)
def XC (ret : Option FieldType) (N : Nat) (xs : Nat → Int32) (r : Option Value) : XT := fun s args below meth D cy A ad Q => (meth.sig.returnType = ret ∧ A = AA ad 0 ∧ Q = MQ below (QF D cy ad 0 r gz) args s 0 0 (AA ad 0)) ∧ va_X (ad 200) N xs s s.heap ∧ ad 200 < s.heap.size
theorem XC.sees {ret : Option FieldType} {N : Nat} {xs : Nat → Int32} {r : Option Value} : SeesX (XC ret N xs r) N xs := fun s args below meth D cy A ad Q h => ⟨h.2.1, h.2.2, fun z => by rw [h.1.2.1] at z; obtain ⟨k, hk, -⟩ := z; exact absurd hk (Nat.not_lt_zero _)⟩
theorem CtX.of {l : Launch} {y : MethodName} {cc : ByteArray} {nL : Nat} {ret : Option FieldType} {rm : Room} {as : List Value} {N : Nat} {xs : Nat → Int32} {r : Option Value} {own : String} (L0 : List (Option Value)) (hy : plainName y.cls = true) (hown : y.cls = own) (hlen : ∀ ad : Nat → Nat, (lg_sl (as.map (cV ad))).length ≤ nL) (hL : ∀ ad : Nat → Nat, asL ad 0 L0 = lv_args 0 (as.map (cV ad))) (hv : VS l rm own cc nL (XC ret N xs r) 0 0 0 gz 0 L0 []) : CtX l y cc nL ret rm as N xs r := by
  intro D cy ad
  refine Met.ofW (cc := cc) (maxL := nL) (ret := ret) hy rfl ?_
  intro p e s m args below meth c s₁ B hml hp
  obtain ⟨rfl, ⟨hX, hbl⟩, hK, hE⟩ := hp
  have hts := atoms_spec (ws := wM y cc nL ret) B.pre
  have hown2 : s.vm.findClass own = some m.cls := by rw [← hown]; exact findClass_of_methodNamed B.named
  rw [lg_entry_eq]
  exact hv p e s m _ below meth c D cy (AA ad 0) ad _ s.heap [] _ ⟨B.exec, B.bytes, hml, hown2, fun w hw => hts w (List.mem_cons_of_mem _ hw), B.notSynchronized, hK, hE⟩ ⟨⟨B.returns, rfl, rfl⟩, hX, hbl⟩ (fun i j hi => absurd hi (Nat.not_lt_zero _)) (fun k hk => absurd hk (Nat.not_lt_zero _)) (fun k q hq => by cases hq) va_S.rf (by rw [hL]; exact lv_entry _ (hlen ad))
theorem PreX.blind {av : List Value} {D : va_G} {cy : Nat → ClassId} {ad : Nat → Nat} {N : Nat} {xs : Nat → Int32} : FrameBlind (va_Pc av (PreX D cy ad N xs)) := fun a U gf mk q => by
  obtain ⟨q0, ⟨qX, qb⟩, qK, qE⟩ := q
  exact ⟨q0, ⟨va_X.moved (u := U) (U := U.calling gf mk a) (Vm.Alike.refl U.vm) qX, qb⟩, va_K.moved (u := U) (U := U.calling gf mk a) (Vm.Alike.refl U.vm) qK, qE.calling a gf mk⟩
section
variable {l : Launch} {R : Room} {own : String} {cc : ByteArray} {nL N : Nat} {xs : Nat → Int32} {X : XT} {cl sl n : Nat} {g : Nat → va_E} {pc : Nat} {L : List (Option Value)} {st stk : List Value}
theorem VS.xald (hX : SeesX X N xs) (k : Nat) (d : decode cc pc = .ok (.iaload, 1)) (hk : k < N) (hN : N ≤ 260) (kk : VS l R own cc nL X cl sl n g (pc + 1) L (.int (xs k) :: st)) : VS l R own cc nL X cl sl n g pc L (.int (nI k) :: .ref 200 :: st) := by
  intro p e s m args below meth c D cy A ad Q H locs ls C0 x i a hP hS hl
  obtain ⟨h1, h2, h3⟩ := hX _ _ _ _ _ _ _ _ _ x
  refine va_sld C0.1 C0.2.1 h1 h2 h3 hS (i := nI k) (vp_in_nI hk (by omega)) d ?_
  rw [nI_clamp (by omega)]
  exact kk p e s m args below meth c D cy A ad Q H locs ls C0 x i a hP hS hl
theorem VS.xlen (hX : SeesX X N xs) (d : decode cc pc = .ok (.arraylength, 1)) (kk : VS l R own cc nL X cl sl n g (pc + 1) L (.int (nI N) :: st)) : VS l R own cc nL X cl sl n g pc L (.ref 200 :: st) := by
  intro p e s m args below meth c D cy A ad Q H locs ls C0 x i a hP hS hl
  obtain ⟨h1, h2, h3⟩ := hX _ _ _ _ _ _ _ _ _ x
  exact va_slen C0.1 C0.2.1 h1 h2 h3 hS d (kk p e s m args below meth c D cy A ad Q H locs ls C0 x i a hP hS hl)
theorem VS.xret {v : Int32} (d : decode cc pc = .ok (.ireturn, 1)) : VS l R own cc nL (XC (some .int) N xs (some (.int v))) 0 0 0 gz pc L [.int v] := by
  intro p e s m args below meth c D cy A ad Q H locs ls C0 x i a hP hS hl
  obtain ⟨⟨h1, h2, h3⟩, -⟩ := x
  subst h2; subst h3
  exact W.iret C0.1 C0.2.1 h1 (fun t ht _ => ⟨⟨rfl, by rw [ht]; exact hP⟩, hS.F ht⟩) hS.2.2 d (hlocks := C0.2.2.2.2.2.1)
theorem VS.lwret (hcl : cl ≤ 600000) (hsl : sl ≤ 7302250) (d : decode code pc = .ok (.ireturn, 1)) : VS l room_1 own code nL (XL N xs) cl sl n g pc L [.int 1] := by
  intro p e s m args below meth c D cy A ad Q H locs ls C0 x i a hP hS hl
  obtain ⟨h1, rfl, h3, h4, h5, rfl⟩ := id x
  refine va_forget (fun q hq => (h1 _).mp (hS.2.2 q hq)) ?_
  refine W.widen hcl hsl ?_
  exact lw_ret C0.1 C0.2.1 h5 C0.2.2.2.2.2.1 d
variable {y : MethodName} {cc1 : ByteArray} {nL1 index : Nat} {ret1 : Option FieldType} {rm1 : Room} {as : List Value} {r : Option Value}
theorem VS.callX (hX : SeesX X N xs) (hC : CtX l y cc1 nL1 ret1 rm1 as N xs r) (d : decode cc pc = .ok (.invokestatic index, 3)) (hm : MI y cc1 nL1 ret1 as.length) (hst : Cond.static y ∈ TB) (hml : Cond.methodLink own index y ∈ TB) (hR : RmOk rm1 nL1 R cl sl) (hst8 : (st.map fun v => v.category).sum ≤ 8) (hk : stk = as.reverse ++ st)
    (kk : VS l R own cc nL X cl sl n g (pc + 3) L ((r.map (cV (fun i => i))).toList ++ st)) : VS l R own cc nL X cl sl n g pc L stk := by
  intro p e s m args below meth c D cy A ad Q H locs ls C0 x i a hP hS hl
  have hts := C0.2.2.2.2.1
  obtain ⟨h1, h2, h3⟩ := hX _ _ _ _ _ _ _ _ _ x
  refine run_endF (ρ := fun i => i) (n1 := 0) (g1 := gz) (g2 := gz) (va_runS (As := as.map (cV ad)) (rest := st.map (cV ad)) (n := as.length) (Ts := TB) ⟨C0.1, C0.2.1, C0.2.2.1, C0.2.2.2.1, hts⟩ (hC D cy ad) ⟨callB_of as.length hts (wM_good hm.1) rfl hR.2.1.1 hR.2.1.2 (hts _ hm.2.1) (hts _ hml) hm.2.2 hR.1, hts _ hst⟩ ⟨PreX.blind, fun U hU hW => ⟨rfl, ⟨?_, ?_⟩, va_K.moved hW.alike C0.2.2.2.2.2.2.1, ?_⟩⟩ rfl (by rw [List.length_map]) hl.1 ?_ (lv_room (by rw [cV_cats]; exact hst8)) d ⟨hR.2.2.1, hR.2.2.2⟩) Frm.zero C0 x i a hP hS hl kk
  · rw [hU]
    exact (va_X.moved hW.alike h1).kept (hS.2.1 _ h2 h3)
  · rw [hU]; exact Nat.lt_of_lt_of_le h2 hS.1
  · rw [hU]
    refine (C0.2.2.2.2.2.2.2.now hS hW).narrow ?_
    rintro q ⟨k, hk, -⟩
    exact absurd hk (Nat.not_lt_zero _)
  · show stk.map (cV ad) = _
    rw [hk, List.map_append, List.map_reverse]
end
def cellV (N : Nat) (xs : Nat → Int32) (k : Nat) : Int32 := (if k < N then xs k else 54881 * (nI k + 61) + 101) &&& 2147483647
theorem and_max (x : Int32) : ∃ m, m < 2 ^ 31 ∧ x &&& 2147483647 = nI m := by
  refine ⟨x.toBitVec.toNat % 2 ^ 31, Nat.mod_lt _ (by decide), ?_⟩
  apply Int32.toBitVec_inj.mp
  apply BitVec.eq_of_toNat_eq
  have e : x.toBitVec.toNat &&& 2147483647 = x.toBitVec.toNat % 2 ^ 31 := Nat.and_two_pow_sub_one_eq_mod _ 31
  show x.toBitVec.toNat &&& 2147483647 = (x.toBitVec.toNat % 2 ^ 31) % 2 ^ 32
  omega
set_option maxRecDepth 100000 in
set_option maxHeartbeats 1500000 in
theorem ct_L_cell (l : Launch) {N k : Nat} {xs : Nat → Int32} (hN : N ≤ 260) (hk : k < 100) : CtX l yL_cell cL_cell 2 (some .int) (rmD 0) [.ref 200, .int (nI k)] N xs (some (.int (cellV N xs k))) := by
  refine CtX.of (own := RL) [some (.ref 200), some (.int (nI k))] (by decide +kernel) rfl (fun _ => Nat.le_of_ble_eq_true rfl) (fun _ => rfl) ?_
  refine VS.iload_n dL_cell_0 rfl ?_
  refine VS.aload_n dL_cell_1 rfl ?_
  refine VS.xlen XC.sees dL_cell_2 ?_
  refine VS.icmp_ge 12 dL_cell_3 (by decide) (fun h => ?_) (fun h => ?_)
  · have hn : ¬ k < N := fun z => absurd h (nI_ge z (by omega))
    refine VS.ldc dL_cell_12 kc_L_7 ?_
    refine VS.iload_n dL_cell_14 rfl ?_
    refine VS.bipush (61) dL_cell_15 rfl ?_
    refine VS.iadd dL_cell_17 ?_
    refine VS.imul dL_cell_18 ?_
    refine VS.bipush (101) dL_cell_19 rfl ?_
    refine VS.iadd dL_cell_21 ?_
    refine VS.ldc dL_cell_22 kc_L_8 ?_
    refine VS.iand dL_cell_24 ?_
    refine VS.val (y := cellV N xs k) (by unfold cellV; rw [if_neg hn]) ?_
    exact VS.xret dL_cell_25
  · have hn : k < N := Classical.byContradiction fun z => h (nI_le (by omega) (by omega))
    refine VS.aload_n dL_cell_6 rfl ?_
    refine VS.iload_n dL_cell_7 rfl ?_
    refine VS.xald XC.sees k dL_cell_8 hn hN ?_
    refine VS.goto 22 dL_cell_9 (by decide) ?_
    refine VS.ldc dL_cell_22 kc_L_8 ?_
    refine VS.iand dL_cell_24 ?_
    refine VS.val (y := cellV N xs k) (by unfold cellV; rw [if_pos hn]) ?_
    exact VS.xret dL_cell_25
