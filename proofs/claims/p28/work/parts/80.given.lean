/-! the law's start: what the Statement gives of it -/
theorem start_K {args : Array Value} {s : State} (hts : ∀ w ∈ TB, w.before args s = true) (hov : (Cond.arrayOver (.object RX0)).before args s = true) : ∃ (D : va_G) (cy : Nat → ClassId), va_K D vwCl (tysA cy) s := by
  obtain ⟨c0, i0, k0⟩ := u_known hts uw_X0 (hts _ ins_X0)
  obtain ⟨c1, i1, k1⟩ := u_known hts uw_X2 (hts _ ins_X2)
  obtain ⟨c2, i2, k2⟩ := u_known hts uw_X3 (hts _ ins_X3)
  obtain ⟨c3, i3, k3⟩ := u_known hts uw_X4 (hts _ ins_X4)
  obtain ⟨c4, i4, k4⟩ := u_known hts uw_X5 (hts _ ins_X5)
  obtain ⟨c5, i5, k5⟩ := u_known hts uw_X6 (hts _ ins_X6)
  obtain ⟨a0, b0, d0, x0, y0, w0⟩ := Cond.arrayClass_spec (hts _ ac_char)
  obtain ⟨a1, b1, d1, x1, y1, w1⟩ := Cond.arrayClass_spec (hts _ ac_int)
  obtain ⟨comp, a3, b3, x3, -, y3, w3, v3⟩ := Cond.arrayOver_spec hov
  refine ⟨(fun c => if c = 0 then c0 else if c = 1 then c1 else if c = 2 then c2 else if c = 3 then c3 else if c = 4 then c4 else c5, fun c => if c = 0 then i0 else if c = 1 then i1 else if c = 2 then i2 else if c = 3 then i3 else if c = 4 then i4 else i5), fun t => if t = 0 then a0 else if t = 1 then a1 else if t = 2 then a1 else a3, fun c q hq => ?_, fun k q hq => ?_⟩
  · have hc : c < 6 := (List.getElem?_eq_some_iff.mp hq).1
    rcases (show c = 0 ∨ c = 1 ∨ c = 2 ∨ c = 3 ∨ c = 4 ∨ c = 5 by omega) with rfl | rfl | rfl | rfl | rfl | rfl <;> cases hq
    · exact k0
    · exact k1
    · exact k2
    · exact k3
    · exact k4
    · exact k5
  · have hk : k < 4 := (List.getElem?_eq_some_iff.mp hq).1
    rcases (show k = 0 ∨ k = 1 ∨ k = 2 ∨ k = 3 by omega) with rfl | rfl | rfl | rfl <;> cases hq
    · exact ⟨fun n z => ⟨(fun k h => (by cases h)), b0, y0, d0, w0⟩, x0⟩
    · exact ⟨fun n z => ⟨(fun k h => (by cases h)), b1, y1, d1, w1⟩, x1⟩
    · exact ⟨fun n z => ⟨(fun k h => (by cases h)), b1, y1, d1, w1⟩, x1⟩
    · exact ⟨fun n z => ⟨(fun k h => (by cases h)), b3, y3, comp, w3⟩, b3, comp, y3, w3, x3, v3⟩
theorem sa_FIRST_SETTINGS {b : Nat} {s : State} {A : Nat → Prop} (hts : ∀ w ∈ lw_tbl, w.before #[Value.ref b] s = true) (hgv : (Jvm.Cond.and given_1 narrow_1).before #[Value.ref b] s = true) (hA : ∀ a : Nat, a < s.heap.size → ¬ A a) : SA RX0 "FIRST_SETTINGS" 4 k_first A s s.heap := by
  have hs := flat_of_before _ hgv
  have hel : ∀ j : Nat, j < 4 → (Term.elem (.static "LiarMaps$Game" "FIRST_SETTINGS" "[I") (.int (Int32.ofNat j))).eval #[Value.ref b] s none [] s = some (.int (k_first j)) := by
    intro j hj
    rcases (show j = 0 ∨ j = 1 ∨ j = 2 ∨ j = 3 by omega) with rfl | rfl | rfl | rfl
    · exact va_eqt (z := 2) (hs (.eq (.elem (.static "LiarMaps$Game" "FIRST_SETTINGS" "[I") (.int 0)) (.int 2)) (by decide +kernel))
    · exact va_eqt (z := 5) (hs (.eq (.elem (.static "LiarMaps$Game" "FIRST_SETTINGS" "[I") (.int 1)) (.int 5)) (by decide +kernel))
    · exact va_eqt (z := 4) (hs (.eq (.elem (.static "LiarMaps$Game" "FIRST_SETTINGS" "[I") (.int 2)) (.int 4)) (by decide +kernel))
    · exact va_eqt (z := 40) (hs (.eq (.elem (.static "LiarMaps$Game" "FIRST_SETTINGS" "[I") (.int 3)) (.int 40)) (by decide +kernel))
  obtain ⟨t, ht, hT⟩ := va_Tof (tm := (.static "LiarMaps$Game" "FIRST_SETTINGS" "[I")) (ty := .int) (N := 4) (f := fun j => .int (k_first j)) (A := A) (by decide) (hs (.arrayOf (.static "LiarMaps$Game" "FIRST_SETTINGS" "[I") .int) (by decide +kernel)) (va_eqt (z := 4) (hs (.eq (.length (.static "LiarMaps$Game" "FIRST_SETTINGS" "[I")) (.int 4)) (by decide +kernel))) hel hA
  exact ⟨t, va_Zof (hts (.laysStatic RX0 "FIRST_SETTINGS" "[I") (by decide +kernel)) (hts (.initialized RX0) (by decide +kernel)) ht hA, hT⟩
theorem sa_LEAST_SETTINGS {b : Nat} {s : State} {A : Nat → Prop} (hts : ∀ w ∈ lw_tbl, w.before #[Value.ref b] s = true) (hgv : (Jvm.Cond.and given_1 narrow_1).before #[Value.ref b] s = true) (hA : ∀ a : Nat, a < s.heap.size → ¬ A a) : SA RX0 "LEAST_SETTINGS" 4 k_least A s s.heap := by
  have hs := flat_of_before _ hgv
  have hel : ∀ j : Nat, j < 4 → (Term.elem (.static "LiarMaps$Game" "LEAST_SETTINGS" "[I") (.int (Int32.ofNat j))).eval #[Value.ref b] s none [] s = some (.int (k_least j)) := by
    intro j hj
    rcases (show j = 0 ∨ j = 1 ∨ j = 2 ∨ j = 3 by omega) with rfl | rfl | rfl | rfl
    · exact va_eqt (z := 0) (hs (.eq (.elem (.static "LiarMaps$Game" "LEAST_SETTINGS" "[I") (.int 0)) (.int 0)) (by decide +kernel))
    · exact va_eqt (z := 1) (hs (.eq (.elem (.static "LiarMaps$Game" "LEAST_SETTINGS" "[I") (.int 1)) (.int 1)) (by decide +kernel))
    · exact va_eqt (z := 0) (hs (.eq (.elem (.static "LiarMaps$Game" "LEAST_SETTINGS" "[I") (.int 2)) (.int 0)) (by decide +kernel))
    · exact va_eqt (z := 1) (hs (.eq (.elem (.static "LiarMaps$Game" "LEAST_SETTINGS" "[I") (.int 3)) (.int 1)) (by decide +kernel))
  obtain ⟨t, ht, hT⟩ := va_Tof (tm := (.static "LiarMaps$Game" "LEAST_SETTINGS" "[I")) (ty := .int) (N := 4) (f := fun j => .int (k_least j)) (A := A) (by decide) (hs (.arrayOf (.static "LiarMaps$Game" "LEAST_SETTINGS" "[I") .int) (by decide +kernel)) (va_eqt (z := 4) (hs (.eq (.length (.static "LiarMaps$Game" "LEAST_SETTINGS" "[I")) (.int 4)) (by decide +kernel))) hel hA
  exact ⟨t, va_Zof (hts (.laysStatic RX0 "LEAST_SETTINGS" "[I") (by decide +kernel)) (hts (.initialized RX0) (by decide +kernel)) ht hA, hT⟩
theorem sa_MOST_SETTINGS {b : Nat} {s : State} {A : Nat → Prop} (hts : ∀ w ∈ lw_tbl, w.before #[Value.ref b] s = true) (hgv : (Jvm.Cond.and given_1 narrow_1).before #[Value.ref b] s = true) (hA : ∀ a : Nat, a < s.heap.size → ¬ A a) : SA RX0 "MOST_SETTINGS" 4 k_most A s s.heap := by
  have hs := flat_of_before _ hgv
  have hel : ∀ j : Nat, j < 4 → (Term.elem (.static "LiarMaps$Game" "MOST_SETTINGS" "[I") (.int (Int32.ofNat j))).eval #[Value.ref b] s none [] s = some (.int (k_most j)) := by
    intro j hj
    rcases (show j = 0 ∨ j = 1 ∨ j = 2 ∨ j = 3 by omega) with rfl | rfl | rfl | rfl
    · exact va_eqt (z := 20) (hs (.eq (.elem (.static "LiarMaps$Game" "MOST_SETTINGS" "[I") (.int 0)) (.int 20)) (by decide +kernel))
    · exact va_eqt (z := 50) (hs (.eq (.elem (.static "LiarMaps$Game" "MOST_SETTINGS" "[I") (.int 1)) (.int 50)) (by decide +kernel))
    · exact va_eqt (z := 50) (hs (.eq (.elem (.static "LiarMaps$Game" "MOST_SETTINGS" "[I") (.int 2)) (.int 50)) (by decide +kernel))
    · exact va_eqt (z := 200) (hs (.eq (.elem (.static "LiarMaps$Game" "MOST_SETTINGS" "[I") (.int 3)) (.int 200)) (by decide +kernel))
  obtain ⟨t, ht, hT⟩ := va_Tof (tm := (.static "LiarMaps$Game" "MOST_SETTINGS" "[I")) (ty := .int) (N := 4) (f := fun j => .int (k_most j)) (A := A) (by decide) (hs (.arrayOf (.static "LiarMaps$Game" "MOST_SETTINGS" "[I") .int) (by decide +kernel)) (va_eqt (z := 4) (hs (.eq (.length (.static "LiarMaps$Game" "MOST_SETTINGS" "[I")) (.int 4)) (by decide +kernel))) hel hA
  exact ⟨t, va_Zof (hts (.laysStatic RX0 "MOST_SETTINGS" "[I") (by decide +kernel)) (hts (.initialized RX0) (by decide +kernel)) ht hA, hT⟩
theorem sa_ROADS_AT {b : Nat} {s : State} {A : Nat → Prop} (hts : ∀ w ∈ lw_tbl, w.before #[Value.ref b] s = true) (hgv : (Jvm.Cond.and given_1 narrow_1).before #[Value.ref b] s = true) (hA : ∀ a : Nat, a < s.heap.size → ¬ A a) : SA RX1 "ROADS_AT" 8 k_at A s s.heap := by
  have hs := flat_of_before _ hgv
  have hel : ∀ j : Nat, j < 8 → (Term.elem (.static "LiarMaps$Land" "ROADS_AT" "[I") (.int (Int32.ofNat j))).eval #[Value.ref b] s none [] s = some (.int (k_at j)) := by
    intro j hj
    rcases (show j = 0 ∨ j = 1 ∨ j = 2 ∨ j = 3 ∨ j = 4 ∨ j = 5 ∨ j = 6 ∨ j = 7 by omega) with rfl | rfl | rfl | rfl | rfl | rfl | rfl | rfl
    · exact va_eqt (z := 127) (hs (.eq (.elem (.static "LiarMaps$Land" "ROADS_AT" "[I") (.int 0)) (.int 127)) (by decide +kernel))
    · exact va_eqt (z := 8065) (hs (.eq (.elem (.static "LiarMaps$Land" "ROADS_AT" "[I") (.int 1)) (.int 8065)) (by decide +kernel))
    · exact va_eqt (z := 254082) (hs (.eq (.elem (.static "LiarMaps$Land" "ROADS_AT" "[I") (.int 2)) (.int 254082)) (by decide +kernel))
    · exact va_eqt (z := 3940612) (hs (.eq (.elem (.static "LiarMaps$Land" "ROADS_AT" "[I") (.int 3)) (.int 3940612)) (by decide +kernel))
    · exact va_eqt (z := 29639176) (hs (.eq (.elem (.static "LiarMaps$Land" "ROADS_AT" "[I") (.int 4)) (.int 29639176)) (by decide +kernel))
    · exact va_eqt (z := 105415696) (hs (.eq (.elem (.static "LiarMaps$Land" "ROADS_AT" "[I") (.int 5)) (.int 105415696)) (by decide +kernel))
    · exact va_eqt (z := 177276960) (hs (.eq (.elem (.static "LiarMaps$Land" "ROADS_AT" "[I") (.int 6)) (.int 177276960)) (by decide +kernel))
    · exact va_eqt (z := 220336192) (hs (.eq (.elem (.static "LiarMaps$Land" "ROADS_AT" "[I") (.int 7)) (.int 220336192)) (by decide +kernel))
  obtain ⟨t, ht, hT⟩ := va_Tof (tm := (.static "LiarMaps$Land" "ROADS_AT" "[I")) (ty := .int) (N := 8) (f := fun j => .int (k_at j)) (A := A) (by decide) (hs (.arrayOf (.static "LiarMaps$Land" "ROADS_AT" "[I") .int) (by decide +kernel)) (va_eqt (z := 8) (hs (.eq (.length (.static "LiarMaps$Land" "ROADS_AT" "[I")) (.int 8)) (by decide +kernel))) hel hA
  exact ⟨t, va_Zof (hts (.laysStatic RX1 "ROADS_AT" "[I") (by decide +kernel)) (hts (.initialized RX1) (by decide +kernel)) ht hA, hT⟩
theorem start_EN {b : Nat} {s : State} {A : Nat → Prop} (hts : ∀ w ∈ lw_tbl, w.before #[Value.ref b] s = true) (hgv : (Jvm.Cond.and given_1 narrow_1).before #[Value.ref b] s = true) (hA : ∀ a : Nat, a < s.heap.size → ¬ A a) : EN A s s.heap := by
  refine ⟨⟨sa_FIRST_SETTINGS hts hgv hA, sa_LEAST_SETTINGS hts hgv hA, sa_MOST_SETTINGS hts hgv hA, sa_ROADS_AT hts hgv hA⟩, fun w hw => ?_, va_AO.of (hts (.arrayOver (.object RX0)) (by decide +kernel))⟩
  have hin : w ∈ lw_tbl := by
    have key : ∀ w ∈ nestW, w ∈ lw_tbl := by decide +kernel
    exact key w hw
  have hon : w.onTables = true := by
    have key : ∀ w ∈ nestW, w.onTables = true := by decide +kernel
    exact key w hw
  exact va_tabs hon rfl (hts w hin)
theorem whole_start {p : Program} {e : Env} {s : State} {m : MethodId} {below : List Frame} {meth : Method} {c : Code} (l : Launch) (hflags : l.flags = flags0) {b L : Nat} {xs : Nat → Int32} (hL : L ≤ 260) (C0 : lw_At p s m meth c b L xs) : W p l e room_1 s m #[Value.ref b] below meth c s.heap [] 0 0 (lw_Z below #[Value.ref b] s) (entryFrame m ([Value.ref b] : List Value).toArray 8) := by
  obtain ⟨h1, h2, h3, h4, h5, hts, hX, hbl, hlk, hgv⟩ := C0
  have htb : ∀ w ∈ TB, w.before #[Value.ref b] s = true := fun w hw => hts w (List.mem_filter.mp hw).1
  obtain ⟨D, cy, hK⟩ := start_K htb (hts (.arrayOver (.object RX0)) (by decide +kernel))
  have hE : EN (fun q => s.heap.size ≤ q) s s.heap := start_EN hts hgv (fun a ha => by omega)
  rw [lg_entry_eq]
  refine law_start l hL (fun _ => .inr (0, [])) p e s m #[Value.ref b] below meth c D cy (fun q => s.heap.size ≤ q) (fun _ => b) _ s.heap [] _ ⟨h1, h2, h4, h5, htb, hlk, hK, hE⟩ ⟨fun q => Iff.rfl, rfl, hX, hbl, h3, rfl⟩ (fun i j hi => absurd hi (Nat.not_lt_zero _)) (fun k hk => absurd hk (Nat.not_lt_zero _)) (fun k q hq => by cases hq) va_S.rf (lv_entry [Value.ref b] (show (lg_sl [Value.ref b]).length ≤ 8 from Nat.le_of_ble_eq_true rfl))
