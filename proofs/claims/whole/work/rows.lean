section
-- ===== PART A: goes FIRST, ahead of the names: the tables' words, and 'selects' of the private methods out of them =====
/-- a private method of a class that the tables say can be made, by its rows of tables_1 -/
def lw_okq (q : MethodName × Nat) : Prop := (q.1.cls ≠ "java/lang/invoke/MethodHandle" ∧ q.1.cls ≠ "java/lang/invoke/VarHandle") ∧ Cond.instantiable q.1.cls q.2 ∈ tables_1 ∧ Cond.privateMethod q.1 ∈ tables_1 ∧ Cond.instanceMethod q.1 ∈ tables_1
theorem lw_p0 : lw_okq (⟨"LiarMaps$Past", "cell", "(I)LLiarMaps$Game;"⟩, 3) := ⟨⟨by decide +kernel, by decide +kernel⟩, List.mem_of_getElem? (i := 119) (by decide +kernel), List.mem_of_getElem? (i := 194) (by decide +kernel), List.mem_of_getElem? (i := 195) (by decide +kernel)⟩
theorem lw_p1 : lw_okq (⟨"LiarMaps", "keptIfDone", "(I)I"⟩, 5) := ⟨⟨by decide +kernel, by decide +kernel⟩, List.mem_of_getElem? (i := 13) (by decide +kernel), List.mem_of_getElem? (i := 223) (by decide +kernel), List.mem_of_getElem? (i := 224) (by decide +kernel)⟩
theorem lw_p2 : lw_okq (⟨"LiarMaps$Game", "settleCheck", "(LLiarMaps$Player;LLiarMaps$Player;I)I"⟩, 14) := ⟨⟨by decide +kernel, by decide +kernel⟩, List.mem_of_getElem? (i := 21) (by decide +kernel), List.mem_of_getElem? (i := 335) (by decide +kernel), List.mem_of_getElem? (i := 336) (by decide +kernel)⟩
theorem lw_p3 : lw_okq (⟨"LiarMaps$Game", "noteDigging", "(II)V"⟩, 14) := ⟨⟨by decide +kernel, by decide +kernel⟩, List.mem_of_getElem? (i := 21) (by decide +kernel), List.mem_of_getElem? (i := 373) (by decide +kernel), List.mem_of_getElem? (i := 374) (by decide +kernel)⟩
theorem lw_p4 : lw_okq (⟨"LiarMaps", "carryOutOrder", "(I)I"⟩, 5) := ⟨⟨by decide +kernel, by decide +kernel⟩, List.mem_of_getElem? (i := 13) (by decide +kernel), List.mem_of_getElem? (i := 543) (by decide +kernel), List.mem_of_getElem? (i := 544) (by decide +kernel)⟩
theorem lw_p5 : lw_okq (⟨"LiarMaps", "slotOf", "(I)LLiarMaps$Slot;"⟩, 5) := ⟨⟨by decide +kernel, by decide +kernel⟩, List.mem_of_getElem? (i := 13) (by decide +kernel), List.mem_of_getElem? (i := 571) (by decide +kernel), List.mem_of_getElem? (i := 572) (by decide +kernel)⟩
theorem lw_p6 : lw_okq (⟨"LiarMapsModel", "records", "()V"⟩, 16) := ⟨⟨by decide +kernel, by decide +kernel⟩, List.mem_of_getElem? (i := 580) (by decide +kernel), List.mem_of_getElem? (i := 649) (by decide +kernel), List.mem_of_getElem? (i := 650) (by decide +kernel)⟩
theorem lw_p7 : lw_okq (⟨"LiarMapsModel", "barRoad", "(II)I"⟩, 16) := ⟨⟨by decide +kernel, by decide +kernel⟩, List.mem_of_getElem? (i := 580) (by decide +kernel), List.mem_of_getElem? (i := 657) (by decide +kernel), List.mem_of_getElem? (i := 658) (by decide +kernel)⟩
theorem lw_p8 : lw_okq (⟨"LiarMapsModel", "hasBegun", "()Z"⟩, 16) := ⟨⟨by decide +kernel, by decide +kernel⟩, List.mem_of_getElem? (i := 580) (by decide +kernel), List.mem_of_getElem? (i := 664) (by decide +kernel), List.mem_of_getElem? (i := 665) (by decide +kernel)⟩
theorem lw_p9 : lw_okq (⟨"LiarMapsModel", "lays", "(II)I"⟩, 16) := ⟨⟨by decide +kernel, by decide +kernel⟩, List.mem_of_getElem? (i := 580) (by decide +kernel), List.mem_of_getElem? (i := 668) (by decide +kernel), List.mem_of_getElem? (i := 669) (by decide +kernel)⟩
theorem lw_p10 : lw_okq (⟨"LiarMapsModel", "barTreasure", "(I)I"⟩, 16) := ⟨⟨by decide +kernel, by decide +kernel⟩, List.mem_of_getElem? (i := 580) (by decide +kernel), List.mem_of_getElem? (i := 682) (by decide +kernel), List.mem_of_getElem? (i := 683) (by decide +kernel)⟩
theorem lw_p11 : lw_okq (⟨"LiarMapsModel", "follows", "(I)V"⟩, 16) := ⟨⟨by decide +kernel, by decide +kernel⟩, List.mem_of_getElem? (i := 580) (by decide +kernel), List.mem_of_getElem? (i := 690) (by decide +kernel), List.mem_of_getElem? (i := 691) (by decide +kernel)⟩
theorem lw_p12 : lw_okq (⟨"LiarMapsModel", "barClaim", "(III)I"⟩, 16) := ⟨⟨by decide +kernel, by decide +kernel⟩, List.mem_of_getElem? (i := 580) (by decide +kernel), List.mem_of_getElem? (i := 701) (by decide +kernel), List.mem_of_getElem? (i := 702) (by decide +kernel)⟩
theorem lw_p13 : lw_okq (⟨"LiarMapsModel", "goes", "()Z"⟩, 16) := ⟨⟨by decide +kernel, by decide +kernel⟩, List.mem_of_getElem? (i := 580) (by decide +kernel), List.mem_of_getElem? (i := 705) (by decide +kernel), List.mem_of_getElem? (i := 706) (by decide +kernel)⟩
theorem lw_p14 : lw_okq (⟨"LiarMapsModel", "says", "(III)I"⟩, 16) := ⟨⟨by decide +kernel, by decide +kernel⟩, List.mem_of_getElem? (i := 580) (by decide +kernel), List.mem_of_getElem? (i := 709) (by decide +kernel), List.mem_of_getElem? (i := 710) (by decide +kernel)⟩
theorem lw_p15 : lw_okq (⟨"LiarMapsModel", "turn", "()I"⟩, 16) := ⟨⟨by decide +kernel, by decide +kernel⟩, List.mem_of_getElem? (i := 580) (by decide +kernel), List.mem_of_getElem? (i := 713) (by decide +kernel), List.mem_of_getElem? (i := 714) (by decide +kernel)⟩
def lw_privs_1 : List (MethodName × Nat) := [(⟨"LiarMaps$Past", "cell", "(I)LLiarMaps$Game;"⟩, 3), (⟨"LiarMaps", "keptIfDone", "(I)I"⟩, 5), (⟨"LiarMaps$Game", "settleCheck", "(LLiarMaps$Player;LLiarMaps$Player;I)I"⟩, 14), (⟨"LiarMaps$Game", "noteDigging", "(II)V"⟩, 14), (⟨"LiarMaps", "carryOutOrder", "(I)I"⟩, 5), (⟨"LiarMaps", "slotOf", "(I)LLiarMaps$Slot;"⟩, 5), (⟨"LiarMapsModel", "records", "()V"⟩, 16), (⟨"LiarMapsModel", "barRoad", "(II)I"⟩, 16), (⟨"LiarMapsModel", "hasBegun", "()Z"⟩, 16), (⟨"LiarMapsModel", "lays", "(II)I"⟩, 16), (⟨"LiarMapsModel", "barTreasure", "(I)I"⟩, 16), (⟨"LiarMapsModel", "follows", "(I)V"⟩, 16), (⟨"LiarMapsModel", "barClaim", "(III)I"⟩, 16), (⟨"LiarMapsModel", "goes", "()Z"⟩, 16), (⟨"LiarMapsModel", "says", "(III)I"⟩, 16), (⟨"LiarMapsModel", "turn", "()I"⟩, 16)]
theorem lw_r1 : ∀ q ∈ lw_privs_1, lw_okq q := List.forall_mem_cons.mpr ⟨lw_p0, List.forall_mem_cons.mpr ⟨lw_p1, List.forall_mem_cons.mpr ⟨lw_p2, List.forall_mem_cons.mpr ⟨lw_p3, List.forall_mem_cons.mpr ⟨lw_p4, List.forall_mem_cons.mpr ⟨lw_p5, List.forall_mem_cons.mpr ⟨lw_p6, List.forall_mem_cons.mpr ⟨lw_p7, List.forall_mem_cons.mpr ⟨lw_p8, List.forall_mem_cons.mpr ⟨lw_p9, List.forall_mem_cons.mpr ⟨lw_p10, List.forall_mem_cons.mpr ⟨lw_p11, List.forall_mem_cons.mpr ⟨lw_p12, List.forall_mem_cons.mpr ⟨lw_p13, List.forall_mem_cons.mpr ⟨lw_p14, List.forall_mem_cons.mpr ⟨lw_p15, fun _ h => absurd h List.not_mem_nil⟩⟩⟩⟩⟩⟩⟩⟩⟩⟩⟩⟩⟩⟩⟩⟩
theorem lw_p16 : lw_okq (⟨"LiarMapsModel", "ends", "()V"⟩, 16) := ⟨⟨by decide +kernel, by decide +kernel⟩, List.mem_of_getElem? (i := 580) (by decide +kernel), List.mem_of_getElem? (i := 717) (by decide +kernel), List.mem_of_getElem? (i := 718) (by decide +kernel)⟩
theorem lw_p17 : lw_okq (⟨"LiarMapsModel", "claims", "(I)I"⟩, 16) := ⟨⟨by decide +kernel, by decide +kernel⟩, List.mem_of_getElem? (i := 580) (by decide +kernel), List.mem_of_getElem? (i := 721) (by decide +kernel), List.mem_of_getElem? (i := 722) (by decide +kernel)⟩
theorem lw_p18 : lw_okq (⟨"LiarMapsModel", "barCheck", "(III)I"⟩, 16) := ⟨⟨by decide +kernel, by decide +kernel⟩, List.mem_of_getElem? (i := 580) (by decide +kernel), List.mem_of_getElem? (i := 729) (by decide +kernel), List.mem_of_getElem? (i := 730) (by decide +kernel)⟩
theorem lw_p19 : lw_okq (⟨"LiarMapsModel", "checks", "(III)I"⟩, 16) := ⟨⟨by decide +kernel, by decide +kernel⟩, List.mem_of_getElem? (i := 580) (by decide +kernel), List.mem_of_getElem? (i := 736) (by decide +kernel), List.mem_of_getElem? (i := 737) (by decide +kernel)⟩
theorem lw_p20 : lw_okq (⟨"LiarMapsModel", "pays", "(III)V"⟩, 16) := ⟨⟨by decide +kernel, by decide +kernel⟩, List.mem_of_getElem? (i := 580) (by decide +kernel), List.mem_of_getElem? (i := 740) (by decide +kernel), List.mem_of_getElem? (i := 741) (by decide +kernel)⟩
theorem lw_p21 : lw_okq (⟨"LiarMapsModel", "gets", "(II)V"⟩, 16) := ⟨⟨by decide +kernel, by decide +kernel⟩, List.mem_of_getElem? (i := 580) (by decide +kernel), List.mem_of_getElem? (i := 744) (by decide +kernel), List.mem_of_getElem? (i := 745) (by decide +kernel)⟩
theorem lw_p22 : lw_okq (⟨"LiarMapsModel", "barDig", "(I)I"⟩, 16) := ⟨⟨by decide +kernel, by decide +kernel⟩, List.mem_of_getElem? (i := 580) (by decide +kernel), List.mem_of_getElem? (i := 752) (by decide +kernel), List.mem_of_getElem? (i := 753) (by decide +kernel)⟩
theorem lw_p23 : lw_okq (⟨"LiarMapsModel", "digs", "(I)I"⟩, 16) := ⟨⟨by decide +kernel, by decide +kernel⟩, List.mem_of_getElem? (i := 580) (by decide +kernel), List.mem_of_getElem? (i := 756) (by decide +kernel), List.mem_of_getElem? (i := 757) (by decide +kernel)⟩
theorem lw_p24 : lw_okq (⟨"LiarMapsModel", "measures", "(II)V"⟩, 16) := ⟨⟨by decide +kernel, by decide +kernel⟩, List.mem_of_getElem? (i := 580) (by decide +kernel), List.mem_of_getElem? (i := 760) (by decide +kernel), List.mem_of_getElem? (i := 761) (by decide +kernel)⟩
theorem lw_p25 : lw_okq (⟨"LiarMapsModel", "seen", "(I)I"⟩, 16) := ⟨⟨by decide +kernel, by decide +kernel⟩, List.mem_of_getElem? (i := 580) (by decide +kernel), List.mem_of_getElem? (i := 775) (by decide +kernel), List.mem_of_getElem? (i := 776) (by decide +kernel)⟩
theorem lw_p26 : lw_okq (⟨"LiarMapsModel", "claimers", "(II)I"⟩, 16) := ⟨⟨by decide +kernel, by decide +kernel⟩, List.mem_of_getElem? (i := 580) (by decide +kernel), List.mem_of_getElem? (i := 779) (by decide +kernel), List.mem_of_getElem? (i := 780) (by decide +kernel)⟩
theorem lw_p27 : lw_okq (⟨"LiarMapsModel", "shown", "(I)I"⟩, 16) := ⟨⟨by decide +kernel, by decide +kernel⟩, List.mem_of_getElem? (i := 580) (by decide +kernel), List.mem_of_getElem? (i := 791) (by decide +kernel), List.mem_of_getElem? (i := 792) (by decide +kernel)⟩
theorem lw_p28 : lw_okq (⟨"LiarMapsModel", "told", "(I)I"⟩, 16) := ⟨⟨by decide +kernel, by decide +kernel⟩, List.mem_of_getElem? (i := 580) (by decide +kernel), List.mem_of_getElem? (i := 802) (by decide +kernel), List.mem_of_getElem? (i := 803) (by decide +kernel)⟩
theorem lw_p29 : lw_okq (⟨"LiarMapsModel", "neighbours", "(I)I"⟩, 16) := ⟨⟨by decide +kernel, by decide +kernel⟩, List.mem_of_getElem? (i := 580) (by decide +kernel), List.mem_of_getElem? (i := 806) (by decide +kernel), List.mem_of_getElem? (i := 807) (by decide +kernel)⟩
theorem lw_p30 : lw_okq (⟨"LiarMapsModel", "more", "(I)I"⟩, 16) := ⟨⟨by decide +kernel, by decide +kernel⟩, List.mem_of_getElem? (i := 580) (by decide +kernel), List.mem_of_getElem? (i := 826) (by decide +kernel), List.mem_of_getElem? (i := 827) (by decide +kernel)⟩
theorem lw_p31 : lw_okq (⟨"LiarMapsModel", "isWhole", "()Z"⟩, 16) := ⟨⟨by decide +kernel, by decide +kernel⟩, List.mem_of_getElem? (i := 580) (by decide +kernel), List.mem_of_getElem? (i := 851) (by decide +kernel), List.mem_of_getElem? (i := 852) (by decide +kernel)⟩
def lw_privs_2 : List (MethodName × Nat) := [(⟨"LiarMapsModel", "ends", "()V"⟩, 16), (⟨"LiarMapsModel", "claims", "(I)I"⟩, 16), (⟨"LiarMapsModel", "barCheck", "(III)I"⟩, 16), (⟨"LiarMapsModel", "checks", "(III)I"⟩, 16), (⟨"LiarMapsModel", "pays", "(III)V"⟩, 16), (⟨"LiarMapsModel", "gets", "(II)V"⟩, 16), (⟨"LiarMapsModel", "barDig", "(I)I"⟩, 16), (⟨"LiarMapsModel", "digs", "(I)I"⟩, 16), (⟨"LiarMapsModel", "measures", "(II)V"⟩, 16), (⟨"LiarMapsModel", "seen", "(I)I"⟩, 16), (⟨"LiarMapsModel", "claimers", "(II)I"⟩, 16), (⟨"LiarMapsModel", "shown", "(I)I"⟩, 16), (⟨"LiarMapsModel", "told", "(I)I"⟩, 16), (⟨"LiarMapsModel", "neighbours", "(I)I"⟩, 16), (⟨"LiarMapsModel", "more", "(I)I"⟩, 16), (⟨"LiarMapsModel", "isWhole", "()Z"⟩, 16)]
theorem lw_r2 : ∀ q ∈ lw_privs_2, lw_okq q := List.forall_mem_cons.mpr ⟨lw_p16, List.forall_mem_cons.mpr ⟨lw_p17, List.forall_mem_cons.mpr ⟨lw_p18, List.forall_mem_cons.mpr ⟨lw_p19, List.forall_mem_cons.mpr ⟨lw_p20, List.forall_mem_cons.mpr ⟨lw_p21, List.forall_mem_cons.mpr ⟨lw_p22, List.forall_mem_cons.mpr ⟨lw_p23, List.forall_mem_cons.mpr ⟨lw_p24, List.forall_mem_cons.mpr ⟨lw_p25, List.forall_mem_cons.mpr ⟨lw_p26, List.forall_mem_cons.mpr ⟨lw_p27, List.forall_mem_cons.mpr ⟨lw_p28, List.forall_mem_cons.mpr ⟨lw_p29, List.forall_mem_cons.mpr ⟨lw_p30, List.forall_mem_cons.mpr ⟨lw_p31, fun _ h => absurd h List.not_mem_nil⟩⟩⟩⟩⟩⟩⟩⟩⟩⟩⟩⟩⟩⟩⟩⟩
theorem lw_p32 : lw_okq (⟨"LiarMapsModel", "order", "()V"⟩, 16) := ⟨⟨by decide +kernel, by decide +kernel⟩, List.mem_of_getElem? (i := 580) (by decide +kernel), List.mem_of_getElem? (i := 855) (by decide +kernel), List.mem_of_getElem? (i := 856) (by decide +kernel)⟩
theorem lw_p33 : lw_okq (⟨"LiarMapsModel", "within", "(II)I"⟩, 16) := ⟨⟨by decide +kernel, by decide +kernel⟩, List.mem_of_getElem? (i := 580) (by decide +kernel), List.mem_of_getElem? (i := 859) (by decide +kernel), List.mem_of_getElem? (i := 860) (by decide +kernel)⟩
theorem lw_p34 : lw_okq (⟨"LiarMapsModel", "bar", "()I"⟩, 16) := ⟨⟨by decide +kernel, by decide +kernel⟩, List.mem_of_getElem? (i := 580) (by decide +kernel), List.mem_of_getElem? (i := 867) (by decide +kernel), List.mem_of_getElem? (i := 868) (by decide +kernel)⟩
theorem lw_p35 : lw_okq (⟨"LiarMapsModel", "does", "()I"⟩, 16) := ⟨⟨by decide +kernel, by decide +kernel⟩, List.mem_of_getElem? (i := 580) (by decide +kernel), List.mem_of_getElem? (i := 871) (by decide +kernel), List.mem_of_getElem? (i := 872) (by decide +kernel)⟩
def lw_privs_3 : List (MethodName × Nat) := [(⟨"LiarMapsModel", "order", "()V"⟩, 16), (⟨"LiarMapsModel", "within", "(II)I"⟩, 16), (⟨"LiarMapsModel", "bar", "()I"⟩, 16), (⟨"LiarMapsModel", "does", "()I"⟩, 16)]
theorem lw_r3 : ∀ q ∈ lw_privs_3, lw_okq q := List.forall_mem_cons.mpr ⟨lw_p32, List.forall_mem_cons.mpr ⟨lw_p33, List.forall_mem_cons.mpr ⟨lw_p34, List.forall_mem_cons.mpr ⟨lw_p35, fun _ h => absurd h List.not_mem_nil⟩⟩⟩⟩
def lw_privs : List (MethodName × Nat) := lw_privs_1 ++ (lw_privs_2 ++ (lw_privs_3))
def lw_tbl : List Cond := k2_sels lw_privs ++ tables_1
theorem lw_privs_ok : ∀ q ∈ lw_privs, lw_okq q := by
  show ∀ q ∈ lw_privs_1 ++ (lw_privs_2 ++ (lw_privs_3)), lw_okq q
  exact List.forall_mem_append.mpr ⟨lw_r1, List.forall_mem_append.mpr ⟨lw_r2, lw_r3⟩⟩
-- ===== end of PART A; then your names; then what follows =====
end
section
/-! ===== BEGIN printed: names, fields, word lists, decode rows ===== -/
def RX0 : String := "LiarMaps$Game"
def TX0 : u_T := fun k => match k with
  | 0 => ("LiarMaps$Game", "settings", "[I", true)
  | 1 => ("LiarMaps$Game", "roads", "I", false)
  | 2 => ("LiarMaps$Game", "treasure", "I", false)
  | 3 => ("LiarMaps$Game", "begun", "Z", false)
  | 4 => ("LiarMaps$Game", "revealed", "I", false)
  | 5 => ("LiarMaps$Game", "known", "I", false)
  | 6 => ("LiarMaps$Game", "turns", "I", false)
  | 7 => ("LiarMaps$Game", "finder", "I", false)
  | 8 => ("LiarMaps$Game", "zero", "LLiarMaps$Player;", true)
  | 9 => ("LiarMaps$Game", "one", "LLiarMaps$Player;", true)
  | 10 => ("LiarMaps$Game", "two", "LLiarMaps$Player;", true)
  | 11 => ("LiarMaps$Game", "told", "[I", true)
  | 12 => ("LiarMaps$Game", "digs", "[I", true)
  | _ => ("LiarMaps$Game", "digsSoFar", "I", false)
def tyX0 : Nat → FieldType := fun k => match k with
  | 0 => .array .int
  | 1 => .int
  | 2 => .int
  | 3 => .boolean
  | 4 => .int
  | 5 => .int
  | 6 => .int
  | 7 => .int
  | 8 => .object "LiarMaps$Player"
  | 9 => .object "LiarMaps$Player"
  | 10 => .object "LiarMaps$Player"
  | 11 => .array .int
  | 12 => .array .int
  | _ => .int
abbrev wsX00 : List Cond := u_ws RX0 TX0 14
theorem nmX0 : ∀ a, a < 14 → ∀ b, b < 14 → a ≠ b → (TX0 a).2.1 ≠ (TX0 b).2.1 := by decide +kernel
theorem tyX0_ok : ∀ k, k < 14 → parseFieldDescriptor (TX0 k).2.2.1 = some (tyX0 k) := by decide +kernel
abbrev cX0_init : ByteArray := prog_2_method_1_code
def yX0_init : MethodName := ⟨RX0, "<init>", "()V"⟩
abbrev cX0_become : ByteArray := prog_2_method_2_code
def yX0_become : MethodName := ⟨RX0, "become", "(LLiarMaps$Game;)V"⟩
abbrev cX0_changeSetting : ByteArray := prog_2_method_3_code
def yX0_changeSetting : MethodName := ⟨RX0, "changeSetting", "(II)I"⟩
abbrev cX0_layRoad : ByteArray := prog_2_method_4_code
def yX0_layRoad : MethodName := ⟨RX0, "layRoad", "(II)I"⟩
abbrev cX0_hideTreasure : ByteArray := prog_2_method_5_code
def yX0_hideTreasure : MethodName := ⟨RX0, "hideTreasure", "(I)I"⟩
abbrev cX0_start : ByteArray := prog_2_method_6_code
def yX0_start : MethodName := ⟨RX0, "start", "()I"⟩
abbrev cX0_makeClaim : ByteArray := prog_2_method_7_code
def yX0_makeClaim : MethodName := ⟨RX0, "makeClaim", "(III)I"⟩
abbrev cX0_checkClaim : ByteArray := prog_2_method_8_code
def yX0_checkClaim : MethodName := ⟨RX0, "checkClaim", "(III)I"⟩
abbrev cX0_settleCheck : ByteArray := prog_2_method_9_code
def yX0_settleCheck : MethodName := ⟨RX0, "settleCheck", "(LLiarMaps$Player;LLiarMaps$Player;I)I"⟩
abbrev cX0_digAt : ByteArray := prog_2_method_10_code
def yX0_digAt : MethodName := ⟨RX0, "digAt", "(I)I"⟩
abbrev cX0_noteDigging : ByteArray := prog_2_method_11_code
def yX0_noteDigging : MethodName := ⟨RX0, "noteDigging", "(II)V"⟩
abbrev cX0_passTurn : ByteArray := prog_2_method_12_code
def yX0_passTurn : MethodName := ⟨RX0, "passTurn", "()I"⟩
abbrev cX0_next : ByteArray := prog_2_method_13_code
def yX0_next : MethodName := ⟨RX0, "next", "()I"⟩
abbrev cX0_goesOn : ByteArray := prog_2_method_14_code
def yX0_goesOn : MethodName := ⟨RX0, "goesOn", "()Z"⟩
abbrev cX0_stage : ByteArray := prog_2_method_15_code
def yX0_stage : MethodName := ⟨RX0, "stage", "()I"⟩
abbrev cX0_seat : ByteArray := prog_2_method_16_code
def yX0_seat : MethodName := ⟨RX0, "seat", "(I)LLiarMaps$Player;"⟩
abbrev cX0_setting : ByteArray := prog_2_method_17_code
def yX0_setting : MethodName := ⟨RX0, "setting", "(I)I"⟩
abbrev cX0_toldOf : ByteArray := prog_2_method_18_code
def yX0_toldOf : MethodName := ⟨RX0, "toldOf", "(I)I"⟩
abbrev cX0_dugAs : ByteArray := prog_2_method_19_code
def yX0_dugAs : MethodName := ⟨RX0, "dugAs", "(I)I"⟩
abbrev cX0_seenOf : ByteArray := prog_2_method_20_code
def yX0_seenOf : MethodName := ⟨RX0, "seenOf", "(II)I"⟩
abbrev cX0_knownTo : ByteArray := prog_2_method_21_code
def yX0_knownTo : MethodName := ⟨RX0, "knownTo", "(I)I"⟩
abbrev cX0_claimants : ByteArray := prog_2_method_22_code
def yX0_claimants : MethodName := ⟨RX0, "claimants", "(IZ)I"⟩
abbrev cX0_shownLies : ByteArray := prog_2_method_23_code
def yX0_shownLies : MethodName := ⟨RX0, "shownLies", "()I"⟩
abbrev cX0_moreKnownBy : ByteArray := prog_2_method_24_code
def yX0_moreKnownBy : MethodName := ⟨RX0, "moreKnownBy", "(I)I"⟩
abbrev cX0_fitsWhatWasTold : ByteArray := prog_2_method_25_code
def yX0_fitsWhatWasTold : MethodName := ⟨RX0, "fitsWhatWasTold", "(I)Z"⟩
def RX1 : String := "LiarMaps$Land"
def TX1 : u_T := fun k => match k with
  | _ => ("", "", "", false)
def tyX1 : Nat → FieldType := fun k => match k with
  | _ => .int
abbrev wsX10 : List Cond := u_ws RX1 TX1 0
theorem nmX1 : ∀ a, a < 0 → ∀ b, b < 0 → a ≠ b → (TX1 a).2.1 ≠ (TX1 b).2.1 := by decide +kernel
theorem tyX1_ok : ∀ k, k < 0 → parseFieldDescriptor (TX1 k).2.2.1 = some (tyX1 k) := by decide +kernel
abbrev cX1_isPlace : ByteArray := prog_3_method_2_code
def yX1_isPlace : MethodName := ⟨RX1, "isPlace", "(I)Z"⟩
abbrev cX1_wrongEnds : ByteArray := prog_3_method_3_code
def yX1_wrongEnds : MethodName := ⟨RX1, "wrongEnds", "(II)I"⟩
abbrev cX1_numberOf : ByteArray := prog_3_method_4_code
def yX1_numberOf : MethodName := ⟨RX1, "numberOf", "(II)I"⟩
abbrev cX1_roadBetween : ByteArray := prog_3_method_5_code
def yX1_roadBetween : MethodName := ⟨RX1, "roadBetween", "(II)I"⟩
abbrev cX1_roadsAt : ByteArray := prog_3_method_6_code
def yX1_roadsAt : MethodName := ⟨RX1, "roadsAt", "(I)I"⟩
abbrev cX1_thirdOf : ByteArray := prog_3_method_7_code
def yX1_thirdOf : MethodName := ⟨RX1, "thirdOf", "(I)I"⟩
abbrev cX1_placesBeside : ByteArray := prog_3_method_8_code
def yX1_placesBeside : MethodName := ⟨RX1, "placesBeside", "(II)I"⟩
abbrev cX1_distance : ByteArray := prog_3_method_9_code
def yX1_distance : MethodName := ⟨RX1, "distance", "(III)I"⟩
abbrev cX1_besideAny : ByteArray := prog_3_method_10_code
def yX1_besideAny : MethodName := ⟨RX1, "besideAny", "(II)I"⟩
abbrev cX1_withWhatFollows : ByteArray := prog_3_method_11_code
def yX1_withWhatFollows : MethodName := ⟨RX1, "withWhatFollows", "(II)I"⟩
abbrev cX1_followingAt : ByteArray := prog_3_method_12_code
def yX1_followingAt : MethodName := ⟨RX1, "followingAt", "(III)I"⟩
def RX2 : String := "LiarMaps$Pad"
def TX2 : u_T := fun k => match k with
  | 0 => ("LiarMaps$Pad", "signs", "[C", true)
  | _ => ("LiarMaps$Pad", "length", "I", false)
def tyX2 : Nat → FieldType := fun k => match k with
  | 0 => .array .char
  | _ => .int
abbrev wsX20 : List Cond := u_ws RX2 TX2 2
theorem nmX2 : ∀ a, a < 2 → ∀ b, b < 2 → a ≠ b → (TX2 a).2.1 ≠ (TX2 b).2.1 := by decide +kernel
theorem tyX2_ok : ∀ k, k < 2 → parseFieldDescriptor (TX2 k).2.2.1 = some (tyX2 k) := by decide +kernel
abbrev cX2_init : ByteArray := prog_4_method_1_code
def yX2_init : MethodName := ⟨RX2, "<init>", "()V"⟩
abbrev cX2_append : ByteArray := prog_4_method_2_code
def yX2_append : MethodName := ⟨RX2, "append", "(J)I"⟩
abbrev cX2_charactersIn : ByteArray := prog_4_method_3_code
def yX2_charactersIn : MethodName := ⟨RX2, "charactersIn", "(J)I"⟩
abbrev cX2_codeIn : ByteArray := prog_4_method_4_code
def yX2_codeIn : MethodName := ⟨RX2, "codeIn", "(JI)I"⟩
abbrev cX2_empty : ByteArray := prog_4_method_5_code
def yX2_empty : MethodName := ⟨RX2, "empty", "()I"⟩
abbrev cX2_sign : ByteArray := prog_4_method_6_code
def yX2_sign : MethodName := ⟨RX2, "sign", "(I)I"⟩
abbrev cX2_placeAt : ByteArray := prog_4_method_7_code
def yX2_placeAt : MethodName := ⟨RX2, "placeAt", "(I)I"⟩
abbrev cX2_digitAt : ByteArray := prog_4_method_8_code
def yX2_digitAt : MethodName := ⟨RX2, "digitAt", "(I)I"⟩
abbrev cX2_startsOrder : ByteArray := prog_4_method_9_code
def yX2_startsOrder : MethodName := ⟨RX2, "startsOrder", "(I)Z"⟩
abbrev cX2_firstFault : ByteArray := prog_4_method_10_code
def yX2_firstFault : MethodName := ⟨RX2, "firstFault", "()I"⟩
abbrev cX2_dueAfter : ByteArray := prog_4_method_11_code
def yX2_dueAfter : MethodName := ⟨RX2, "dueAfter", "(II)I"⟩
abbrev cX2_dueAfterLetter : ByteArray := prog_4_method_12_code
def yX2_dueAfterLetter : MethodName := ⟨RX2, "dueAfterLetter", "(I)I"⟩
abbrev cX2_isPlaceSign : ByteArray := prog_4_method_13_code
def yX2_isPlaceSign : MethodName := ⟨RX2, "isPlaceSign", "(I)Z"⟩
def RX3 : String := "LiarMaps$Past"
def TX3 : u_T := fun k => match k with
  | 0 => ("LiarMaps$Past", "cells", "[LLiarMaps$Game;", true)
  | 1 => ("LiarMaps$Past", "free", "I", false)
  | _ => ("LiarMaps$Past", "kept", "I", false)
def tyX3 : Nat → FieldType := fun k => match k with
  | 0 => .array (.object "LiarMaps$Game")
  | 1 => .int
  | _ => .int
abbrev wsX30 : List Cond := u_ws RX3 TX3 3
theorem nmX3 : ∀ a, a < 3 → ∀ b, b < 3 → a ≠ b → (TX3 a).2.1 ≠ (TX3 b).2.1 := by decide +kernel
theorem tyX3_ok : ∀ k, k < 3 → parseFieldDescriptor (TX3 k).2.2.1 = some (tyX3 k) := by decide +kernel
abbrev cX3_init : ByteArray := prog_5_method_1_code
def yX3_init : MethodName := ⟨RX3, "<init>", "()V"⟩
abbrev cX3_hold : ByteArray := prog_5_method_2_code
def yX3_hold : MethodName := ⟨RX3, "hold", "(LLiarMaps$Game;)V"⟩
abbrev cX3_keep : ByteArray := prog_5_method_3_code
def yX3_keep : MethodName := ⟨RX3, "keep", "()V"⟩
abbrev cX3_goBack : ByteArray := prog_5_method_4_code
def yX3_goBack : MethodName := ⟨RX3, "goBack", "(LLiarMaps$Game;)Z"⟩
abbrev cX3_cell : ByteArray := prog_5_method_5_code
def yX3_cell : MethodName := ⟨RX3, "cell", "(I)LLiarMaps$Game;"⟩
def RX4 : String := "LiarMaps$Player"
def TX4 : u_T := fun k => match k with
  | 0 => ("LiarMaps$Player", "purse", "I", false)
  | 1 => ("LiarMaps$Player", "saysThere", "I", false)
  | 2 => ("LiarMaps$Player", "saysNot", "I", false)
  | 3 => ("LiarMaps$Player", "liesFound", "I", false)
  | 4 => ("LiarMaps$Player", "checks", "I", false)
  | 5 => ("LiarMaps$Player", "checksThatFound", "I", false)
  | _ => ("LiarMaps$Player", "diggings", "I", false)
def tyX4 : Nat → FieldType := fun k => match k with
  | 0 => .int
  | 1 => .int
  | 2 => .int
  | 3 => .int
  | 4 => .int
  | 5 => .int
  | _ => .int
abbrev wsX40 : List Cond := u_ws RX4 TX4 7
theorem nmX4 : ∀ a, a < 7 → ∀ b, b < 7 → a ≠ b → (TX4 a).2.1 ≠ (TX4 b).2.1 := by decide +kernel
theorem tyX4_ok : ∀ k, k < 7 → parseFieldDescriptor (TX4 k).2.2.1 = some (tyX4 k) := by decide +kernel
abbrev cX4_init : ByteArray := prog_6_method_1_code
def yX4_init : MethodName := ⟨RX4, "<init>", "()V"⟩
abbrev cX4_become : ByteArray := prog_6_method_2_code
def yX4_become : MethodName := ⟨RX4, "become", "(LLiarMaps$Player;)V"⟩
abbrev cX4_say : ByteArray := prog_6_method_3_code
def yX4_say : MethodName := ⟨RX4, "say", "(IZ)V"⟩
abbrev cX4_saying : ByteArray := prog_6_method_4_code
def yX4_saying : MethodName := ⟨RX4, "saying", "(Z)I"⟩
abbrev cX4_claims : ByteArray := prog_6_method_5_code
def yX4_claims : MethodName := ⟨RX4, "claims", "()I"⟩
abbrev cX4_lies : ByteArray := prog_6_method_6_code
def yX4_lies : MethodName := ⟨RX4, "lies", "(I)I"⟩
abbrev cX4_shownLies : ByteArray := prog_6_method_7_code
def yX4_shownLies : MethodName := ⟨RX4, "shownLies", "(II)I"⟩
abbrev cX4_pay : ByteArray := prog_6_method_8_code
def yX4_pay : MethodName := ⟨RX4, "pay", "(LLiarMaps$Player;I)V"⟩
abbrev cX4_take : ByteArray := prog_6_method_9_code
def yX4_take : MethodName := ⟨RX4, "take", "(I)V"⟩
def RX5 : String := "LiarMaps$Slot"
def TX5 : u_T := fun k => match k with
  | 0 => ("LiarMaps$Slot", "game", "LLiarMaps$Game;", true)
  | _ => ("LiarMaps$Slot", "filled", "Z", false)
def tyX5 : Nat → FieldType := fun k => match k with
  | 0 => .object "LiarMaps$Game"
  | _ => .boolean
abbrev wsX50 : List Cond := u_ws RX5 TX5 2
theorem nmX5 : ∀ a, a < 2 → ∀ b, b < 2 → a ≠ b → (TX5 a).2.1 ≠ (TX5 b).2.1 := by decide +kernel
theorem tyX5_ok : ∀ k, k < 2 → parseFieldDescriptor (TX5 k).2.2.1 = some (tyX5 k) := by decide +kernel
abbrev cX5_init : ByteArray := prog_7_method_1_code
def yX5_init : MethodName := ⟨RX5, "<init>", "()V"⟩
def RX6 : String := "LiarMaps"
def TX6 : u_T := fun k => match k with
  | 0 => ("LiarMaps", "now", "LLiarMaps$Game;", true)
  | 1 => ("LiarMaps", "past", "LLiarMaps$Past;", true)
  | 2 => ("LiarMaps", "pad", "LLiarMaps$Pad;", true)
  | 3 => ("LiarMaps", "slotZero", "LLiarMaps$Slot;", true)
  | _ => ("LiarMaps", "slotOne", "LLiarMaps$Slot;", true)
def tyX6 : Nat → FieldType := fun k => match k with
  | 0 => .object "LiarMaps$Game"
  | 1 => .object "LiarMaps$Past"
  | 2 => .object "LiarMaps$Pad"
  | 3 => .object "LiarMaps$Slot"
  | _ => .object "LiarMaps$Slot"
abbrev wsX60 : List Cond := u_ws RX6 TX6 5
theorem nmX6 : ∀ a, a < 5 → ∀ b, b < 5 → a ≠ b → (TX6 a).2.1 ≠ (TX6 b).2.1 := by decide +kernel
theorem tyX6_ok : ∀ k, k < 5 → parseFieldDescriptor (TX6 k).2.2.1 = some (tyX6 k) := by decide +kernel
abbrev cX6_init : ByteArray := prog_1_method_1_code
def yX6_init : MethodName := ⟨RX6, "<init>", "()V"⟩
abbrev cX6_set : ByteArray := prog_1_method_2_code
def yX6_set : MethodName := ⟨RX6, "set", "(II)I"⟩
abbrev cX6_road : ByteArray := prog_1_method_3_code
def yX6_road : MethodName := ⟨RX6, "road", "(II)I"⟩
abbrev cX6_treasure : ByteArray := prog_1_method_4_code
def yX6_treasure : MethodName := ⟨RX6, "treasure", "(I)I"⟩
abbrev cX6_begin : ByteArray := prog_1_method_5_code
def yX6_begin : MethodName := ⟨RX6, "begin", "()I"⟩
abbrev cX6_claim : ByteArray := prog_1_method_6_code
def yX6_claim : MethodName := ⟨RX6, "claim", "(III)I"⟩
abbrev cX6_check : ByteArray := prog_1_method_7_code
def yX6_check : MethodName := ⟨RX6, "check", "(III)I"⟩
abbrev cX6_dig : ByteArray := prog_1_method_8_code
def yX6_dig : MethodName := ⟨RX6, "dig", "(I)I"⟩
abbrev cX6_pass : ByteArray := prog_1_method_9_code
def yX6_pass : MethodName := ⟨RX6, "pass", "()I"⟩
abbrev cX6_keptIfDone : ByteArray := prog_1_method_10_code
def yX6_keptIfDone : MethodName := ⟨RX6, "keptIfDone", "(I)I"⟩
abbrev cX6_ofRoad : ByteArray := prog_1_method_11_code
def yX6_ofRoad : MethodName := ⟨RX6, "ofRoad", "(III)I"⟩
abbrev cX6_knows : ByteArray := prog_1_method_12_code
def yX6_knows : MethodName := ⟨RX6, "knows", "(III)I"⟩
abbrev cX6_player : ByteArray := prog_1_method_13_code
def yX6_player : MethodName := ⟨RX6, "player", "(II)I"⟩
abbrev cX6_place : ByteArray := prog_1_method_14_code
def yX6_place : MethodName := ⟨RX6, "place", "(II)I"⟩
abbrev cX6_dug : ByteArray := prog_1_method_15_code
def yX6_dug : MethodName := ⟨RX6, "dug", "(I)I"⟩
abbrev cX6_count : ByteArray := prog_1_method_16_code
def yX6_count : MethodName := ⟨RX6, "count", "(I)I"⟩
abbrev cX6_canBe : ByteArray := prog_1_method_17_code
def yX6_canBe : MethodName := ⟨RX6, "canBe", "()I"⟩
abbrev cX6_shows : ByteArray := prog_1_method_18_code
def yX6_shows : MethodName := ⟨RX6, "shows", "(II)I"⟩
abbrev cX6_bestShow : ByteArray := prog_1_method_19_code
def yX6_bestShow : MethodName := ⟨RX6, "bestShow", "(I)I"⟩
abbrev cX6_knownWay : ByteArray := prog_1_method_20_code
def yX6_knownWay : MethodName := ⟨RX6, "knownWay", "(II)I"⟩
abbrev cX6_put : ByteArray := prog_1_method_21_code
def yX6_put : MethodName := ⟨RX6, "put", "(J)I"⟩
abbrev cX6_wipe : ByteArray := prog_1_method_22_code
def yX6_wipe : MethodName := ⟨RX6, "wipe", "()I"⟩
abbrev cX6_fault : ByteArray := prog_1_method_23_code
def yX6_fault : MethodName := ⟨RX6, "fault", "()I"⟩
abbrev cX6_carryOut : ByteArray := prog_1_method_24_code
def yX6_carryOut : MethodName := ⟨RX6, "carryOut", "()I"⟩
abbrev cX6_carryOutOrder : ByteArray := prog_1_method_25_code
def yX6_carryOutOrder : MethodName := ⟨RX6, "carryOutOrder", "(I)I"⟩
abbrev cX6_undo : ByteArray := prog_1_method_26_code
def yX6_undo : MethodName := ⟨RX6, "undo", "()I"⟩
abbrev cX6_save : ByteArray := prog_1_method_27_code
def yX6_save : MethodName := ⟨RX6, "save", "(I)I"⟩
abbrev cX6_restore : ByteArray := prog_1_method_28_code
def yX6_restore : MethodName := ⟨RX6, "restore", "(I)I"⟩
abbrev cX6_slotOf : ByteArray := prog_1_method_29_code
def yX6_slotOf : MethodName := ⟨RX6, "slotOf", "(I)LLiarMaps$Slot;"⟩
abbrev cX6_isSlot : ByteArray := prog_1_method_30_code
def yX6_isSlot : MethodName := ⟨RX6, "isSlot", "(I)Z"⟩
abbrev cX6_isPlayer : ByteArray := prog_1_method_31_code
def yX6_isPlayer : MethodName := ⟨RX6, "isPlayer", "(I)Z"⟩
abbrev cX6_isIn : ByteArray := prog_1_method_32_code
def yX6_isIn : MethodName := ⟨RX6, "isIn", "(II)I"⟩
abbrev cX6_copyRow : ByteArray := prog_1_method_33_code
def yX6_copyRow : MethodName := ⟨RX6, "copyRow", "([I[I)V"⟩
def RX7 : String := "LiarMapsModel"
def TX7 : u_T := fun k => match k with
  | 0 => ("LiarMapsModel", "s", "[I", true)
  | 1 => ("LiarMapsModel", "past", "[I", true)
  | 2 => ("LiarMapsModel", "pasts", "I", false)
  | 3 => ("LiarMapsModel", "slots", "[I", true)
  | 4 => ("LiarMapsModel", "isKept", "[Z", true)
  | 5 => ("LiarMapsModel", "pad", "[I", true)
  | 6 => ("LiarMapsModel", "length", "I", false)
  | 7 => ("LiarMapsModel", "known", "I", false)
  | 8 => ("LiarMapsModel", "there", "I", false)
  | 9 => ("LiarMapsModel", "far", "[I", true)
  | 10 => ("LiarMapsModel", "spot", "I", false)
  | 11 => ("LiarMapsModel", "isWrong", "Z", false)
  | 12 => ("LiarMapsModel", "sign", "I", false)
  | 13 => ("LiarMapsModel", "digit", "I", false)
  | 14 => ("LiarMapsModel", "first", "I", false)
  | _ => ("LiarMapsModel", "second", "I", false)
def tyX7 : Nat → FieldType := fun k => match k with
  | 0 => .array .int
  | 1 => .array .int
  | 2 => .int
  | 3 => .array .int
  | 4 => .array .boolean
  | 5 => .array .int
  | 6 => .int
  | 7 => .int
  | 8 => .int
  | 9 => .array .int
  | 10 => .int
  | 11 => .boolean
  | 12 => .int
  | 13 => .int
  | 14 => .int
  | _ => .int
abbrev wsX70 : List Cond := u_ws RX7 TX7 16
theorem nmX7 : ∀ a, a < 16 → ∀ b, b < 16 → a ≠ b → (TX7 a).2.1 ≠ (TX7 b).2.1 := by decide +kernel
theorem tyX7_ok : ∀ k, k < 16 → parseFieldDescriptor (TX7 k).2.2.1 = some (tyX7 k) := by decide +kernel
abbrev cX7_init : ByteArray := prog_9_method_1_code
def yX7_init : MethodName := ⟨RX7, "<init>", "()V"⟩
abbrev cX7_in : ByteArray := prog_9_method_3_code
def yX7_in : MethodName := ⟨RX7, "in", "(III)Z"⟩
abbrev cX7_isPlace : ByteArray := prog_9_method_4_code
def yX7_isPlace : MethodName := ⟨RX7, "isPlace", "(I)Z"⟩
abbrev cX7_isPlayer : ByteArray := prog_9_method_5_code
def yX7_isPlayer : MethodName := ⟨RX7, "isPlayer", "(I)Z"⟩
abbrev cX7_records : ByteArray := prog_9_method_6_code
def yX7_records : MethodName := ⟨RX7, "records", "()V"⟩
abbrev cX7_edge : ByteArray := prog_9_method_7_code
def yX7_edge : MethodName := ⟨RX7, "edge", "(II)I"⟩
abbrev cX7_around : ByteArray := prog_9_method_8_code
def yX7_around : MethodName := ⟨RX7, "around", "(I)I"⟩
abbrev cX7_many : ByteArray := prog_9_method_9_code
def yX7_many : MethodName := ⟨RX7, "many", "(I)I"⟩
abbrev cX7_measures : ByteArray := prog_9_method_10_code
def yX7_measures : MethodName := ⟨RX7, "measures", "(II)V"⟩
abbrev cX7_hasBegun : ByteArray := prog_9_method_11_code
def yX7_hasBegun : MethodName := ⟨RX7, "hasBegun", "()Z"⟩
abbrev cX7_follows : ByteArray := prog_9_method_12_code
def yX7_follows : MethodName := ⟨RX7, "follows", "(I)V"⟩
abbrev cX7_least : ByteArray := prog_9_method_13_code
def yX7_least : MethodName := ⟨RX7, "least", "(I)I"⟩
abbrev cX7_most : ByteArray := prog_9_method_14_code
def yX7_most : MethodName := ⟨RX7, "most", "(I)I"⟩
abbrev cX7_set : ByteArray := prog_9_method_15_code
def yX7_set : MethodName := ⟨RX7, "set", "(II)I"⟩
abbrev cX7_barRoad : ByteArray := prog_9_method_16_code
def yX7_barRoad : MethodName := ⟨RX7, "barRoad", "(II)I"⟩
abbrev cX7_lays : ByteArray := prog_9_method_17_code
def yX7_lays : MethodName := ⟨RX7, "lays", "(II)I"⟩
abbrev cX7_road : ByteArray := prog_9_method_18_code
def yX7_road : MethodName := ⟨RX7, "road", "(II)I"⟩
abbrev cX7_barTreasure : ByteArray := prog_9_method_19_code
def yX7_barTreasure : MethodName := ⟨RX7, "barTreasure", "(I)I"⟩
abbrev cX7_treasure : ByteArray := prog_9_method_20_code
def yX7_treasure : MethodName := ⟨RX7, "treasure", "(I)I"⟩
abbrev cX7_begin : ByteArray := prog_9_method_21_code
def yX7_begin : MethodName := ⟨RX7, "begin", "()I"⟩
abbrev cX7_goes : ByteArray := prog_9_method_22_code
def yX7_goes : MethodName := ⟨RX7, "goes", "()Z"⟩
abbrev cX7_turn : ByteArray := prog_9_method_23_code
def yX7_turn : MethodName := ⟨RX7, "turn", "()I"⟩
abbrev cX7_ends : ByteArray := prog_9_method_24_code
def yX7_ends : MethodName := ⟨RX7, "ends", "()V"⟩
abbrev cX7_gets : ByteArray := prog_9_method_25_code
def yX7_gets : MethodName := ⟨RX7, "gets", "(II)V"⟩
abbrev cX7_claims : ByteArray := prog_9_method_26_code
def yX7_claims : MethodName := ⟨RX7, "claims", "(I)I"⟩
abbrev cX7_barClaim : ByteArray := prog_9_method_27_code
def yX7_barClaim : MethodName := ⟨RX7, "barClaim", "(III)I"⟩
abbrev cX7_says : ByteArray := prog_9_method_28_code
def yX7_says : MethodName := ⟨RX7, "says", "(III)I"⟩
abbrev cX7_claim : ByteArray := prog_9_method_29_code
def yX7_claim : MethodName := ⟨RX7, "claim", "(III)I"⟩
abbrev cX7_barCheck : ByteArray := prog_9_method_30_code
def yX7_barCheck : MethodName := ⟨RX7, "barCheck", "(III)I"⟩
abbrev cX7_pays : ByteArray := prog_9_method_31_code
def yX7_pays : MethodName := ⟨RX7, "pays", "(III)V"⟩
abbrev cX7_checks : ByteArray := prog_9_method_32_code
def yX7_checks : MethodName := ⟨RX7, "checks", "(III)I"⟩
abbrev cX7_check : ByteArray := prog_9_method_33_code
def yX7_check : MethodName := ⟨RX7, "check", "(III)I"⟩
abbrev cX7_barDig : ByteArray := prog_9_method_34_code
def yX7_barDig : MethodName := ⟨RX7, "barDig", "(I)I"⟩
abbrev cX7_digs : ByteArray := prog_9_method_35_code
def yX7_digs : MethodName := ⟨RX7, "digs", "(I)I"⟩
abbrev cX7_dig : ByteArray := prog_9_method_36_code
def yX7_dig : MethodName := ⟨RX7, "dig", "(I)I"⟩
abbrev cX7_pass : ByteArray := prog_9_method_37_code
def yX7_pass : MethodName := ⟨RX7, "pass", "()I"⟩
abbrev cX7_barPair : ByteArray := prog_9_method_38_code
def yX7_barPair : MethodName := ⟨RX7, "barPair", "(II)I"⟩
abbrev cX7_seen : ByteArray := prog_9_method_39_code
def yX7_seen : MethodName := ⟨RX7, "seen", "(I)I"⟩
abbrev cX7_claimers : ByteArray := prog_9_method_40_code
def yX7_claimers : MethodName := ⟨RX7, "claimers", "(II)I"⟩
abbrev cX7_ofRoad : ByteArray := prog_9_method_41_code
def yX7_ofRoad : MethodName := ⟨RX7, "ofRoad", "(III)I"⟩
abbrev cX7_knows : ByteArray := prog_9_method_42_code
def yX7_knows : MethodName := ⟨RX7, "knows", "(III)I"⟩
abbrev cX7_third : ByteArray := prog_9_method_43_code
def yX7_third : MethodName := ⟨RX7, "third", "(I)I"⟩
abbrev cX7_shown : ByteArray := prog_9_method_44_code
def yX7_shown : MethodName := ⟨RX7, "shown", "(I)I"⟩
abbrev cX7_player : ByteArray := prog_9_method_45_code
def yX7_player : MethodName := ⟨RX7, "player", "(II)I"⟩
abbrev cX7_told : ByteArray := prog_9_method_46_code
def yX7_told : MethodName := ⟨RX7, "told", "(I)I"⟩
abbrev cX7_neighbours : ByteArray := prog_9_method_47_code
def yX7_neighbours : MethodName := ⟨RX7, "neighbours", "(I)I"⟩
abbrev cX7_place : ByteArray := prog_9_method_48_code
def yX7_place : MethodName := ⟨RX7, "place", "(II)I"⟩
abbrev cX7_dug : ByteArray := prog_9_method_49_code
def yX7_dug : MethodName := ⟨RX7, "dug", "(I)I"⟩
abbrev cX7_count : ByteArray := prog_9_method_50_code
def yX7_count : MethodName := ⟨RX7, "count", "(I)I"⟩
abbrev cX7_canBe : ByteArray := prog_9_method_51_code
def yX7_canBe : MethodName := ⟨RX7, "canBe", "()I"⟩
abbrev cX7_more : ByteArray := prog_9_method_52_code
def yX7_more : MethodName := ⟨RX7, "more", "(I)I"⟩
abbrev cX7_shows : ByteArray := prog_9_method_53_code
def yX7_shows : MethodName := ⟨RX7, "shows", "(II)I"⟩
abbrev cX7_bestShow : ByteArray := prog_9_method_54_code
def yX7_bestShow : MethodName := ⟨RX7, "bestShow", "(I)I"⟩
abbrev cX7_knownWay : ByteArray := prog_9_method_55_code
def yX7_knownWay : MethodName := ⟨RX7, "knownWay", "(II)I"⟩
abbrev cX7_put : ByteArray := prog_9_method_56_code
def yX7_put : MethodName := ⟨RX7, "put", "(J)I"⟩
abbrev cX7_wipe : ByteArray := prog_9_method_57_code
def yX7_wipe : MethodName := ⟨RX7, "wipe", "()I"⟩
abbrev cX7_within : ByteArray := prog_9_method_58_code
def yX7_within : MethodName := ⟨RX7, "within", "(II)I"⟩
abbrev cX7_order : ByteArray := prog_9_method_59_code
def yX7_order : MethodName := ⟨RX7, "order", "()V"⟩
abbrev cX7_isWhole : ByteArray := prog_9_method_60_code
def yX7_isWhole : MethodName := ⟨RX7, "isWhole", "()Z"⟩
abbrev cX7_fault : ByteArray := prog_9_method_61_code
def yX7_fault : MethodName := ⟨RX7, "fault", "()I"⟩
abbrev cX7_bar : ByteArray := prog_9_method_62_code
def yX7_bar : MethodName := ⟨RX7, "bar", "()I"⟩
abbrev cX7_does : ByteArray := prog_9_method_63_code
def yX7_does : MethodName := ⟨RX7, "does", "()I"⟩
abbrev cX7_carryOut : ByteArray := prog_9_method_64_code
def yX7_carryOut : MethodName := ⟨RX7, "carryOut", "()I"⟩
abbrev cX7_undo : ByteArray := prog_9_method_65_code
def yX7_undo : MethodName := ⟨RX7, "undo", "()I"⟩
abbrev cX7_save : ByteArray := prog_9_method_66_code
def yX7_save : MethodName := ⟨RX7, "save", "(I)I"⟩
abbrev cX7_restore : ByteArray := prog_9_method_67_code
def yX7_restore : MethodName := ⟨RX7, "restore", "(I)I"⟩
def RJ6 : String := "java/lang/Integer"
def TJ6 : u_T := fun k => match k with
  | _ => ("", "", "", false)
def tyJ6 : Nat → FieldType := fun k => match k with
  | _ => .int
abbrev wsJ60 : List Cond := u_ws RJ6 TJ6 0
theorem nmJ6 : ∀ a, a < 0 → ∀ b, b < 0 → a ≠ b → (TJ6 a).2.1 ≠ (TJ6 b).2.1 := by decide +kernel
theorem tyJ6_ok : ∀ k, k < 0 → parseFieldDescriptor (TJ6 k).2.2.1 = some (tyJ6 k) := by decide +kernel
abbrev cJ6_bitCount_0f7a4 : ByteArray := prog_10_method_49_code
def yJ6_bitCount_0f7a4 : MethodName := ⟨RJ6, "bitCount", "(I)I"⟩
def RJ9 : String := "java/lang/Math"
def TJ9 : u_T := fun k => match k with
  | _ => ("", "", "", false)
def tyJ9 : Nat → FieldType := fun k => match k with
  | _ => .int
abbrev wsJ90 : List Cond := u_ws RJ9 TJ9 0
theorem nmJ9 : ∀ a, a < 0 → ∀ b, b < 0 → a ≠ b → (TJ9 a).2.1 ≠ (TJ9 b).2.1 := by decide +kernel
theorem tyJ9_ok : ∀ k, k < 0 → parseFieldDescriptor (TJ9 k).2.2.1 = some (tyJ9 k) := by decide +kernel
abbrev cJ9_max_7cf53 : ByteArray := prog_11_method_65_code
def yJ9_max_7cf53 : MethodName := ⟨RJ9, "max", "(II)I"⟩
abbrev cJ9_min_7cf53 : ByteArray := prog_11_method_69_code
def yJ9_min_7cf53 : MethodName := ⟨RJ9, "min", "(II)I"⟩
def RJ10 : String := "java/lang/System"
def TJ10 : u_T := fun k => match k with
  | _ => ("", "", "", false)
def tyJ10 : Nat → FieldType := fun k => match k with
  | _ => .int
abbrev wsJ100 : List Cond := u_ws RJ10 TJ10 0
theorem nmJ10 : ∀ a, a < 0 → ∀ b, b < 0 → a ≠ b → (TJ10 a).2.1 ≠ (TJ10 b).2.1 := by decide +kernel
theorem tyJ10_ok : ∀ k, k < 0 → parseFieldDescriptor (TJ10 k).2.2.1 = some (tyJ10 k) := by decide +kernel
def RL : String := "LiarMapsLaw"
abbrev cL_law : ByteArray := code
def yL_law : MethodName := ⟨RL, "law", "([I)Z"⟩
theorem dX0_init_0 : decode cX0_init 0 = .ok (.aload_n 0, 1) := by decide +kernel
theorem dX0_init_1 : decode cX0_init 1 = .ok (.invokespecial 3, 3) := by decide +kernel
theorem dX0_init_4 : decode cX0_init 4 = .ok (.aload_n 0, 1) := by decide +kernel
theorem dX0_init_5 : decode cX0_init 5 = .ok (.iconst 4, 1) := by decide +kernel
theorem dX0_init_6 : decode cX0_init 6 = .ok (.newarray .int, 2) := by decide +kernel
theorem dX0_init_8 : decode cX0_init 8 = .ok (.putfield 9, 3) := by decide +kernel
theorem dX0_init_11 : decode cX0_init 11 = .ok (.aload_n 0, 1) := by decide +kernel
theorem dX0_init_12 : decode cX0_init 12 = .ok (.bipush (-6), 2) := by decide +kernel
theorem dX0_init_14 : decode cX0_init 14 = .ok (.putfield 15, 3) := by decide +kernel
theorem dX0_init_17 : decode cX0_init 17 = .ok (.aload_n 0, 1) := by decide +kernel
theorem dX0_init_18 : decode cX0_init 18 = .ok (.new 19, 3) := by decide +kernel
theorem dX0_init_21 : decode cX0_init 21 = .ok (.dup, 1) := by decide +kernel
theorem dX0_init_22 : decode cX0_init 22 = .ok (.invokespecial 21, 3) := by decide +kernel
theorem dX0_init_25 : decode cX0_init 25 = .ok (.putfield 22, 3) := by decide +kernel
theorem dX0_init_28 : decode cX0_init 28 = .ok (.aload_n 0, 1) := by decide +kernel
theorem dX0_init_29 : decode cX0_init 29 = .ok (.new 19, 3) := by decide +kernel
theorem dX0_init_32 : decode cX0_init 32 = .ok (.dup, 1) := by decide +kernel
theorem dX0_init_33 : decode cX0_init 33 = .ok (.invokespecial 21, 3) := by decide +kernel
theorem dX0_init_36 : decode cX0_init 36 = .ok (.putfield 26, 3) := by decide +kernel
theorem dX0_init_39 : decode cX0_init 39 = .ok (.aload_n 0, 1) := by decide +kernel
theorem dX0_init_40 : decode cX0_init 40 = .ok (.new 19, 3) := by decide +kernel
theorem dX0_init_43 : decode cX0_init 43 = .ok (.dup, 1) := by decide +kernel
theorem dX0_init_44 : decode cX0_init 44 = .ok (.invokespecial 21, 3) := by decide +kernel
theorem dX0_init_47 : decode cX0_init 47 = .ok (.putfield 29, 3) := by decide +kernel
theorem dX0_init_50 : decode cX0_init 50 = .ok (.aload_n 0, 1) := by decide +kernel
theorem dX0_init_51 : decode cX0_init 51 = .ok (.bipush 8, 2) := by decide +kernel
theorem dX0_init_53 : decode cX0_init 53 = .ok (.newarray .int, 2) := by decide +kernel
theorem dX0_init_55 : decode cX0_init 55 = .ok (.putfield 34, 3) := by decide +kernel
theorem dX0_init_58 : decode cX0_init 58 = .ok (.aload_n 0, 1) := by decide +kernel
theorem dX0_init_59 : decode cX0_init 59 = .ok (.sipush 150, 3) := by decide +kernel
theorem dX0_init_62 : decode cX0_init 62 = .ok (.newarray .int, 2) := by decide +kernel
theorem dX0_init_64 : decode cX0_init 64 = .ok (.putfield 37, 3) := by decide +kernel
theorem dX0_init_67 : decode cX0_init 67 = .ok (.iconst 0, 1) := by decide +kernel
theorem dX0_init_68 : decode cX0_init 68 = .ok (.istore_n 1, 1) := by decide +kernel
theorem dX0_init_69 : decode cX0_init 69 = .ok (.iload_n 1, 1) := by decide +kernel
theorem dX0_init_70 : decode cX0_init 70 = .ok (.aload_n 0, 1) := by decide +kernel
theorem dX0_init_71 : decode cX0_init 71 = .ok (.getfield 9, 3) := by decide +kernel
theorem dX0_init_74 : decode cX0_init 74 = .ok (.arraylength, 1) := by decide +kernel
theorem dX0_init_75 : decode cX0_init 75 = .ok (.if_icmp .ge 28, 3) := by decide +kernel
theorem dX0_init_78 : decode cX0_init 78 = .ok (.iload_n 1, 1) := by decide +kernel
theorem dX0_init_79 : decode cX0_init 79 = .ok (.getstatic 40, 3) := by decide +kernel
theorem dX0_init_82 : decode cX0_init 82 = .ok (.arraylength, 1) := by decide +kernel
theorem dX0_init_83 : decode cX0_init 83 = .ok (.if_icmp .ge 20, 3) := by decide +kernel
theorem dX0_init_86 : decode cX0_init 86 = .ok (.aload_n 0, 1) := by decide +kernel
theorem dX0_init_87 : decode cX0_init 87 = .ok (.getfield 9, 3) := by decide +kernel
theorem dX0_init_90 : decode cX0_init 90 = .ok (.iload_n 1, 1) := by decide +kernel
theorem dX0_init_91 : decode cX0_init 91 = .ok (.getstatic 40, 3) := by decide +kernel
theorem dX0_init_94 : decode cX0_init 94 = .ok (.iload_n 1, 1) := by decide +kernel
theorem dX0_init_95 : decode cX0_init 95 = .ok (.iaload, 1) := by decide +kernel
theorem dX0_init_96 : decode cX0_init 96 = .ok (.iastore, 1) := by decide +kernel
theorem dX0_init_97 : decode cX0_init 97 = .ok (.iinc 1 1, 3) := by decide +kernel
theorem dX0_init_100 : decode cX0_init 100 = .ok (.goto (-31), 3) := by decide +kernel
theorem dX0_init_103 : decode cX0_init 103 = .ok (.iconst 0, 1) := by decide +kernel
theorem dX0_init_104 : decode cX0_init 104 = .ok (.istore_n 1, 1) := by decide +kernel
theorem dX0_init_105 : decode cX0_init 105 = .ok (.iload_n 1, 1) := by decide +kernel
theorem dX0_init_106 : decode cX0_init 106 = .ok (.aload_n 0, 1) := by decide +kernel
theorem dX0_init_107 : decode cX0_init 107 = .ok (.getfield 34, 3) := by decide +kernel
theorem dX0_init_110 : decode cX0_init 110 = .ok (.arraylength, 1) := by decide +kernel
theorem dX0_init_111 : decode cX0_init 111 = .ok (.if_icmp .ge 17, 3) := by decide +kernel
theorem dX0_init_114 : decode cX0_init 114 = .ok (.aload_n 0, 1) := by decide +kernel
theorem dX0_init_115 : decode cX0_init 115 = .ok (.getfield 34, 3) := by decide +kernel
theorem dX0_init_118 : decode cX0_init 118 = .ok (.iload_n 1, 1) := by decide +kernel
theorem dX0_init_119 : decode cX0_init 119 = .ok (.bipush (-6), 2) := by decide +kernel
theorem dX0_init_121 : decode cX0_init 121 = .ok (.iastore, 1) := by decide +kernel
theorem dX0_init_122 : decode cX0_init 122 = .ok (.iinc 1 1, 3) := by decide +kernel
theorem dX0_init_125 : decode cX0_init 125 = .ok (.goto (-20), 3) := by decide +kernel
theorem dX0_init_128 : decode cX0_init 128 = .ok (.return_, 1) := by decide +kernel
theorem dX0_become_0 : decode cX0_become 0 = .ok (.aload_n 1, 1) := by decide +kernel
theorem dX0_become_1 : decode cX0_become 1 = .ok (.getfield 9, 3) := by decide +kernel
theorem dX0_become_4 : decode cX0_become 4 = .ok (.aload_n 0, 1) := by decide +kernel
theorem dX0_become_5 : decode cX0_become 5 = .ok (.getfield 9, 3) := by decide +kernel
theorem dX0_become_8 : decode cX0_become 8 = .ok (.invokestatic 43, 3) := by decide +kernel
theorem dX0_become_11 : decode cX0_become 11 = .ok (.aload_n 0, 1) := by decide +kernel
theorem dX0_become_12 : decode cX0_become 12 = .ok (.aload_n 1, 1) := by decide +kernel
theorem dX0_become_13 : decode cX0_become 13 = .ok (.getfield 47, 3) := by decide +kernel
theorem dX0_become_16 : decode cX0_become 16 = .ok (.putfield 47, 3) := by decide +kernel
theorem dX0_become_19 : decode cX0_become 19 = .ok (.aload_n 0, 1) := by decide +kernel
theorem dX0_become_20 : decode cX0_become 20 = .ok (.aload_n 1, 1) := by decide +kernel
theorem dX0_become_21 : decode cX0_become 21 = .ok (.getfield 50, 3) := by decide +kernel
theorem dX0_become_24 : decode cX0_become 24 = .ok (.putfield 50, 3) := by decide +kernel
theorem dX0_become_27 : decode cX0_become 27 = .ok (.aload_n 0, 1) := by decide +kernel
theorem dX0_become_28 : decode cX0_become 28 = .ok (.aload_n 1, 1) := by decide +kernel
theorem dX0_become_29 : decode cX0_become 29 = .ok (.getfield 53, 3) := by decide +kernel
theorem dX0_become_32 : decode cX0_become 32 = .ok (.putfield 53, 3) := by decide +kernel
theorem dX0_become_35 : decode cX0_become 35 = .ok (.aload_n 0, 1) := by decide +kernel
theorem dX0_become_36 : decode cX0_become 36 = .ok (.aload_n 1, 1) := by decide +kernel
theorem dX0_become_37 : decode cX0_become 37 = .ok (.getfield 57, 3) := by decide +kernel
theorem dX0_become_40 : decode cX0_become 40 = .ok (.putfield 57, 3) := by decide +kernel
theorem dX0_become_43 : decode cX0_become 43 = .ok (.aload_n 0, 1) := by decide +kernel
theorem dX0_become_44 : decode cX0_become 44 = .ok (.aload_n 1, 1) := by decide +kernel
theorem dX0_become_45 : decode cX0_become 45 = .ok (.getfield 60, 3) := by decide +kernel
theorem dX0_become_48 : decode cX0_become 48 = .ok (.putfield 60, 3) := by decide +kernel
theorem dX0_become_51 : decode cX0_become 51 = .ok (.aload_n 0, 1) := by decide +kernel
theorem dX0_become_52 : decode cX0_become 52 = .ok (.aload_n 1, 1) := by decide +kernel
theorem dX0_become_53 : decode cX0_become 53 = .ok (.getfield 63, 3) := by decide +kernel
theorem dX0_become_56 : decode cX0_become 56 = .ok (.putfield 63, 3) := by decide +kernel
theorem dX0_become_59 : decode cX0_become 59 = .ok (.aload_n 0, 1) := by decide +kernel
theorem dX0_become_60 : decode cX0_become 60 = .ok (.aload_n 1, 1) := by decide +kernel
theorem dX0_become_61 : decode cX0_become 61 = .ok (.getfield 15, 3) := by decide +kernel
theorem dX0_become_64 : decode cX0_become 64 = .ok (.putfield 15, 3) := by decide +kernel
theorem dX0_become_67 : decode cX0_become 67 = .ok (.aload_n 0, 1) := by decide +kernel
theorem dX0_become_68 : decode cX0_become 68 = .ok (.getfield 22, 3) := by decide +kernel
theorem dX0_become_71 : decode cX0_become 71 = .ok (.aload_n 1, 1) := by decide +kernel
theorem dX0_become_72 : decode cX0_become 72 = .ok (.getfield 22, 3) := by decide +kernel
theorem dX0_become_75 : decode cX0_become 75 = .ok (.invokevirtual 66, 3) := by decide +kernel
theorem dX0_become_78 : decode cX0_become 78 = .ok (.aload_n 0, 1) := by decide +kernel
theorem dX0_become_79 : decode cX0_become 79 = .ok (.getfield 26, 3) := by decide +kernel
theorem dX0_become_82 : decode cX0_become 82 = .ok (.aload_n 1, 1) := by decide +kernel
theorem dX0_become_83 : decode cX0_become 83 = .ok (.getfield 26, 3) := by decide +kernel
theorem dX0_become_86 : decode cX0_become 86 = .ok (.invokevirtual 66, 3) := by decide +kernel
theorem dX0_become_89 : decode cX0_become 89 = .ok (.aload_n 0, 1) := by decide +kernel
theorem dX0_become_90 : decode cX0_become 90 = .ok (.getfield 29, 3) := by decide +kernel
theorem dX0_become_93 : decode cX0_become 93 = .ok (.aload_n 1, 1) := by decide +kernel
theorem dX0_become_94 : decode cX0_become 94 = .ok (.getfield 29, 3) := by decide +kernel
theorem dX0_become_97 : decode cX0_become 97 = .ok (.invokevirtual 66, 3) := by decide +kernel
theorem dX0_become_100 : decode cX0_become 100 = .ok (.aload_n 1, 1) := by decide +kernel
theorem dX0_become_101 : decode cX0_become 101 = .ok (.getfield 34, 3) := by decide +kernel
theorem dX0_become_104 : decode cX0_become 104 = .ok (.aload_n 0, 1) := by decide +kernel
theorem dX0_become_105 : decode cX0_become 105 = .ok (.getfield 34, 3) := by decide +kernel
theorem dX0_become_108 : decode cX0_become 108 = .ok (.invokestatic 43, 3) := by decide +kernel
theorem dX0_become_111 : decode cX0_become 111 = .ok (.aload_n 1, 1) := by decide +kernel
theorem dX0_become_112 : decode cX0_become 112 = .ok (.getfield 37, 3) := by decide +kernel
theorem dX0_become_115 : decode cX0_become 115 = .ok (.aload_n 0, 1) := by decide +kernel
theorem dX0_become_116 : decode cX0_become 116 = .ok (.getfield 37, 3) := by decide +kernel
theorem dX0_become_119 : decode cX0_become 119 = .ok (.invokestatic 43, 3) := by decide +kernel
theorem dX0_become_122 : decode cX0_become 122 = .ok (.aload_n 0, 1) := by decide +kernel
theorem dX0_become_123 : decode cX0_become 123 = .ok (.aload_n 1, 1) := by decide +kernel
theorem dX0_become_124 : decode cX0_become 124 = .ok (.getfield 70, 3) := by decide +kernel
theorem dX0_become_127 : decode cX0_become 127 = .ok (.putfield 70, 3) := by decide +kernel
theorem dX0_become_130 : decode cX0_become 130 = .ok (.return_, 1) := by decide +kernel
theorem dX0_changeSetting_0 : decode cX0_changeSetting 0 = .ok (.iload_n 1, 1) := by decide +kernel
theorem dX0_changeSetting_1 : decode cX0_changeSetting 1 = .ok (.ifCond .lt 46, 3) := by decide +kernel
theorem dX0_changeSetting_4 : decode cX0_changeSetting 4 = .ok (.iload_n 1, 1) := by decide +kernel
theorem dX0_changeSetting_5 : decode cX0_changeSetting 5 = .ok (.aload_n 0, 1) := by decide +kernel
theorem dX0_changeSetting_6 : decode cX0_changeSetting 6 = .ok (.getfield 9, 3) := by decide +kernel
theorem dX0_changeSetting_9 : decode cX0_changeSetting 9 = .ok (.arraylength, 1) := by decide +kernel
theorem dX0_changeSetting_10 : decode cX0_changeSetting 10 = .ok (.if_icmp .ge 37, 3) := by decide +kernel
theorem dX0_changeSetting_13 : decode cX0_changeSetting 13 = .ok (.iload_n 1, 1) := by decide +kernel
theorem dX0_changeSetting_14 : decode cX0_changeSetting 14 = .ok (.getstatic 73, 3) := by decide +kernel
theorem dX0_changeSetting_17 : decode cX0_changeSetting 17 = .ok (.arraylength, 1) := by decide +kernel
theorem dX0_changeSetting_18 : decode cX0_changeSetting 18 = .ok (.if_icmp .ge 29, 3) := by decide +kernel
theorem dX0_changeSetting_21 : decode cX0_changeSetting 21 = .ok (.iload_n 1, 1) := by decide +kernel
theorem dX0_changeSetting_22 : decode cX0_changeSetting 22 = .ok (.getstatic 76, 3) := by decide +kernel
theorem dX0_changeSetting_25 : decode cX0_changeSetting 25 = .ok (.arraylength, 1) := by decide +kernel
theorem dX0_changeSetting_26 : decode cX0_changeSetting 26 = .ok (.if_icmp .ge 21, 3) := by decide +kernel
theorem dX0_changeSetting_29 : decode cX0_changeSetting 29 = .ok (.iload_n 2, 1) := by decide +kernel
theorem dX0_changeSetting_30 : decode cX0_changeSetting 30 = .ok (.getstatic 73, 3) := by decide +kernel
theorem dX0_changeSetting_33 : decode cX0_changeSetting 33 = .ok (.iload_n 1, 1) := by decide +kernel
theorem dX0_changeSetting_34 : decode cX0_changeSetting 34 = .ok (.iaload, 1) := by decide +kernel
theorem dX0_changeSetting_35 : decode cX0_changeSetting 35 = .ok (.if_icmp .lt 12, 3) := by decide +kernel
theorem dX0_changeSetting_38 : decode cX0_changeSetting 38 = .ok (.iload_n 2, 1) := by decide +kernel
theorem dX0_changeSetting_39 : decode cX0_changeSetting 39 = .ok (.getstatic 76, 3) := by decide +kernel
theorem dX0_changeSetting_42 : decode cX0_changeSetting 42 = .ok (.iload_n 1, 1) := by decide +kernel
theorem dX0_changeSetting_43 : decode cX0_changeSetting 43 = .ok (.iaload, 1) := by decide +kernel
theorem dX0_changeSetting_44 : decode cX0_changeSetting 44 = .ok (.if_icmp .le 6, 3) := by decide +kernel
theorem dX0_changeSetting_47 : decode cX0_changeSetting 47 = .ok (.bipush (-2), 2) := by decide +kernel
theorem dX0_changeSetting_49 : decode cX0_changeSetting 49 = .ok (.ireturn, 1) := by decide +kernel
theorem dX0_changeSetting_50 : decode cX0_changeSetting 50 = .ok (.aload_n 0, 1) := by decide +kernel
theorem dX0_changeSetting_51 : decode cX0_changeSetting 51 = .ok (.getfield 9, 3) := by decide +kernel
theorem dX0_changeSetting_54 : decode cX0_changeSetting 54 = .ok (.iload_n 1, 1) := by decide +kernel
theorem dX0_changeSetting_55 : decode cX0_changeSetting 55 = .ok (.iaload, 1) := by decide +kernel
theorem dX0_changeSetting_56 : decode cX0_changeSetting 56 = .ok (.istore_n 3, 1) := by decide +kernel
theorem dX0_changeSetting_57 : decode cX0_changeSetting 57 = .ok (.aload_n 0, 1) := by decide +kernel
theorem dX0_changeSetting_58 : decode cX0_changeSetting 58 = .ok (.getfield 9, 3) := by decide +kernel
theorem dX0_changeSetting_61 : decode cX0_changeSetting 61 = .ok (.iload_n 1, 1) := by decide +kernel
theorem dX0_changeSetting_62 : decode cX0_changeSetting 62 = .ok (.iload_n 2, 1) := by decide +kernel
theorem dX0_changeSetting_63 : decode cX0_changeSetting 63 = .ok (.iastore, 1) := by decide +kernel
theorem dX0_changeSetting_64 : decode cX0_changeSetting 64 = .ok (.iload_n 3, 1) := by decide +kernel
theorem dX0_changeSetting_65 : decode cX0_changeSetting 65 = .ok (.ireturn, 1) := by decide +kernel
theorem dX0_layRoad_0 : decode cX0_layRoad 0 = .ok (.iload_n 1, 1) := by decide +kernel
theorem dX0_layRoad_1 : decode cX0_layRoad 1 = .ok (.iload_n 2, 1) := by decide +kernel
theorem dX0_layRoad_2 : decode cX0_layRoad 2 = .ok (.invokestatic 79, 3) := by decide +kernel
theorem dX0_layRoad_5 : decode cX0_layRoad 5 = .ok (.istore_n 3, 1) := by decide +kernel
theorem dX0_layRoad_6 : decode cX0_layRoad 6 = .ok (.iload_n 3, 1) := by decide +kernel
theorem dX0_layRoad_7 : decode cX0_layRoad 7 = .ok (.ifCond .eq 5, 3) := by decide +kernel
theorem dX0_layRoad_10 : decode cX0_layRoad 10 = .ok (.iload_n 3, 1) := by decide +kernel
theorem dX0_layRoad_11 : decode cX0_layRoad 11 = .ok (.ireturn, 1) := by decide +kernel
theorem dX0_layRoad_12 : decode cX0_layRoad 12 = .ok (.aload_n 0, 1) := by decide +kernel
theorem dX0_layRoad_13 : decode cX0_layRoad 13 = .ok (.getfield 53, 3) := by decide +kernel
theorem dX0_layRoad_16 : decode cX0_layRoad 16 = .ok (.ifCond .eq 6, 3) := by decide +kernel
theorem dX0_layRoad_19 : decode cX0_layRoad 19 = .ok (.bipush (-5), 2) := by decide +kernel
theorem dX0_layRoad_21 : decode cX0_layRoad 21 = .ok (.ireturn, 1) := by decide +kernel
theorem dX0_layRoad_22 : decode cX0_layRoad 22 = .ok (.aload_n 0, 1) := by decide +kernel
theorem dX0_layRoad_23 : decode cX0_layRoad 23 = .ok (.dup, 1) := by decide +kernel
theorem dX0_layRoad_24 : decode cX0_layRoad 24 = .ok (.getfield 47, 3) := by decide +kernel
theorem dX0_layRoad_27 : decode cX0_layRoad 27 = .ok (.iload_n 1, 1) := by decide +kernel
theorem dX0_layRoad_28 : decode cX0_layRoad 28 = .ok (.iload_n 2, 1) := by decide +kernel
theorem dX0_layRoad_29 : decode cX0_layRoad 29 = .ok (.invokestatic 83, 3) := by decide +kernel
theorem dX0_layRoad_32 : decode cX0_layRoad 32 = .ok (.ixor, 1) := by decide +kernel
theorem dX0_layRoad_33 : decode cX0_layRoad 33 = .ok (.putfield 47, 3) := by decide +kernel
theorem dX0_layRoad_36 : decode cX0_layRoad 36 = .ok (.aload_n 0, 1) := by decide +kernel
theorem dX0_layRoad_37 : decode cX0_layRoad 37 = .ok (.getfield 47, 3) := by decide +kernel
theorem dX0_layRoad_40 : decode cX0_layRoad 40 = .ok (.invokestatic 86, 3) := by decide +kernel
theorem dX0_layRoad_43 : decode cX0_layRoad 43 = .ok (.ireturn, 1) := by decide +kernel
theorem dX0_hideTreasure_0 : decode cX0_hideTreasure 0 = .ok (.iload_n 1, 1) := by decide +kernel
theorem dX0_hideTreasure_1 : decode cX0_hideTreasure 1 = .ok (.invokestatic 92, 3) := by decide +kernel
theorem dX0_hideTreasure_4 : decode cX0_hideTreasure 4 = .ok (.ifCond .ne 5, 3) := by decide +kernel
theorem dX0_hideTreasure_7 : decode cX0_hideTreasure 7 = .ok (.iconst (-1), 1) := by decide +kernel
theorem dX0_hideTreasure_8 : decode cX0_hideTreasure 8 = .ok (.ireturn, 1) := by decide +kernel
theorem dX0_hideTreasure_9 : decode cX0_hideTreasure 9 = .ok (.aload_n 0, 1) := by decide +kernel
theorem dX0_hideTreasure_10 : decode cX0_hideTreasure 10 = .ok (.getfield 53, 3) := by decide +kernel
theorem dX0_hideTreasure_13 : decode cX0_hideTreasure 13 = .ok (.ifCond .eq 6, 3) := by decide +kernel
theorem dX0_hideTreasure_16 : decode cX0_hideTreasure 16 = .ok (.bipush (-5), 2) := by decide +kernel
theorem dX0_hideTreasure_18 : decode cX0_hideTreasure 18 = .ok (.ireturn, 1) := by decide +kernel
theorem dX0_hideTreasure_19 : decode cX0_hideTreasure 19 = .ok (.aload_n 0, 1) := by decide +kernel
theorem dX0_hideTreasure_20 : decode cX0_hideTreasure 20 = .ok (.getfield 50, 3) := by decide +kernel
theorem dX0_hideTreasure_23 : decode cX0_hideTreasure 23 = .ok (.istore_n 2, 1) := by decide +kernel
theorem dX0_hideTreasure_24 : decode cX0_hideTreasure 24 = .ok (.aload_n 0, 1) := by decide +kernel
theorem dX0_hideTreasure_25 : decode cX0_hideTreasure 25 = .ok (.iload_n 1, 1) := by decide +kernel
theorem dX0_hideTreasure_26 : decode cX0_hideTreasure 26 = .ok (.putfield 50, 3) := by decide +kernel
theorem dX0_hideTreasure_29 : decode cX0_hideTreasure 29 = .ok (.iload_n 2, 1) := by decide +kernel
theorem dX0_hideTreasure_30 : decode cX0_hideTreasure 30 = .ok (.ireturn, 1) := by decide +kernel
theorem dX0_start_0 : decode cX0_start 0 = .ok (.aload_n 0, 1) := by decide +kernel
theorem dX0_start_1 : decode cX0_start 1 = .ok (.getfield 53, 3) := by decide +kernel
theorem dX0_start_4 : decode cX0_start 4 = .ok (.ifCond .eq 6, 3) := by decide +kernel
theorem dX0_start_7 : decode cX0_start 7 = .ok (.bipush (-5), 2) := by decide +kernel
theorem dX0_start_9 : decode cX0_start 9 = .ok (.ireturn, 1) := by decide +kernel
theorem dX0_start_10 : decode cX0_start 10 = .ok (.aload_n 0, 1) := by decide +kernel
theorem dX0_start_11 : decode cX0_start 11 = .ok (.iconst 1, 1) := by decide +kernel
theorem dX0_start_12 : decode cX0_start 12 = .ok (.putfield 53, 3) := by decide +kernel
theorem dX0_start_15 : decode cX0_start 15 = .ok (.aload_n 0, 1) := by decide +kernel
theorem dX0_start_16 : decode cX0_start 16 = .ok (.aload_n 0, 1) := by decide +kernel
theorem dX0_start_17 : decode cX0_start 17 = .ok (.getfield 47, 3) := by decide +kernel
theorem dX0_start_20 : decode cX0_start 20 = .ok (.aload_n 0, 1) := by decide +kernel
theorem dX0_start_21 : decode cX0_start 21 = .ok (.getfield 57, 3) := by decide +kernel
theorem dX0_start_24 : decode cX0_start 24 = .ok (.invokestatic 96, 3) := by decide +kernel
theorem dX0_start_27 : decode cX0_start 27 = .ok (.putfield 60, 3) := by decide +kernel
theorem dX0_start_30 : decode cX0_start 30 = .ok (.aload_n 0, 1) := by decide +kernel
theorem dX0_start_31 : decode cX0_start 31 = .ok (.getfield 60, 3) := by decide +kernel
theorem dX0_start_34 : decode cX0_start 34 = .ok (.invokestatic 86, 3) := by decide +kernel
theorem dX0_start_37 : decode cX0_start 37 = .ok (.ireturn, 1) := by decide +kernel
theorem dX0_makeClaim_0 : decode cX0_makeClaim 0 = .ok (.iload_n 1, 1) := by decide +kernel
theorem dX0_makeClaim_1 : decode cX0_makeClaim 1 = .ok (.iload_n 2, 1) := by decide +kernel
theorem dX0_makeClaim_2 : decode cX0_makeClaim 2 = .ok (.invokestatic 79, 3) := by decide +kernel
theorem dX0_makeClaim_5 : decode cX0_makeClaim 5 = .ok (.istore 4, 2) := by decide +kernel
theorem dX0_makeClaim_7 : decode cX0_makeClaim 7 = .ok (.iload 4, 2) := by decide +kernel
theorem dX0_makeClaim_9 : decode cX0_makeClaim 9 = .ok (.ifCond .eq 6, 3) := by decide +kernel
theorem dX0_makeClaim_12 : decode cX0_makeClaim 12 = .ok (.iload 4, 2) := by decide +kernel
theorem dX0_makeClaim_14 : decode cX0_makeClaim 14 = .ok (.ireturn, 1) := by decide +kernel
theorem dX0_makeClaim_15 : decode cX0_makeClaim 15 = .ok (.iload_n 3, 1) := by decide +kernel
theorem dX0_makeClaim_16 : decode cX0_makeClaim 16 = .ok (.ifCond .eq 11, 3) := by decide +kernel
theorem dX0_makeClaim_19 : decode cX0_makeClaim 19 = .ok (.iload_n 3, 1) := by decide +kernel
theorem dX0_makeClaim_20 : decode cX0_makeClaim 20 = .ok (.iconst 1, 1) := by decide +kernel
theorem dX0_makeClaim_21 : decode cX0_makeClaim 21 = .ok (.if_icmp .eq 6, 3) := by decide +kernel
theorem dX0_makeClaim_24 : decode cX0_makeClaim 24 = .ok (.bipush (-2), 2) := by decide +kernel
theorem dX0_makeClaim_26 : decode cX0_makeClaim 26 = .ok (.ireturn, 1) := by decide +kernel
theorem dX0_makeClaim_27 : decode cX0_makeClaim 27 = .ok (.aload_n 0, 1) := by decide +kernel
theorem dX0_makeClaim_28 : decode cX0_makeClaim 28 = .ok (.invokevirtual 99, 3) := by decide +kernel
theorem dX0_makeClaim_31 : decode cX0_makeClaim 31 = .ok (.ifCond .ne 6, 3) := by decide +kernel
theorem dX0_makeClaim_34 : decode cX0_makeClaim 34 = .ok (.bipush (-5), 2) := by decide +kernel
theorem dX0_makeClaim_36 : decode cX0_makeClaim 36 = .ok (.ireturn, 1) := by decide +kernel
theorem dX0_makeClaim_37 : decode cX0_makeClaim 37 = .ok (.aload_n 0, 1) := by decide +kernel
theorem dX0_makeClaim_38 : decode cX0_makeClaim 38 = .ok (.aload_n 0, 1) := by decide +kernel
theorem dX0_makeClaim_39 : decode cX0_makeClaim 39 = .ok (.invokevirtual 103, 3) := by decide +kernel
theorem dX0_makeClaim_42 : decode cX0_makeClaim 42 = .ok (.invokevirtual 107, 3) := by decide +kernel
theorem dX0_makeClaim_45 : decode cX0_makeClaim 45 = .ok (.astore 5, 2) := by decide +kernel
theorem dX0_makeClaim_47 : decode cX0_makeClaim 47 = .ok (.aload 5, 2) := by decide +kernel
theorem dX0_makeClaim_49 : decode cX0_makeClaim 49 = .ok (.iload_n 1, 1) := by decide +kernel
theorem dX0_makeClaim_50 : decode cX0_makeClaim 50 = .ok (.iload_n 2, 1) := by decide +kernel
theorem dX0_makeClaim_51 : decode cX0_makeClaim 51 = .ok (.invokestatic 83, 3) := by decide +kernel
theorem dX0_makeClaim_54 : decode cX0_makeClaim 54 = .ok (.iload_n 3, 1) := by decide +kernel
theorem dX0_makeClaim_55 : decode cX0_makeClaim 55 = .ok (.iconst 1, 1) := by decide +kernel
theorem dX0_makeClaim_56 : decode cX0_makeClaim 56 = .ok (.if_icmp .ne 7, 3) := by decide +kernel
theorem dX0_makeClaim_59 : decode cX0_makeClaim 59 = .ok (.iconst 1, 1) := by decide +kernel
theorem dX0_makeClaim_60 : decode cX0_makeClaim 60 = .ok (.goto 4, 3) := by decide +kernel
theorem dX0_makeClaim_63 : decode cX0_makeClaim 63 = .ok (.iconst 0, 1) := by decide +kernel
theorem dX0_makeClaim_64 : decode cX0_makeClaim 64 = .ok (.invokevirtual 111, 3) := by decide +kernel
theorem dX0_makeClaim_67 : decode cX0_makeClaim 67 = .ok (.aload_n 0, 1) := by decide +kernel
theorem dX0_makeClaim_68 : decode cX0_makeClaim 68 = .ok (.dup, 1) := by decide +kernel
theorem dX0_makeClaim_69 : decode cX0_makeClaim 69 = .ok (.getfield 63, 3) := by decide +kernel
theorem dX0_makeClaim_72 : decode cX0_makeClaim 72 = .ok (.iconst 1, 1) := by decide +kernel
theorem dX0_makeClaim_73 : decode cX0_makeClaim 73 = .ok (.iadd, 1) := by decide +kernel
theorem dX0_makeClaim_74 : decode cX0_makeClaim 74 = .ok (.putfield 63, 3) := by decide +kernel
theorem dX0_makeClaim_77 : decode cX0_makeClaim 77 = .ok (.aload 5, 2) := by decide +kernel
theorem dX0_makeClaim_79 : decode cX0_makeClaim 79 = .ok (.invokevirtual 115, 3) := by decide +kernel
theorem dX0_makeClaim_82 : decode cX0_makeClaim 82 = .ok (.ireturn, 1) := by decide +kernel
theorem dX0_checkClaim_0 : decode cX0_checkClaim 0 = .ok (.iload_n 1, 1) := by decide +kernel
theorem dX0_checkClaim_1 : decode cX0_checkClaim 1 = .ok (.invokestatic 118, 3) := by decide +kernel
theorem dX0_checkClaim_4 : decode cX0_checkClaim 4 = .ok (.ifCond .eq 11, 3) := by decide +kernel
theorem dX0_checkClaim_7 : decode cX0_checkClaim 7 = .ok (.iload_n 2, 1) := by decide +kernel
theorem dX0_checkClaim_8 : decode cX0_checkClaim 8 = .ok (.iload_n 3, 1) := by decide +kernel
theorem dX0_checkClaim_9 : decode cX0_checkClaim 9 = .ok (.invokestatic 79, 3) := by decide +kernel
theorem dX0_checkClaim_12 : decode cX0_checkClaim 12 = .ok (.goto 4, 3) := by decide +kernel
theorem dX0_checkClaim_15 : decode cX0_checkClaim 15 = .ok (.iconst (-1), 1) := by decide +kernel
theorem dX0_checkClaim_16 : decode cX0_checkClaim 16 = .ok (.istore 4, 2) := by decide +kernel
theorem dX0_checkClaim_18 : decode cX0_checkClaim 18 = .ok (.iload 4, 2) := by decide +kernel
theorem dX0_checkClaim_20 : decode cX0_checkClaim 20 = .ok (.ifCond .eq 6, 3) := by decide +kernel
theorem dX0_checkClaim_23 : decode cX0_checkClaim 23 = .ok (.iload 4, 2) := by decide +kernel
theorem dX0_checkClaim_25 : decode cX0_checkClaim 25 = .ok (.ireturn, 1) := by decide +kernel
theorem dX0_checkClaim_26 : decode cX0_checkClaim 26 = .ok (.iload_n 1, 1) := by decide +kernel
theorem dX0_checkClaim_27 : decode cX0_checkClaim 27 = .ok (.aload_n 0, 1) := by decide +kernel
theorem dX0_checkClaim_28 : decode cX0_checkClaim 28 = .ok (.invokevirtual 103, 3) := by decide +kernel
theorem dX0_checkClaim_31 : decode cX0_checkClaim 31 = .ok (.if_icmp .ne 6, 3) := by decide +kernel
theorem dX0_checkClaim_34 : decode cX0_checkClaim 34 = .ok (.bipush (-2), 2) := by decide +kernel
theorem dX0_checkClaim_36 : decode cX0_checkClaim 36 = .ok (.ireturn, 1) := by decide +kernel
theorem dX0_checkClaim_37 : decode cX0_checkClaim 37 = .ok (.iload_n 2, 1) := by decide +kernel
theorem dX0_checkClaim_38 : decode cX0_checkClaim 38 = .ok (.iload_n 3, 1) := by decide +kernel
theorem dX0_checkClaim_39 : decode cX0_checkClaim 39 = .ok (.invokestatic 83, 3) := by decide +kernel
theorem dX0_checkClaim_42 : decode cX0_checkClaim 42 = .ok (.istore 5, 2) := by decide +kernel
theorem dX0_checkClaim_44 : decode cX0_checkClaim 44 = .ok (.aload_n 0, 1) := by decide +kernel
theorem dX0_checkClaim_45 : decode cX0_checkClaim 45 = .ok (.iload_n 1, 1) := by decide +kernel
theorem dX0_checkClaim_46 : decode cX0_checkClaim 46 = .ok (.invokevirtual 107, 3) := by decide +kernel
theorem dX0_checkClaim_49 : decode cX0_checkClaim 49 = .ok (.astore 6, 2) := by decide +kernel
theorem dX0_checkClaim_51 : decode cX0_checkClaim 51 = .ok (.aload 6, 2) := by decide +kernel
theorem dX0_checkClaim_53 : decode cX0_checkClaim 53 = .ok (.getfield 121, 3) := by decide +kernel
theorem dX0_checkClaim_56 : decode cX0_checkClaim 56 = .ok (.aload 6, 2) := by decide +kernel
theorem dX0_checkClaim_58 : decode cX0_checkClaim 58 = .ok (.getfield 124, 3) := by decide +kernel
theorem dX0_checkClaim_61 : decode cX0_checkClaim 61 = .ok (.ior, 1) := by decide +kernel
theorem dX0_checkClaim_62 : decode cX0_checkClaim 62 = .ok (.iload 5, 2) := by decide +kernel
theorem dX0_checkClaim_64 : decode cX0_checkClaim 64 = .ok (.iand, 1) := by decide +kernel
theorem dX0_checkClaim_65 : decode cX0_checkClaim 65 = .ok (.ifCond .eq 7, 3) := by decide +kernel
theorem dX0_checkClaim_68 : decode cX0_checkClaim 68 = .ok (.iconst 1, 1) := by decide +kernel
theorem dX0_checkClaim_69 : decode cX0_checkClaim 69 = .ok (.goto 4, 3) := by decide +kernel
theorem dX0_checkClaim_72 : decode cX0_checkClaim 72 = .ok (.iconst 0, 1) := by decide +kernel
theorem dX0_checkClaim_73 : decode cX0_checkClaim 73 = .ok (.istore 7, 2) := by decide +kernel
theorem dX0_checkClaim_75 : decode cX0_checkClaim 75 = .ok (.aload_n 0, 1) := by decide +kernel
theorem dX0_checkClaim_76 : decode cX0_checkClaim 76 = .ok (.invokevirtual 99, 3) := by decide +kernel
theorem dX0_checkClaim_79 : decode cX0_checkClaim 79 = .ok (.ifCond .eq 18, 3) := by decide +kernel
theorem dX0_checkClaim_82 : decode cX0_checkClaim 82 = .ok (.iload 7, 2) := by decide +kernel
theorem dX0_checkClaim_84 : decode cX0_checkClaim 84 = .ok (.ifCond .eq 13, 3) := by decide +kernel
theorem dX0_checkClaim_87 : decode cX0_checkClaim 87 = .ok (.aload_n 0, 1) := by decide +kernel
theorem dX0_checkClaim_88 : decode cX0_checkClaim 88 = .ok (.getfield 57, 3) := by decide +kernel
theorem dX0_checkClaim_91 : decode cX0_checkClaim 91 = .ok (.iload 5, 2) := by decide +kernel
theorem dX0_checkClaim_93 : decode cX0_checkClaim 93 = .ok (.iand, 1) := by decide +kernel
theorem dX0_checkClaim_94 : decode cX0_checkClaim 94 = .ok (.ifCond .eq 6, 3) := by decide +kernel
theorem dX0_checkClaim_97 : decode cX0_checkClaim 97 = .ok (.bipush (-5), 2) := by decide +kernel
theorem dX0_checkClaim_99 : decode cX0_checkClaim 99 = .ok (.ireturn, 1) := by decide +kernel
theorem dX0_checkClaim_100 : decode cX0_checkClaim 100 = .ok (.aload_n 0, 1) := by decide +kernel
theorem dX0_checkClaim_101 : decode cX0_checkClaim 101 = .ok (.aload_n 0, 1) := by decide +kernel
theorem dX0_checkClaim_102 : decode cX0_checkClaim 102 = .ok (.aload_n 0, 1) := by decide +kernel
theorem dX0_checkClaim_103 : decode cX0_checkClaim 103 = .ok (.invokevirtual 103, 3) := by decide +kernel
theorem dX0_checkClaim_106 : decode cX0_checkClaim 106 = .ok (.invokevirtual 107, 3) := by decide +kernel
theorem dX0_checkClaim_109 : decode cX0_checkClaim 109 = .ok (.aload 6, 2) := by decide +kernel
theorem dX0_checkClaim_111 : decode cX0_checkClaim 111 = .ok (.iload 5, 2) := by decide +kernel
theorem dX0_checkClaim_113 : decode cX0_checkClaim 113 = .ok (.invokevirtual 127, 3) := by decide +kernel
theorem dX0_checkClaim_116 : decode cX0_checkClaim 116 = .ok (.ireturn, 1) := by decide +kernel
theorem dX0_settleCheck_0 : decode cX0_settleCheck 0 = .ok (.aload_n 1, 1) := by decide +kernel
theorem dX0_settleCheck_1 : decode cX0_settleCheck 1 = .ok (.dup, 1) := by decide +kernel
theorem dX0_settleCheck_2 : decode cX0_settleCheck 2 = .ok (.getfield 131, 3) := by decide +kernel
theorem dX0_settleCheck_5 : decode cX0_settleCheck 5 = .ok (.iconst 1, 1) := by decide +kernel
theorem dX0_settleCheck_6 : decode cX0_settleCheck 6 = .ok (.iadd, 1) := by decide +kernel
theorem dX0_settleCheck_7 : decode cX0_settleCheck 7 = .ok (.putfield 131, 3) := by decide +kernel
theorem dX0_settleCheck_10 : decode cX0_settleCheck 10 = .ok (.aload_n 1, 1) := by decide +kernel
theorem dX0_settleCheck_11 : decode cX0_settleCheck 11 = .ok (.aload_n 2, 1) := by decide +kernel
theorem dX0_settleCheck_12 : decode cX0_settleCheck 12 = .ok (.aload_n 0, 1) := by decide +kernel
theorem dX0_settleCheck_13 : decode cX0_settleCheck 13 = .ok (.iconst 0, 1) := by decide +kernel
theorem dX0_settleCheck_14 : decode cX0_settleCheck 14 = .ok (.invokevirtual 134, 3) := by decide +kernel
theorem dX0_settleCheck_17 : decode cX0_settleCheck 17 = .ok (.invokevirtual 137, 3) := by decide +kernel
theorem dX0_settleCheck_20 : decode cX0_settleCheck 20 = .ok (.aload_n 0, 1) := by decide +kernel
theorem dX0_settleCheck_21 : decode cX0_settleCheck 21 = .ok (.dup, 1) := by decide +kernel
theorem dX0_settleCheck_22 : decode cX0_settleCheck 22 = .ok (.getfield 57, 3) := by decide +kernel
theorem dX0_settleCheck_25 : decode cX0_settleCheck 25 = .ok (.iload_n 3, 1) := by decide +kernel
theorem dX0_settleCheck_26 : decode cX0_settleCheck 26 = .ok (.ior, 1) := by decide +kernel
theorem dX0_settleCheck_27 : decode cX0_settleCheck 27 = .ok (.putfield 57, 3) := by decide +kernel
theorem dX0_settleCheck_30 : decode cX0_settleCheck 30 = .ok (.aload_n 0, 1) := by decide +kernel
theorem dX0_settleCheck_31 : decode cX0_settleCheck 31 = .ok (.aload_n 0, 1) := by decide +kernel
theorem dX0_settleCheck_32 : decode cX0_settleCheck 32 = .ok (.getfield 47, 3) := by decide +kernel
theorem dX0_settleCheck_35 : decode cX0_settleCheck 35 = .ok (.aload_n 0, 1) := by decide +kernel
theorem dX0_settleCheck_36 : decode cX0_settleCheck 36 = .ok (.getfield 57, 3) := by decide +kernel
theorem dX0_settleCheck_39 : decode cX0_settleCheck 39 = .ok (.invokestatic 96, 3) := by decide +kernel
theorem dX0_settleCheck_42 : decode cX0_settleCheck 42 = .ok (.putfield 60, 3) := by decide +kernel
theorem dX0_settleCheck_45 : decode cX0_settleCheck 45 = .ok (.aload_n 2, 1) := by decide +kernel
theorem dX0_settleCheck_46 : decode cX0_settleCheck 46 = .ok (.aload_n 0, 1) := by decide +kernel
theorem dX0_settleCheck_47 : decode cX0_settleCheck 47 = .ok (.getfield 47, 3) := by decide +kernel
theorem dX0_settleCheck_50 : decode cX0_settleCheck 50 = .ok (.invokevirtual 141, 3) := by decide +kernel
theorem dX0_settleCheck_53 : decode cX0_settleCheck 53 = .ok (.iload_n 3, 1) := by decide +kernel
theorem dX0_settleCheck_54 : decode cX0_settleCheck 54 = .ok (.iand, 1) := by decide +kernel
theorem dX0_settleCheck_55 : decode cX0_settleCheck 55 = .ok (.ifCond .eq 7, 3) := by decide +kernel
theorem dX0_settleCheck_58 : decode cX0_settleCheck 58 = .ok (.iconst 1, 1) := by decide +kernel
theorem dX0_settleCheck_59 : decode cX0_settleCheck 59 = .ok (.goto 4, 3) := by decide +kernel
theorem dX0_settleCheck_62 : decode cX0_settleCheck 62 = .ok (.iconst 0, 1) := by decide +kernel
theorem dX0_settleCheck_63 : decode cX0_settleCheck 63 = .ok (.istore 4, 2) := by decide +kernel
theorem dX0_settleCheck_65 : decode cX0_settleCheck 65 = .ok (.iload 4, 2) := by decide +kernel
theorem dX0_settleCheck_67 : decode cX0_settleCheck 67 = .ok (.ifCond .eq 33, 3) := by decide +kernel
theorem dX0_settleCheck_70 : decode cX0_settleCheck 70 = .ok (.aload_n 1, 1) := by decide +kernel
theorem dX0_settleCheck_71 : decode cX0_settleCheck 71 = .ok (.dup, 1) := by decide +kernel
theorem dX0_settleCheck_72 : decode cX0_settleCheck 72 = .ok (.getfield 144, 3) := by decide +kernel
theorem dX0_settleCheck_75 : decode cX0_settleCheck 75 = .ok (.iconst 1, 1) := by decide +kernel
theorem dX0_settleCheck_76 : decode cX0_settleCheck 76 = .ok (.iadd, 1) := by decide +kernel
theorem dX0_settleCheck_77 : decode cX0_settleCheck 77 = .ok (.putfield 144, 3) := by decide +kernel
theorem dX0_settleCheck_80 : decode cX0_settleCheck 80 = .ok (.aload_n 2, 1) := by decide +kernel
theorem dX0_settleCheck_81 : decode cX0_settleCheck 81 = .ok (.dup, 1) := by decide +kernel
theorem dX0_settleCheck_82 : decode cX0_settleCheck 82 = .ok (.getfield 147, 3) := by decide +kernel
theorem dX0_settleCheck_85 : decode cX0_settleCheck 85 = .ok (.iconst 1, 1) := by decide +kernel
theorem dX0_settleCheck_86 : decode cX0_settleCheck 86 = .ok (.iadd, 1) := by decide +kernel
theorem dX0_settleCheck_87 : decode cX0_settleCheck 87 = .ok (.putfield 147, 3) := by decide +kernel
theorem dX0_settleCheck_90 : decode cX0_settleCheck 90 = .ok (.aload_n 2, 1) := by decide +kernel
theorem dX0_settleCheck_91 : decode cX0_settleCheck 91 = .ok (.aload_n 1, 1) := by decide +kernel
theorem dX0_settleCheck_92 : decode cX0_settleCheck 92 = .ok (.aload_n 0, 1) := by decide +kernel
theorem dX0_settleCheck_93 : decode cX0_settleCheck 93 = .ok (.iconst 1, 1) := by decide +kernel
theorem dX0_settleCheck_94 : decode cX0_settleCheck 94 = .ok (.invokevirtual 134, 3) := by decide +kernel
theorem dX0_settleCheck_97 : decode cX0_settleCheck 97 = .ok (.invokevirtual 137, 3) := by decide +kernel
theorem dX0_settleCheck_100 : decode cX0_settleCheck 100 = .ok (.aload_n 0, 1) := by decide +kernel
theorem dX0_settleCheck_101 : decode cX0_settleCheck 101 = .ok (.dup, 1) := by decide +kernel
theorem dX0_settleCheck_102 : decode cX0_settleCheck 102 = .ok (.getfield 63, 3) := by decide +kernel
theorem dX0_settleCheck_105 : decode cX0_settleCheck 105 = .ok (.iconst 1, 1) := by decide +kernel
theorem dX0_settleCheck_106 : decode cX0_settleCheck 106 = .ok (.iadd, 1) := by decide +kernel
theorem dX0_settleCheck_107 : decode cX0_settleCheck 107 = .ok (.putfield 63, 3) := by decide +kernel
theorem dX0_settleCheck_110 : decode cX0_settleCheck 110 = .ok (.iload 4, 2) := by decide +kernel
theorem dX0_settleCheck_112 : decode cX0_settleCheck 112 = .ok (.ifCond .eq 7, 3) := by decide +kernel
theorem dX0_settleCheck_115 : decode cX0_settleCheck 115 = .ok (.iconst 1, 1) := by decide +kernel
theorem dX0_settleCheck_116 : decode cX0_settleCheck 116 = .ok (.goto 4, 3) := by decide +kernel
theorem dX0_settleCheck_119 : decode cX0_settleCheck 119 = .ok (.iconst 0, 1) := by decide +kernel
theorem dX0_settleCheck_120 : decode cX0_settleCheck 120 = .ok (.ireturn, 1) := by decide +kernel
theorem dX0_digAt_0 : decode cX0_digAt 0 = .ok (.iload_n 1, 1) := by decide +kernel
theorem dX0_digAt_1 : decode cX0_digAt 1 = .ok (.invokestatic 92, 3) := by decide +kernel
theorem dX0_digAt_4 : decode cX0_digAt 4 = .ok (.ifCond .ne 5, 3) := by decide +kernel
theorem dX0_digAt_7 : decode cX0_digAt 7 = .ok (.iconst (-1), 1) := by decide +kernel
theorem dX0_digAt_8 : decode cX0_digAt 8 = .ok (.ireturn, 1) := by decide +kernel
theorem dX0_digAt_9 : decode cX0_digAt 9 = .ok (.aload_n 0, 1) := by decide +kernel
theorem dX0_digAt_10 : decode cX0_digAt 10 = .ok (.aload_n 0, 1) := by decide +kernel
theorem dX0_digAt_11 : decode cX0_digAt 11 = .ok (.invokevirtual 103, 3) := by decide +kernel
theorem dX0_digAt_14 : decode cX0_digAt 14 = .ok (.invokevirtual 107, 3) := by decide +kernel
theorem dX0_digAt_17 : decode cX0_digAt 17 = .ok (.astore_n 2, 1) := by decide +kernel
theorem dX0_digAt_18 : decode cX0_digAt 18 = .ok (.aload_n 0, 1) := by decide +kernel
theorem dX0_digAt_19 : decode cX0_digAt 19 = .ok (.invokevirtual 99, 3) := by decide +kernel
theorem dX0_digAt_22 : decode cX0_digAt 22 = .ok (.ifCond .eq 15, 3) := by decide +kernel
theorem dX0_digAt_25 : decode cX0_digAt 25 = .ok (.aload_n 2, 1) := by decide +kernel
theorem dX0_digAt_26 : decode cX0_digAt 26 = .ok (.getfield 150, 3) := by decide +kernel
theorem dX0_digAt_29 : decode cX0_digAt 29 = .ok (.aload_n 0, 1) := by decide +kernel
theorem dX0_digAt_30 : decode cX0_digAt 30 = .ok (.iconst 2, 1) := by decide +kernel
theorem dX0_digAt_31 : decode cX0_digAt 31 = .ok (.invokevirtual 134, 3) := by decide +kernel
theorem dX0_digAt_34 : decode cX0_digAt 34 = .ok (.if_icmp .ge 6, 3) := by decide +kernel
theorem dX0_digAt_37 : decode cX0_digAt 37 = .ok (.bipush (-5), 2) := by decide +kernel
theorem dX0_digAt_39 : decode cX0_digAt 39 = .ok (.ireturn, 1) := by decide +kernel
theorem dX0_digAt_40 : decode cX0_digAt 40 = .ok (.aload_n 2, 1) := by decide +kernel
theorem dX0_digAt_41 : decode cX0_digAt 41 = .ok (.dup, 1) := by decide +kernel
theorem dX0_digAt_42 : decode cX0_digAt 42 = .ok (.getfield 150, 3) := by decide +kernel
theorem dX0_digAt_45 : decode cX0_digAt 45 = .ok (.aload_n 0, 1) := by decide +kernel
theorem dX0_digAt_46 : decode cX0_digAt 46 = .ok (.iconst 2, 1) := by decide +kernel
theorem dX0_digAt_47 : decode cX0_digAt 47 = .ok (.invokevirtual 134, 3) := by decide +kernel
theorem dX0_digAt_50 : decode cX0_digAt 50 = .ok (.isub, 1) := by decide +kernel
theorem dX0_digAt_51 : decode cX0_digAt 51 = .ok (.putfield 150, 3) := by decide +kernel
theorem dX0_digAt_54 : decode cX0_digAt 54 = .ok (.aload_n 2, 1) := by decide +kernel
theorem dX0_digAt_55 : decode cX0_digAt 55 = .ok (.dup, 1) := by decide +kernel
theorem dX0_digAt_56 : decode cX0_digAt 56 = .ok (.getfield 153, 3) := by decide +kernel
theorem dX0_digAt_59 : decode cX0_digAt 59 = .ok (.iconst 1, 1) := by decide +kernel
theorem dX0_digAt_60 : decode cX0_digAt 60 = .ok (.iadd, 1) := by decide +kernel
theorem dX0_digAt_61 : decode cX0_digAt 61 = .ok (.putfield 153, 3) := by decide +kernel
theorem dX0_digAt_64 : decode cX0_digAt 64 = .ok (.aload_n 0, 1) := by decide +kernel
theorem dX0_digAt_65 : decode cX0_digAt 65 = .ok (.getfield 47, 3) := by decide +kernel
theorem dX0_digAt_68 : decode cX0_digAt 68 = .ok (.iload_n 1, 1) := by decide +kernel
theorem dX0_digAt_69 : decode cX0_digAt 69 = .ok (.aload_n 0, 1) := by decide +kernel
theorem dX0_digAt_70 : decode cX0_digAt 70 = .ok (.getfield 50, 3) := by decide +kernel
theorem dX0_digAt_73 : decode cX0_digAt 73 = .ok (.invokestatic 156, 3) := by decide +kernel
theorem dX0_digAt_76 : decode cX0_digAt 76 = .ok (.istore_n 3, 1) := by decide +kernel
theorem dX0_digAt_77 : decode cX0_digAt 77 = .ok (.aload_n 0, 1) := by decide +kernel
theorem dX0_digAt_78 : decode cX0_digAt 78 = .ok (.iload_n 1, 1) := by decide +kernel
theorem dX0_digAt_79 : decode cX0_digAt 79 = .ok (.iload_n 3, 1) := by decide +kernel
theorem dX0_digAt_80 : decode cX0_digAt 80 = .ok (.invokevirtual 160, 3) := by decide +kernel
theorem dX0_digAt_83 : decode cX0_digAt 83 = .ok (.iload_n 3, 1) := by decide +kernel
theorem dX0_digAt_84 : decode cX0_digAt 84 = .ok (.ifCond .ne 20, 3) := by decide +kernel
theorem dX0_digAt_87 : decode cX0_digAt 87 = .ok (.aload_n 0, 1) := by decide +kernel
theorem dX0_digAt_88 : decode cX0_digAt 88 = .ok (.aload_n 0, 1) := by decide +kernel
theorem dX0_digAt_89 : decode cX0_digAt 89 = .ok (.invokevirtual 103, 3) := by decide +kernel
theorem dX0_digAt_92 : decode cX0_digAt 92 = .ok (.putfield 15, 3) := by decide +kernel
theorem dX0_digAt_95 : decode cX0_digAt 95 = .ok (.aload_n 2, 1) := by decide +kernel
theorem dX0_digAt_96 : decode cX0_digAt 96 = .ok (.aload_n 0, 1) := by decide +kernel
theorem dX0_digAt_97 : decode cX0_digAt 97 = .ok (.iconst 3, 1) := by decide +kernel
theorem dX0_digAt_98 : decode cX0_digAt 98 = .ok (.invokevirtual 134, 3) := by decide +kernel
theorem dX0_digAt_101 : decode cX0_digAt 101 = .ok (.invokevirtual 164, 3) := by decide +kernel
theorem dX0_digAt_104 : decode cX0_digAt 104 = .ok (.aload_n 0, 1) := by decide +kernel
theorem dX0_digAt_105 : decode cX0_digAt 105 = .ok (.dup, 1) := by decide +kernel
theorem dX0_digAt_106 : decode cX0_digAt 106 = .ok (.getfield 63, 3) := by decide +kernel
theorem dX0_digAt_109 : decode cX0_digAt 109 = .ok (.iconst 1, 1) := by decide +kernel
theorem dX0_digAt_110 : decode cX0_digAt 110 = .ok (.iadd, 1) := by decide +kernel
theorem dX0_digAt_111 : decode cX0_digAt 111 = .ok (.putfield 63, 3) := by decide +kernel
theorem dX0_digAt_114 : decode cX0_digAt 114 = .ok (.iload_n 3, 1) := by decide +kernel
theorem dX0_digAt_115 : decode cX0_digAt 115 = .ok (.ireturn, 1) := by decide +kernel
theorem dX0_noteDigging_0 : decode cX0_noteDigging 0 = .ok (.iload_n 1, 1) := by decide +kernel
theorem dX0_noteDigging_1 : decode cX0_noteDigging 1 = .ok (.ifCond .lt 19, 3) := by decide +kernel
theorem dX0_noteDigging_4 : decode cX0_noteDigging 4 = .ok (.iload_n 1, 1) := by decide +kernel
theorem dX0_noteDigging_5 : decode cX0_noteDigging 5 = .ok (.aload_n 0, 1) := by decide +kernel
theorem dX0_noteDigging_6 : decode cX0_noteDigging 6 = .ok (.getfield 34, 3) := by decide +kernel
theorem dX0_noteDigging_9 : decode cX0_noteDigging 9 = .ok (.arraylength, 1) := by decide +kernel
theorem dX0_noteDigging_10 : decode cX0_noteDigging 10 = .ok (.if_icmp .ge 10, 3) := by decide +kernel
theorem dX0_noteDigging_13 : decode cX0_noteDigging 13 = .ok (.aload_n 0, 1) := by decide +kernel
theorem dX0_noteDigging_14 : decode cX0_noteDigging 14 = .ok (.getfield 34, 3) := by decide +kernel
theorem dX0_noteDigging_17 : decode cX0_noteDigging 17 = .ok (.iload_n 1, 1) := by decide +kernel
theorem dX0_noteDigging_18 : decode cX0_noteDigging 18 = .ok (.iload_n 2, 1) := by decide +kernel
theorem dX0_noteDigging_19 : decode cX0_noteDigging 19 = .ok (.iastore, 1) := by decide +kernel
theorem dX0_noteDigging_20 : decode cX0_noteDigging 20 = .ok (.aload_n 0, 1) := by decide +kernel
theorem dX0_noteDigging_21 : decode cX0_noteDigging 21 = .ok (.getfield 70, 3) := by decide +kernel
theorem dX0_noteDigging_24 : decode cX0_noteDigging 24 = .ok (.ifCond .lt 35, 3) := by decide +kernel
theorem dX0_noteDigging_27 : decode cX0_noteDigging 27 = .ok (.aload_n 0, 1) := by decide +kernel
theorem dX0_noteDigging_28 : decode cX0_noteDigging 28 = .ok (.getfield 70, 3) := by decide +kernel
theorem dX0_noteDigging_31 : decode cX0_noteDigging 31 = .ok (.aload_n 0, 1) := by decide +kernel
theorem dX0_noteDigging_32 : decode cX0_noteDigging 32 = .ok (.getfield 37, 3) := by decide +kernel
theorem dX0_noteDigging_35 : decode cX0_noteDigging 35 = .ok (.arraylength, 1) := by decide +kernel
theorem dX0_noteDigging_36 : decode cX0_noteDigging 36 = .ok (.if_icmp .ge 23, 3) := by decide +kernel
theorem dX0_noteDigging_39 : decode cX0_noteDigging 39 = .ok (.aload_n 0, 1) := by decide +kernel
theorem dX0_noteDigging_40 : decode cX0_noteDigging 40 = .ok (.getfield 37, 3) := by decide +kernel
theorem dX0_noteDigging_43 : decode cX0_noteDigging 43 = .ok (.aload_n 0, 1) := by decide +kernel
theorem dX0_noteDigging_44 : decode cX0_noteDigging 44 = .ok (.getfield 70, 3) := by decide +kernel
theorem dX0_noteDigging_47 : decode cX0_noteDigging 47 = .ok (.iload_n 1, 1) := by decide +kernel
theorem dX0_noteDigging_48 : decode cX0_noteDigging 48 = .ok (.iastore, 1) := by decide +kernel
theorem dX0_noteDigging_49 : decode cX0_noteDigging 49 = .ok (.aload_n 0, 1) := by decide +kernel
theorem dX0_noteDigging_50 : decode cX0_noteDigging 50 = .ok (.dup, 1) := by decide +kernel
theorem dX0_noteDigging_51 : decode cX0_noteDigging 51 = .ok (.getfield 70, 3) := by decide +kernel
theorem dX0_noteDigging_54 : decode cX0_noteDigging 54 = .ok (.iconst 1, 1) := by decide +kernel
theorem dX0_noteDigging_55 : decode cX0_noteDigging 55 = .ok (.iadd, 1) := by decide +kernel
theorem dX0_noteDigging_56 : decode cX0_noteDigging 56 = .ok (.putfield 70, 3) := by decide +kernel
theorem dX0_noteDigging_59 : decode cX0_noteDigging 59 = .ok (.return_, 1) := by decide +kernel
theorem dX0_passTurn_0 : decode cX0_passTurn 0 = .ok (.aload_n 0, 1) := by decide +kernel
theorem dX0_passTurn_1 : decode cX0_passTurn 1 = .ok (.invokevirtual 99, 3) := by decide +kernel
theorem dX0_passTurn_4 : decode cX0_passTurn 4 = .ok (.ifCond .ne 6, 3) := by decide +kernel
theorem dX0_passTurn_7 : decode cX0_passTurn 7 = .ok (.bipush (-5), 2) := by decide +kernel
theorem dX0_passTurn_9 : decode cX0_passTurn 9 = .ok (.ireturn, 1) := by decide +kernel
theorem dX0_passTurn_10 : decode cX0_passTurn 10 = .ok (.aload_n 0, 1) := by decide +kernel
theorem dX0_passTurn_11 : decode cX0_passTurn 11 = .ok (.dup, 1) := by decide +kernel
theorem dX0_passTurn_12 : decode cX0_passTurn 12 = .ok (.getfield 63, 3) := by decide +kernel
theorem dX0_passTurn_15 : decode cX0_passTurn 15 = .ok (.iconst 1, 1) := by decide +kernel
theorem dX0_passTurn_16 : decode cX0_passTurn 16 = .ok (.iadd, 1) := by decide +kernel
theorem dX0_passTurn_17 : decode cX0_passTurn 17 = .ok (.putfield 63, 3) := by decide +kernel
theorem dX0_passTurn_20 : decode cX0_passTurn 20 = .ok (.aload_n 0, 1) := by decide +kernel
theorem dX0_passTurn_21 : decode cX0_passTurn 21 = .ok (.invokevirtual 103, 3) := by decide +kernel
theorem dX0_passTurn_24 : decode cX0_passTurn 24 = .ok (.ireturn, 1) := by decide +kernel
theorem dX0_next_0 : decode cX0_next 0 = .ok (.aload_n 0, 1) := by decide +kernel
theorem dX0_next_1 : decode cX0_next 1 = .ok (.getfield 63, 3) := by decide +kernel
theorem dX0_next_4 : decode cX0_next 4 = .ok (.iconst 3, 1) := by decide +kernel
theorem dX0_next_5 : decode cX0_next 5 = .ok (.irem, 1) := by decide +kernel
theorem dX0_next_6 : decode cX0_next 6 = .ok (.ireturn, 1) := by decide +kernel
theorem dX0_goesOn_0 : decode cX0_goesOn 0 = .ok (.aload_n 0, 1) := by decide +kernel
theorem dX0_goesOn_1 : decode cX0_goesOn 1 = .ok (.invokevirtual 168, 3) := by decide +kernel
theorem dX0_goesOn_4 : decode cX0_goesOn 4 = .ok (.iconst 1, 1) := by decide +kernel
theorem dX0_goesOn_5 : decode cX0_goesOn 5 = .ok (.if_icmp .ne 7, 3) := by decide +kernel
theorem dX0_goesOn_8 : decode cX0_goesOn 8 = .ok (.iconst 1, 1) := by decide +kernel
theorem dX0_goesOn_9 : decode cX0_goesOn 9 = .ok (.goto 4, 3) := by decide +kernel
theorem dX0_goesOn_12 : decode cX0_goesOn 12 = .ok (.iconst 0, 1) := by decide +kernel
theorem dX0_goesOn_13 : decode cX0_goesOn 13 = .ok (.ireturn, 1) := by decide +kernel
theorem dX0_stage_0 : decode cX0_stage 0 = .ok (.aload_n 0, 1) := by decide +kernel
theorem dX0_stage_1 : decode cX0_stage 1 = .ok (.getfield 53, 3) := by decide +kernel
theorem dX0_stage_4 : decode cX0_stage 4 = .ok (.ifCond .ne 5, 3) := by decide +kernel
theorem dX0_stage_7 : decode cX0_stage 7 = .ok (.iconst 0, 1) := by decide +kernel
theorem dX0_stage_8 : decode cX0_stage 8 = .ok (.ireturn, 1) := by decide +kernel
theorem dX0_stage_9 : decode cX0_stage 9 = .ok (.aload_n 0, 1) := by decide +kernel
theorem dX0_stage_10 : decode cX0_stage 10 = .ok (.getfield 15, 3) := by decide +kernel
theorem dX0_stage_13 : decode cX0_stage 13 = .ok (.bipush (-6), 2) := by decide +kernel
theorem dX0_stage_15 : decode cX0_stage 15 = .ok (.if_icmp .ne 17, 3) := by decide +kernel
theorem dX0_stage_18 : decode cX0_stage 18 = .ok (.aload_n 0, 1) := by decide +kernel
theorem dX0_stage_19 : decode cX0_stage 19 = .ok (.getfield 63, 3) := by decide +kernel
theorem dX0_stage_22 : decode cX0_stage 22 = .ok (.sipush 150, 3) := by decide +kernel
theorem dX0_stage_25 : decode cX0_stage 25 = .ok (.if_icmp .ge 7, 3) := by decide +kernel
theorem dX0_stage_28 : decode cX0_stage 28 = .ok (.iconst 1, 1) := by decide +kernel
theorem dX0_stage_29 : decode cX0_stage 29 = .ok (.goto 4, 3) := by decide +kernel
theorem dX0_stage_32 : decode cX0_stage 32 = .ok (.iconst 2, 1) := by decide +kernel
theorem dX0_stage_33 : decode cX0_stage 33 = .ok (.ireturn, 1) := by decide +kernel
theorem dX0_seat_0 : decode cX0_seat 0 = .ok (.iload_n 1, 1) := by decide +kernel
theorem dX0_seat_1 : decode cX0_seat 1 = .ok (.ifCond .ne 8, 3) := by decide +kernel
theorem dX0_seat_4 : decode cX0_seat 4 = .ok (.aload_n 0, 1) := by decide +kernel
theorem dX0_seat_5 : decode cX0_seat 5 = .ok (.getfield 22, 3) := by decide +kernel
theorem dX0_seat_8 : decode cX0_seat 8 = .ok (.areturn, 1) := by decide +kernel
theorem dX0_seat_9 : decode cX0_seat 9 = .ok (.iload_n 1, 1) := by decide +kernel
theorem dX0_seat_10 : decode cX0_seat 10 = .ok (.iconst 1, 1) := by decide +kernel
theorem dX0_seat_11 : decode cX0_seat 11 = .ok (.if_icmp .ne 10, 3) := by decide +kernel
theorem dX0_seat_14 : decode cX0_seat 14 = .ok (.aload_n 0, 1) := by decide +kernel
theorem dX0_seat_15 : decode cX0_seat 15 = .ok (.getfield 26, 3) := by decide +kernel
theorem dX0_seat_18 : decode cX0_seat 18 = .ok (.goto 7, 3) := by decide +kernel
theorem dX0_seat_21 : decode cX0_seat 21 = .ok (.aload_n 0, 1) := by decide +kernel
theorem dX0_seat_22 : decode cX0_seat 22 = .ok (.getfield 29, 3) := by decide +kernel
theorem dX0_seat_25 : decode cX0_seat 25 = .ok (.areturn, 1) := by decide +kernel
theorem dX0_setting_0 : decode cX0_setting 0 = .ok (.iload_n 1, 1) := by decide +kernel
theorem dX0_setting_1 : decode cX0_setting 1 = .ok (.ifCond .lt 21, 3) := by decide +kernel
theorem dX0_setting_4 : decode cX0_setting 4 = .ok (.iload_n 1, 1) := by decide +kernel
theorem dX0_setting_5 : decode cX0_setting 5 = .ok (.aload_n 0, 1) := by decide +kernel
theorem dX0_setting_6 : decode cX0_setting 6 = .ok (.getfield 9, 3) := by decide +kernel
theorem dX0_setting_9 : decode cX0_setting 9 = .ok (.arraylength, 1) := by decide +kernel
theorem dX0_setting_10 : decode cX0_setting 10 = .ok (.if_icmp .ge 12, 3) := by decide +kernel
theorem dX0_setting_13 : decode cX0_setting 13 = .ok (.aload_n 0, 1) := by decide +kernel
theorem dX0_setting_14 : decode cX0_setting 14 = .ok (.getfield 9, 3) := by decide +kernel
theorem dX0_setting_17 : decode cX0_setting 17 = .ok (.iload_n 1, 1) := by decide +kernel
theorem dX0_setting_18 : decode cX0_setting 18 = .ok (.iaload, 1) := by decide +kernel
theorem dX0_setting_19 : decode cX0_setting 19 = .ok (.goto 4, 3) := by decide +kernel
theorem dX0_setting_22 : decode cX0_setting 22 = .ok (.iconst 0, 1) := by decide +kernel
theorem dX0_setting_23 : decode cX0_setting 23 = .ok (.ireturn, 1) := by decide +kernel
theorem dX0_toldOf_0 : decode cX0_toldOf 0 = .ok (.iload_n 1, 1) := by decide +kernel
theorem dX0_toldOf_1 : decode cX0_toldOf 1 = .ok (.ifCond .lt 21, 3) := by decide +kernel
theorem dX0_toldOf_4 : decode cX0_toldOf 4 = .ok (.iload_n 1, 1) := by decide +kernel
theorem dX0_toldOf_5 : decode cX0_toldOf 5 = .ok (.aload_n 0, 1) := by decide +kernel
theorem dX0_toldOf_6 : decode cX0_toldOf 6 = .ok (.getfield 34, 3) := by decide +kernel
theorem dX0_toldOf_9 : decode cX0_toldOf 9 = .ok (.arraylength, 1) := by decide +kernel
theorem dX0_toldOf_10 : decode cX0_toldOf 10 = .ok (.if_icmp .ge 12, 3) := by decide +kernel
theorem dX0_toldOf_13 : decode cX0_toldOf 13 = .ok (.aload_n 0, 1) := by decide +kernel
theorem dX0_toldOf_14 : decode cX0_toldOf 14 = .ok (.getfield 34, 3) := by decide +kernel
theorem dX0_toldOf_17 : decode cX0_toldOf 17 = .ok (.iload_n 1, 1) := by decide +kernel
theorem dX0_toldOf_18 : decode cX0_toldOf 18 = .ok (.iaload, 1) := by decide +kernel
theorem dX0_toldOf_19 : decode cX0_toldOf 19 = .ok (.goto 5, 3) := by decide +kernel
theorem dX0_toldOf_22 : decode cX0_toldOf 22 = .ok (.bipush (-6), 2) := by decide +kernel
theorem dX0_toldOf_24 : decode cX0_toldOf 24 = .ok (.ireturn, 1) := by decide +kernel
theorem dX0_dugAs_0 : decode cX0_dugAs 0 = .ok (.iload_n 1, 1) := by decide +kernel
theorem dX0_dugAs_1 : decode cX0_dugAs 1 = .ok (.ifCond .lt 29, 3) := by decide +kernel
theorem dX0_dugAs_4 : decode cX0_dugAs 4 = .ok (.iload_n 1, 1) := by decide +kernel
theorem dX0_dugAs_5 : decode cX0_dugAs 5 = .ok (.aload_n 0, 1) := by decide +kernel
theorem dX0_dugAs_6 : decode cX0_dugAs 6 = .ok (.getfield 70, 3) := by decide +kernel
theorem dX0_dugAs_9 : decode cX0_dugAs 9 = .ok (.if_icmp .ge 21, 3) := by decide +kernel
theorem dX0_dugAs_12 : decode cX0_dugAs 12 = .ok (.iload_n 1, 1) := by decide +kernel
theorem dX0_dugAs_13 : decode cX0_dugAs 13 = .ok (.aload_n 0, 1) := by decide +kernel
theorem dX0_dugAs_14 : decode cX0_dugAs 14 = .ok (.getfield 37, 3) := by decide +kernel
theorem dX0_dugAs_17 : decode cX0_dugAs 17 = .ok (.arraylength, 1) := by decide +kernel
theorem dX0_dugAs_18 : decode cX0_dugAs 18 = .ok (.if_icmp .ge 12, 3) := by decide +kernel
theorem dX0_dugAs_21 : decode cX0_dugAs 21 = .ok (.aload_n 0, 1) := by decide +kernel
theorem dX0_dugAs_22 : decode cX0_dugAs 22 = .ok (.getfield 37, 3) := by decide +kernel
theorem dX0_dugAs_25 : decode cX0_dugAs 25 = .ok (.iload_n 1, 1) := by decide +kernel
theorem dX0_dugAs_26 : decode cX0_dugAs 26 = .ok (.iaload, 1) := by decide +kernel
theorem dX0_dugAs_27 : decode cX0_dugAs 27 = .ok (.goto 4, 3) := by decide +kernel
theorem dX0_dugAs_30 : decode cX0_dugAs 30 = .ok (.iconst (-1), 1) := by decide +kernel
theorem dX0_dugAs_31 : decode cX0_dugAs 31 = .ok (.ireturn, 1) := by decide +kernel
theorem dX0_seenOf_0 : decode cX0_seenOf 0 = .ok (.iload_n 1, 1) := by decide +kernel
theorem dX0_seenOf_1 : decode cX0_seenOf 1 = .ok (.iload_n 2, 1) := by decide +kernel
theorem dX0_seenOf_2 : decode cX0_seenOf 2 = .ok (.iand, 1) := by decide +kernel
theorem dX0_seenOf_3 : decode cX0_seenOf 3 = .ok (.ifCond .eq 14, 3) := by decide +kernel
theorem dX0_seenOf_6 : decode cX0_seenOf 6 = .ok (.iload_n 1, 1) := by decide +kernel
theorem dX0_seenOf_7 : decode cX0_seenOf 7 = .ok (.aload_n 0, 1) := by decide +kernel
theorem dX0_seenOf_8 : decode cX0_seenOf 8 = .ok (.getfield 47, 3) := by decide +kernel
theorem dX0_seenOf_11 : decode cX0_seenOf 11 = .ok (.invokestatic 171, 3) := by decide +kernel
theorem dX0_seenOf_14 : decode cX0_seenOf 14 = .ok (.goto 5, 3) := by decide +kernel
theorem dX0_seenOf_17 : decode cX0_seenOf 17 = .ok (.bipush (-6), 2) := by decide +kernel
theorem dX0_seenOf_19 : decode cX0_seenOf 19 = .ok (.ireturn, 1) := by decide +kernel
theorem dX0_knownTo_0 : decode cX0_knownTo 0 = .ok (.aload_n 0, 1) := by decide +kernel
theorem dX0_knownTo_1 : decode cX0_knownTo 1 = .ok (.getfield 60, 3) := by decide +kernel
theorem dX0_knownTo_4 : decode cX0_knownTo 4 = .ok (.iload_n 1, 1) := by decide +kernel
theorem dX0_knownTo_5 : decode cX0_knownTo 5 = .ok (.invokestatic 174, 3) := by decide +kernel
theorem dX0_knownTo_8 : decode cX0_knownTo 8 = .ok (.ior, 1) := by decide +kernel
theorem dX0_knownTo_9 : decode cX0_knownTo 9 = .ok (.ireturn, 1) := by decide +kernel
theorem dX0_claimants_0 : decode cX0_claimants 0 = .ok (.iload_n 1, 1) := by decide +kernel
theorem dX0_claimants_1 : decode cX0_claimants 1 = .ok (.aload_n 0, 1) := by decide +kernel
theorem dX0_claimants_2 : decode cX0_claimants 2 = .ok (.getfield 22, 3) := by decide +kernel
theorem dX0_claimants_5 : decode cX0_claimants 5 = .ok (.iload_n 2, 1) := by decide +kernel
theorem dX0_claimants_6 : decode cX0_claimants 6 = .ok (.invokevirtual 177, 3) := by decide +kernel
theorem dX0_claimants_9 : decode cX0_claimants 9 = .ok (.invokestatic 171, 3) := by decide +kernel
theorem dX0_claimants_12 : decode cX0_claimants 12 = .ok (.iload_n 1, 1) := by decide +kernel
theorem dX0_claimants_13 : decode cX0_claimants 13 = .ok (.aload_n 0, 1) := by decide +kernel
theorem dX0_claimants_14 : decode cX0_claimants 14 = .ok (.getfield 26, 3) := by decide +kernel
theorem dX0_claimants_17 : decode cX0_claimants 17 = .ok (.iload_n 2, 1) := by decide +kernel
theorem dX0_claimants_18 : decode cX0_claimants 18 = .ok (.invokevirtual 177, 3) := by decide +kernel
theorem dX0_claimants_21 : decode cX0_claimants 21 = .ok (.invokestatic 171, 3) := by decide +kernel
theorem dX0_claimants_24 : decode cX0_claimants 24 = .ok (.iconst 1, 1) := by decide +kernel
theorem dX0_claimants_25 : decode cX0_claimants 25 = .ok (.ishl, 1) := by decide +kernel
theorem dX0_claimants_26 : decode cX0_claimants 26 = .ok (.ior, 1) := by decide +kernel
theorem dX0_claimants_27 : decode cX0_claimants 27 = .ok (.iload_n 1, 1) := by decide +kernel
theorem dX0_claimants_28 : decode cX0_claimants 28 = .ok (.aload_n 0, 1) := by decide +kernel
theorem dX0_claimants_29 : decode cX0_claimants 29 = .ok (.getfield 29, 3) := by decide +kernel
theorem dX0_claimants_32 : decode cX0_claimants 32 = .ok (.iload_n 2, 1) := by decide +kernel
theorem dX0_claimants_33 : decode cX0_claimants 33 = .ok (.invokevirtual 177, 3) := by decide +kernel
theorem dX0_claimants_36 : decode cX0_claimants 36 = .ok (.invokestatic 171, 3) := by decide +kernel
theorem dX0_claimants_39 : decode cX0_claimants 39 = .ok (.iconst 2, 1) := by decide +kernel
theorem dX0_claimants_40 : decode cX0_claimants 40 = .ok (.ishl, 1) := by decide +kernel
theorem dX0_claimants_41 : decode cX0_claimants 41 = .ok (.ior, 1) := by decide +kernel
theorem dX0_claimants_42 : decode cX0_claimants 42 = .ok (.ireturn, 1) := by decide +kernel
theorem dX0_shownLies_0 : decode cX0_shownLies 0 = .ok (.aload_n 0, 1) := by decide +kernel
theorem dX0_shownLies_1 : decode cX0_shownLies 1 = .ok (.getfield 22, 3) := by decide +kernel
theorem dX0_shownLies_4 : decode cX0_shownLies 4 = .ok (.aload_n 0, 1) := by decide +kernel
theorem dX0_shownLies_5 : decode cX0_shownLies 5 = .ok (.getfield 47, 3) := by decide +kernel
theorem dX0_shownLies_8 : decode cX0_shownLies 8 = .ok (.aload_n 0, 1) := by decide +kernel
theorem dX0_shownLies_9 : decode cX0_shownLies 9 = .ok (.getfield 60, 3) := by decide +kernel
theorem dX0_shownLies_12 : decode cX0_shownLies 12 = .ok (.invokevirtual 181, 3) := by decide +kernel
theorem dX0_shownLies_15 : decode cX0_shownLies 15 = .ok (.aload_n 0, 1) := by decide +kernel
theorem dX0_shownLies_16 : decode cX0_shownLies 16 = .ok (.getfield 26, 3) := by decide +kernel
theorem dX0_shownLies_19 : decode cX0_shownLies 19 = .ok (.aload_n 0, 1) := by decide +kernel
theorem dX0_shownLies_20 : decode cX0_shownLies 20 = .ok (.getfield 47, 3) := by decide +kernel
theorem dX0_shownLies_23 : decode cX0_shownLies 23 = .ok (.aload_n 0, 1) := by decide +kernel
theorem dX0_shownLies_24 : decode cX0_shownLies 24 = .ok (.getfield 60, 3) := by decide +kernel
theorem dX0_shownLies_27 : decode cX0_shownLies 27 = .ok (.invokevirtual 181, 3) := by decide +kernel
theorem dX0_shownLies_30 : decode cX0_shownLies 30 = .ok (.iadd, 1) := by decide +kernel
theorem dX0_shownLies_31 : decode cX0_shownLies 31 = .ok (.aload_n 0, 1) := by decide +kernel
theorem dX0_shownLies_32 : decode cX0_shownLies 32 = .ok (.getfield 29, 3) := by decide +kernel
theorem dX0_shownLies_35 : decode cX0_shownLies 35 = .ok (.aload_n 0, 1) := by decide +kernel
theorem dX0_shownLies_36 : decode cX0_shownLies 36 = .ok (.getfield 47, 3) := by decide +kernel
theorem dX0_shownLies_39 : decode cX0_shownLies 39 = .ok (.aload_n 0, 1) := by decide +kernel
theorem dX0_shownLies_40 : decode cX0_shownLies 40 = .ok (.getfield 60, 3) := by decide +kernel
theorem dX0_shownLies_43 : decode cX0_shownLies 43 = .ok (.invokevirtual 181, 3) := by decide +kernel
theorem dX0_shownLies_46 : decode cX0_shownLies 46 = .ok (.iadd, 1) := by decide +kernel
theorem dX0_shownLies_47 : decode cX0_shownLies 47 = .ok (.ireturn, 1) := by decide +kernel
theorem dX0_moreKnownBy_0 : decode cX0_moreKnownBy 0 = .ok (.aload_n 0, 1) := by decide +kernel
theorem dX0_moreKnownBy_1 : decode cX0_moreKnownBy 1 = .ok (.getfield 47, 3) := by decide +kernel
theorem dX0_moreKnownBy_4 : decode cX0_moreKnownBy 4 = .ok (.aload_n 0, 1) := by decide +kernel
theorem dX0_moreKnownBy_5 : decode cX0_moreKnownBy 5 = .ok (.getfield 60, 3) := by decide +kernel
theorem dX0_moreKnownBy_8 : decode cX0_moreKnownBy 8 = .ok (.iload_n 1, 1) := by decide +kernel
theorem dX0_moreKnownBy_9 : decode cX0_moreKnownBy 9 = .ok (.ior, 1) := by decide +kernel
theorem dX0_moreKnownBy_10 : decode cX0_moreKnownBy 10 = .ok (.invokestatic 96, 3) := by decide +kernel
theorem dX0_moreKnownBy_13 : decode cX0_moreKnownBy 13 = .ok (.invokestatic 86, 3) := by decide +kernel
theorem dX0_moreKnownBy_16 : decode cX0_moreKnownBy 16 = .ok (.aload_n 0, 1) := by decide +kernel
theorem dX0_moreKnownBy_17 : decode cX0_moreKnownBy 17 = .ok (.getfield 60, 3) := by decide +kernel
theorem dX0_moreKnownBy_20 : decode cX0_moreKnownBy 20 = .ok (.invokestatic 86, 3) := by decide +kernel
theorem dX0_moreKnownBy_23 : decode cX0_moreKnownBy 23 = .ok (.isub, 1) := by decide +kernel
theorem dX0_moreKnownBy_24 : decode cX0_moreKnownBy 24 = .ok (.ireturn, 1) := by decide +kernel
theorem dX0_fitsWhatWasTold_0 : decode cX0_fitsWhatWasTold 0 = .ok (.iconst 0, 1) := by decide +kernel
theorem dX0_fitsWhatWasTold_1 : decode cX0_fitsWhatWasTold 1 = .ok (.istore_n 2, 1) := by decide +kernel
theorem dX0_fitsWhatWasTold_2 : decode cX0_fitsWhatWasTold 2 = .ok (.iload_n 2, 1) := by decide +kernel
theorem dX0_fitsWhatWasTold_3 : decode cX0_fitsWhatWasTold 3 = .ok (.aload_n 0, 1) := by decide +kernel
theorem dX0_fitsWhatWasTold_4 : decode cX0_fitsWhatWasTold 4 = .ok (.getfield 34, 3) := by decide +kernel
theorem dX0_fitsWhatWasTold_7 : decode cX0_fitsWhatWasTold 7 = .ok (.arraylength, 1) := by decide +kernel
theorem dX0_fitsWhatWasTold_8 : decode cX0_fitsWhatWasTold 8 = .ok (.if_icmp .ge 40, 3) := by decide +kernel
theorem dX0_fitsWhatWasTold_11 : decode cX0_fitsWhatWasTold 11 = .ok (.aload_n 0, 1) := by decide +kernel
theorem dX0_fitsWhatWasTold_12 : decode cX0_fitsWhatWasTold 12 = .ok (.getfield 34, 3) := by decide +kernel
theorem dX0_fitsWhatWasTold_15 : decode cX0_fitsWhatWasTold 15 = .ok (.iload_n 2, 1) := by decide +kernel
theorem dX0_fitsWhatWasTold_16 : decode cX0_fitsWhatWasTold 16 = .ok (.iaload, 1) := by decide +kernel
theorem dX0_fitsWhatWasTold_17 : decode cX0_fitsWhatWasTold 17 = .ok (.bipush (-6), 2) := by decide +kernel
theorem dX0_fitsWhatWasTold_19 : decode cX0_fitsWhatWasTold 19 = .ok (.if_icmp .eq 23, 3) := by decide +kernel
theorem dX0_fitsWhatWasTold_22 : decode cX0_fitsWhatWasTold 22 = .ok (.aload_n 0, 1) := by decide +kernel
theorem dX0_fitsWhatWasTold_23 : decode cX0_fitsWhatWasTold 23 = .ok (.getfield 34, 3) := by decide +kernel
theorem dX0_fitsWhatWasTold_26 : decode cX0_fitsWhatWasTold 26 = .ok (.iload_n 2, 1) := by decide +kernel
theorem dX0_fitsWhatWasTold_27 : decode cX0_fitsWhatWasTold 27 = .ok (.iaload, 1) := by decide +kernel
theorem dX0_fitsWhatWasTold_28 : decode cX0_fitsWhatWasTold 28 = .ok (.aload_n 0, 1) := by decide +kernel
theorem dX0_fitsWhatWasTold_29 : decode cX0_fitsWhatWasTold 29 = .ok (.getfield 47, 3) := by decide +kernel
theorem dX0_fitsWhatWasTold_32 : decode cX0_fitsWhatWasTold 32 = .ok (.iload_n 1, 1) := by decide +kernel
theorem dX0_fitsWhatWasTold_33 : decode cX0_fitsWhatWasTold 33 = .ok (.iload_n 2, 1) := by decide +kernel
theorem dX0_fitsWhatWasTold_34 : decode cX0_fitsWhatWasTold 34 = .ok (.invokestatic 156, 3) := by decide +kernel
theorem dX0_fitsWhatWasTold_37 : decode cX0_fitsWhatWasTold 37 = .ok (.if_icmp .eq 5, 3) := by decide +kernel
theorem dX0_fitsWhatWasTold_40 : decode cX0_fitsWhatWasTold 40 = .ok (.iconst 0, 1) := by decide +kernel
theorem dX0_fitsWhatWasTold_41 : decode cX0_fitsWhatWasTold 41 = .ok (.ireturn, 1) := by decide +kernel
theorem dX0_fitsWhatWasTold_42 : decode cX0_fitsWhatWasTold 42 = .ok (.iinc 2 1, 3) := by decide +kernel
theorem dX0_fitsWhatWasTold_45 : decode cX0_fitsWhatWasTold 45 = .ok (.goto (-43), 3) := by decide +kernel
theorem dX0_fitsWhatWasTold_48 : decode cX0_fitsWhatWasTold 48 = .ok (.iconst 1, 1) := by decide +kernel
theorem dX0_fitsWhatWasTold_49 : decode cX0_fitsWhatWasTold 49 = .ok (.ireturn, 1) := by decide +kernel
theorem dX1_isPlace_0 : decode cX1_isPlace 0 = .ok (.iload_n 0, 1) := by decide +kernel
theorem dX1_isPlace_1 : decode cX1_isPlace 1 = .ok (.ifCond .lt 13, 3) := by decide +kernel
theorem dX1_isPlace_4 : decode cX1_isPlace 4 = .ok (.iload_n 0, 1) := by decide +kernel
theorem dX1_isPlace_5 : decode cX1_isPlace 5 = .ok (.bipush 8, 2) := by decide +kernel
theorem dX1_isPlace_7 : decode cX1_isPlace 7 = .ok (.if_icmp .ge 7, 3) := by decide +kernel
theorem dX1_isPlace_10 : decode cX1_isPlace 10 = .ok (.iconst 1, 1) := by decide +kernel
theorem dX1_isPlace_11 : decode cX1_isPlace 11 = .ok (.goto 4, 3) := by decide +kernel
theorem dX1_isPlace_14 : decode cX1_isPlace 14 = .ok (.iconst 0, 1) := by decide +kernel
theorem dX1_isPlace_15 : decode cX1_isPlace 15 = .ok (.ireturn, 1) := by decide +kernel
theorem dX1_wrongEnds_0 : decode cX1_wrongEnds 0 = .ok (.iload_n 0, 1) := by decide +kernel
theorem dX1_wrongEnds_1 : decode cX1_wrongEnds 1 = .ok (.invokestatic 11, 3) := by decide +kernel
theorem dX1_wrongEnds_4 : decode cX1_wrongEnds 4 = .ok (.ifCond .eq 10, 3) := by decide +kernel
theorem dX1_wrongEnds_7 : decode cX1_wrongEnds 7 = .ok (.iload_n 1, 1) := by decide +kernel
theorem dX1_wrongEnds_8 : decode cX1_wrongEnds 8 = .ok (.invokestatic 11, 3) := by decide +kernel
theorem dX1_wrongEnds_11 : decode cX1_wrongEnds 11 = .ok (.ifCond .ne 5, 3) := by decide +kernel
theorem dX1_wrongEnds_14 : decode cX1_wrongEnds 14 = .ok (.iconst (-1), 1) := by decide +kernel
theorem dX1_wrongEnds_15 : decode cX1_wrongEnds 15 = .ok (.ireturn, 1) := by decide +kernel
theorem dX1_wrongEnds_16 : decode cX1_wrongEnds 16 = .ok (.iload_n 0, 1) := by decide +kernel
theorem dX1_wrongEnds_17 : decode cX1_wrongEnds 17 = .ok (.iload_n 1, 1) := by decide +kernel
theorem dX1_wrongEnds_18 : decode cX1_wrongEnds 18 = .ok (.if_icmp .ne 8, 3) := by decide +kernel
theorem dX1_wrongEnds_21 : decode cX1_wrongEnds 21 = .ok (.bipush (-2), 2) := by decide +kernel
theorem dX1_wrongEnds_23 : decode cX1_wrongEnds 23 = .ok (.goto 4, 3) := by decide +kernel
theorem dX1_wrongEnds_26 : decode cX1_wrongEnds 26 = .ok (.iconst 0, 1) := by decide +kernel
theorem dX1_wrongEnds_27 : decode cX1_wrongEnds 27 = .ok (.ireturn, 1) := by decide +kernel
theorem dX1_numberOf_0 : decode cX1_numberOf 0 = .ok (.iload_n 0, 1) := by decide +kernel
theorem dX1_numberOf_1 : decode cX1_numberOf 1 = .ok (.iload_n 1, 1) := by decide +kernel
theorem dX1_numberOf_2 : decode cX1_numberOf 2 = .ok (.invokestatic 15, 3) := by decide +kernel
theorem dX1_numberOf_5 : decode cX1_numberOf 5 = .ok (.istore_n 2, 1) := by decide +kernel
theorem dX1_numberOf_6 : decode cX1_numberOf 6 = .ok (.iload_n 0, 1) := by decide +kernel
theorem dX1_numberOf_7 : decode cX1_numberOf 7 = .ok (.iload_n 1, 1) := by decide +kernel
theorem dX1_numberOf_8 : decode cX1_numberOf 8 = .ok (.invokestatic 21, 3) := by decide +kernel
theorem dX1_numberOf_11 : decode cX1_numberOf 11 = .ok (.istore_n 3, 1) := by decide +kernel
theorem dX1_numberOf_12 : decode cX1_numberOf 12 = .ok (.iload_n 2, 1) := by decide +kernel
theorem dX1_numberOf_13 : decode cX1_numberOf 13 = .ok (.bipush 15, 2) := by decide +kernel
theorem dX1_numberOf_15 : decode cX1_numberOf 15 = .ok (.iload_n 2, 1) := by decide +kernel
theorem dX1_numberOf_16 : decode cX1_numberOf 16 = .ok (.isub, 1) := by decide +kernel
theorem dX1_numberOf_17 : decode cX1_numberOf 17 = .ok (.imul, 1) := by decide +kernel
theorem dX1_numberOf_18 : decode cX1_numberOf 18 = .ok (.iconst 2, 1) := by decide +kernel
theorem dX1_numberOf_19 : decode cX1_numberOf 19 = .ok (.idiv, 1) := by decide +kernel
theorem dX1_numberOf_20 : decode cX1_numberOf 20 = .ok (.iload_n 3, 1) := by decide +kernel
theorem dX1_numberOf_21 : decode cX1_numberOf 21 = .ok (.iadd, 1) := by decide +kernel
theorem dX1_numberOf_22 : decode cX1_numberOf 22 = .ok (.iload_n 2, 1) := by decide +kernel
theorem dX1_numberOf_23 : decode cX1_numberOf 23 = .ok (.isub, 1) := by decide +kernel
theorem dX1_numberOf_24 : decode cX1_numberOf 24 = .ok (.iconst 1, 1) := by decide +kernel
theorem dX1_numberOf_25 : decode cX1_numberOf 25 = .ok (.isub, 1) := by decide +kernel
theorem dX1_numberOf_26 : decode cX1_numberOf 26 = .ok (.ireturn, 1) := by decide +kernel
theorem dX1_roadBetween_0 : decode cX1_roadBetween 0 = .ok (.iconst 1, 1) := by decide +kernel
theorem dX1_roadBetween_1 : decode cX1_roadBetween 1 = .ok (.iload_n 0, 1) := by decide +kernel
theorem dX1_roadBetween_2 : decode cX1_roadBetween 2 = .ok (.iload_n 1, 1) := by decide +kernel
theorem dX1_roadBetween_3 : decode cX1_roadBetween 3 = .ok (.invokestatic 24, 3) := by decide +kernel
theorem dX1_roadBetween_6 : decode cX1_roadBetween 6 = .ok (.ishl, 1) := by decide +kernel
theorem dX1_roadBetween_7 : decode cX1_roadBetween 7 = .ok (.ireturn, 1) := by decide +kernel
theorem dX1_roadsAt_0 : decode cX1_roadsAt 0 = .ok (.iload_n 0, 1) := by decide +kernel
theorem dX1_roadsAt_1 : decode cX1_roadsAt 1 = .ok (.ifCond .lt 19, 3) := by decide +kernel
theorem dX1_roadsAt_4 : decode cX1_roadsAt 4 = .ok (.iload_n 0, 1) := by decide +kernel
theorem dX1_roadsAt_5 : decode cX1_roadsAt 5 = .ok (.getstatic 27, 3) := by decide +kernel
theorem dX1_roadsAt_8 : decode cX1_roadsAt 8 = .ok (.arraylength, 1) := by decide +kernel
theorem dX1_roadsAt_9 : decode cX1_roadsAt 9 = .ok (.if_icmp .ge 11, 3) := by decide +kernel
theorem dX1_roadsAt_12 : decode cX1_roadsAt 12 = .ok (.getstatic 27, 3) := by decide +kernel
theorem dX1_roadsAt_15 : decode cX1_roadsAt 15 = .ok (.iload_n 0, 1) := by decide +kernel
theorem dX1_roadsAt_16 : decode cX1_roadsAt 16 = .ok (.iaload, 1) := by decide +kernel
theorem dX1_roadsAt_17 : decode cX1_roadsAt 17 = .ok (.goto 4, 3) := by decide +kernel
theorem dX1_roadsAt_20 : decode cX1_roadsAt 20 = .ok (.iconst 0, 1) := by decide +kernel
theorem dX1_roadsAt_21 : decode cX1_roadsAt 21 = .ok (.ireturn, 1) := by decide +kernel
theorem dX1_thirdOf_0 : decode cX1_thirdOf 0 = .ok (.ldc 31, 2) := by decide +kernel
theorem dX1_thirdOf_2 : decode cX1_thirdOf 2 = .ok (.iload_n 0, 1) := by decide +kernel
theorem dX1_thirdOf_3 : decode cX1_thirdOf 3 = .ok (.ishl, 1) := by decide +kernel
theorem dX1_thirdOf_4 : decode cX1_thirdOf 4 = .ok (.ldc 32, 2) := by decide +kernel
theorem dX1_thirdOf_6 : decode cX1_thirdOf 6 = .ok (.iand, 1) := by decide +kernel
theorem dX1_thirdOf_7 : decode cX1_thirdOf 7 = .ok (.ireturn, 1) := by decide +kernel
theorem dX1_placesBeside_0 : decode cX1_placesBeside 0 = .ok (.iload_n 0, 1) := by decide +kernel
theorem dX1_placesBeside_1 : decode cX1_placesBeside 1 = .ok (.iload_n 1, 1) := by decide +kernel
theorem dX1_placesBeside_2 : decode cX1_placesBeside 2 = .ok (.invokestatic 33, 3) := by decide +kernel
theorem dX1_placesBeside_5 : decode cX1_placesBeside 5 = .ok (.iand, 1) := by decide +kernel
theorem dX1_placesBeside_6 : decode cX1_placesBeside 6 = .ok (.istore_n 2, 1) := by decide +kernel
theorem dX1_placesBeside_7 : decode cX1_placesBeside 7 = .ok (.iconst 0, 1) := by decide +kernel
theorem dX1_placesBeside_8 : decode cX1_placesBeside 8 = .ok (.istore_n 3, 1) := by decide +kernel
theorem dX1_placesBeside_9 : decode cX1_placesBeside 9 = .ok (.iconst 0, 1) := by decide +kernel
theorem dX1_placesBeside_10 : decode cX1_placesBeside 10 = .ok (.istore 4, 2) := by decide +kernel
theorem dX1_placesBeside_12 : decode cX1_placesBeside 12 = .ok (.iload 4, 2) := by decide +kernel
theorem dX1_placesBeside_14 : decode cX1_placesBeside 14 = .ok (.bipush 8, 2) := by decide +kernel
theorem dX1_placesBeside_16 : decode cX1_placesBeside 16 = .ok (.if_icmp .ge 32, 3) := by decide +kernel
theorem dX1_placesBeside_19 : decode cX1_placesBeside 19 = .ok (.iload 4, 2) := by decide +kernel
theorem dX1_placesBeside_21 : decode cX1_placesBeside 21 = .ok (.iload_n 1, 1) := by decide +kernel
theorem dX1_placesBeside_22 : decode cX1_placesBeside 22 = .ok (.if_icmp .eq 20, 3) := by decide +kernel
theorem dX1_placesBeside_25 : decode cX1_placesBeside 25 = .ok (.iload_n 2, 1) := by decide +kernel
theorem dX1_placesBeside_26 : decode cX1_placesBeside 26 = .ok (.iload 4, 2) := by decide +kernel
theorem dX1_placesBeside_28 : decode cX1_placesBeside 28 = .ok (.invokestatic 33, 3) := by decide +kernel
theorem dX1_placesBeside_31 : decode cX1_placesBeside 31 = .ok (.iand, 1) := by decide +kernel
theorem dX1_placesBeside_32 : decode cX1_placesBeside 32 = .ok (.ifCond .eq 10, 3) := by decide +kernel
theorem dX1_placesBeside_35 : decode cX1_placesBeside 35 = .ok (.iload_n 3, 1) := by decide +kernel
theorem dX1_placesBeside_36 : decode cX1_placesBeside 36 = .ok (.iconst 1, 1) := by decide +kernel
theorem dX1_placesBeside_37 : decode cX1_placesBeside 37 = .ok (.iload 4, 2) := by decide +kernel
theorem dX1_placesBeside_39 : decode cX1_placesBeside 39 = .ok (.ishl, 1) := by decide +kernel
theorem dX1_placesBeside_40 : decode cX1_placesBeside 40 = .ok (.ior, 1) := by decide +kernel
theorem dX1_placesBeside_41 : decode cX1_placesBeside 41 = .ok (.istore_n 3, 1) := by decide +kernel
theorem dX1_placesBeside_42 : decode cX1_placesBeside 42 = .ok (.iinc 4 1, 3) := by decide +kernel
theorem dX1_placesBeside_45 : decode cX1_placesBeside 45 = .ok (.goto (-33), 3) := by decide +kernel
theorem dX1_placesBeside_48 : decode cX1_placesBeside 48 = .ok (.iload_n 3, 1) := by decide +kernel
theorem dX1_placesBeside_49 : decode cX1_placesBeside 49 = .ok (.ireturn, 1) := by decide +kernel
theorem dX1_distance_0 : decode cX1_distance 0 = .ok (.iconst 1, 1) := by decide +kernel
theorem dX1_distance_1 : decode cX1_distance 1 = .ok (.iload_n 1, 1) := by decide +kernel
theorem dX1_distance_2 : decode cX1_distance 2 = .ok (.ishl, 1) := by decide +kernel
theorem dX1_distance_3 : decode cX1_distance 3 = .ok (.istore_n 3, 1) := by decide +kernel
theorem dX1_distance_4 : decode cX1_distance 4 = .ok (.iload_n 3, 1) := by decide +kernel
theorem dX1_distance_5 : decode cX1_distance 5 = .ok (.istore 4, 2) := by decide +kernel
theorem dX1_distance_7 : decode cX1_distance 7 = .ok (.iconst 0, 1) := by decide +kernel
theorem dX1_distance_8 : decode cX1_distance 8 = .ok (.istore 5, 2) := by decide +kernel
theorem dX1_distance_10 : decode cX1_distance 10 = .ok (.iload 5, 2) := by decide +kernel
theorem dX1_distance_12 : decode cX1_distance 12 = .ok (.bipush 8, 2) := by decide +kernel
theorem dX1_distance_14 : decode cX1_distance 14 = .ok (.if_icmp .ge 43, 3) := by decide +kernel
theorem dX1_distance_17 : decode cX1_distance 17 = .ok (.iload 4, 2) := by decide +kernel
theorem dX1_distance_19 : decode cX1_distance 19 = .ok (.ifCond .eq 38, 3) := by decide +kernel
theorem dX1_distance_22 : decode cX1_distance 22 = .ok (.iload 4, 2) := by decide +kernel
theorem dX1_distance_24 : decode cX1_distance 24 = .ok (.iload_n 2, 1) := by decide +kernel
theorem dX1_distance_25 : decode cX1_distance 25 = .ok (.ishr, 1) := by decide +kernel
theorem dX1_distance_26 : decode cX1_distance 26 = .ok (.iconst 1, 1) := by decide +kernel
theorem dX1_distance_27 : decode cX1_distance 27 = .ok (.iand, 1) := by decide +kernel
theorem dX1_distance_28 : decode cX1_distance 28 = .ok (.ifCond .eq 6, 3) := by decide +kernel
theorem dX1_distance_31 : decode cX1_distance 31 = .ok (.iload 5, 2) := by decide +kernel
theorem dX1_distance_33 : decode cX1_distance 33 = .ok (.ireturn, 1) := by decide +kernel
theorem dX1_distance_34 : decode cX1_distance 34 = .ok (.iload_n 0, 1) := by decide +kernel
theorem dX1_distance_35 : decode cX1_distance 35 = .ok (.iload 4, 2) := by decide +kernel
theorem dX1_distance_37 : decode cX1_distance 37 = .ok (.invokestatic 37, 3) := by decide +kernel
theorem dX1_distance_40 : decode cX1_distance 40 = .ok (.iload_n 3, 1) := by decide +kernel
theorem dX1_distance_41 : decode cX1_distance 41 = .ok (.iconst (-1), 1) := by decide +kernel
theorem dX1_distance_42 : decode cX1_distance 42 = .ok (.ixor, 1) := by decide +kernel
theorem dX1_distance_43 : decode cX1_distance 43 = .ok (.iand, 1) := by decide +kernel
theorem dX1_distance_44 : decode cX1_distance 44 = .ok (.istore 4, 2) := by decide +kernel
theorem dX1_distance_46 : decode cX1_distance 46 = .ok (.iload_n 3, 1) := by decide +kernel
theorem dX1_distance_47 : decode cX1_distance 47 = .ok (.iload 4, 2) := by decide +kernel
theorem dX1_distance_49 : decode cX1_distance 49 = .ok (.ior, 1) := by decide +kernel
theorem dX1_distance_50 : decode cX1_distance 50 = .ok (.istore_n 3, 1) := by decide +kernel
theorem dX1_distance_51 : decode cX1_distance 51 = .ok (.iinc 5 1, 3) := by decide +kernel
theorem dX1_distance_54 : decode cX1_distance 54 = .ok (.goto (-44), 3) := by decide +kernel
theorem dX1_distance_57 : decode cX1_distance 57 = .ok (.bipush 99, 2) := by decide +kernel
theorem dX1_distance_59 : decode cX1_distance 59 = .ok (.ireturn, 1) := by decide +kernel
theorem dX1_besideAny_0 : decode cX1_besideAny 0 = .ok (.iconst 0, 1) := by decide +kernel
theorem dX1_besideAny_1 : decode cX1_besideAny 1 = .ok (.istore_n 2, 1) := by decide +kernel
theorem dX1_besideAny_2 : decode cX1_besideAny 2 = .ok (.iconst 0, 1) := by decide +kernel
theorem dX1_besideAny_3 : decode cX1_besideAny 3 = .ok (.istore_n 3, 1) := by decide +kernel
theorem dX1_besideAny_4 : decode cX1_besideAny 4 = .ok (.iload_n 3, 1) := by decide +kernel
theorem dX1_besideAny_5 : decode cX1_besideAny 5 = .ok (.bipush 8, 2) := by decide +kernel
theorem dX1_besideAny_7 : decode cX1_besideAny 7 = .ok (.if_icmp .ge 25, 3) := by decide +kernel
theorem dX1_besideAny_10 : decode cX1_besideAny 10 = .ok (.iload_n 1, 1) := by decide +kernel
theorem dX1_besideAny_11 : decode cX1_besideAny 11 = .ok (.iload_n 3, 1) := by decide +kernel
theorem dX1_besideAny_12 : decode cX1_besideAny 12 = .ok (.ishr, 1) := by decide +kernel
theorem dX1_besideAny_13 : decode cX1_besideAny 13 = .ok (.iconst 1, 1) := by decide +kernel
theorem dX1_besideAny_14 : decode cX1_besideAny 14 = .ok (.iand, 1) := by decide +kernel
theorem dX1_besideAny_15 : decode cX1_besideAny 15 = .ok (.ifCond .eq 11, 3) := by decide +kernel
theorem dX1_besideAny_18 : decode cX1_besideAny 18 = .ok (.iload_n 2, 1) := by decide +kernel
theorem dX1_besideAny_19 : decode cX1_besideAny 19 = .ok (.iload_n 0, 1) := by decide +kernel
theorem dX1_besideAny_20 : decode cX1_besideAny 20 = .ok (.iload_n 3, 1) := by decide +kernel
theorem dX1_besideAny_21 : decode cX1_besideAny 21 = .ok (.invokestatic 40, 3) := by decide +kernel
theorem dX1_besideAny_24 : decode cX1_besideAny 24 = .ok (.ior, 1) := by decide +kernel
theorem dX1_besideAny_25 : decode cX1_besideAny 25 = .ok (.istore_n 2, 1) := by decide +kernel
theorem dX1_besideAny_26 : decode cX1_besideAny 26 = .ok (.iinc 3 1, 3) := by decide +kernel
theorem dX1_besideAny_29 : decode cX1_besideAny 29 = .ok (.goto (-25), 3) := by decide +kernel
theorem dX1_besideAny_32 : decode cX1_besideAny 32 = .ok (.iload_n 2, 1) := by decide +kernel
theorem dX1_besideAny_33 : decode cX1_besideAny 33 = .ok (.ireturn, 1) := by decide +kernel
theorem dX1_withWhatFollows_0 : decode cX1_withWhatFollows 0 = .ok (.iload_n 1, 1) := by decide +kernel
theorem dX1_withWhatFollows_1 : decode cX1_withWhatFollows 1 = .ok (.istore_n 2, 1) := by decide +kernel
theorem dX1_withWhatFollows_2 : decode cX1_withWhatFollows 2 = .ok (.iconst 0, 1) := by decide +kernel
theorem dX1_withWhatFollows_3 : decode cX1_withWhatFollows 3 = .ok (.istore_n 3, 1) := by decide +kernel
theorem dX1_withWhatFollows_4 : decode cX1_withWhatFollows 4 = .ok (.iload_n 3, 1) := by decide +kernel
theorem dX1_withWhatFollows_5 : decode cX1_withWhatFollows 5 = .ok (.bipush 28, 2) := by decide +kernel
theorem dX1_withWhatFollows_7 : decode cX1_withWhatFollows 7 = .ok (.if_icmp .ge 47, 3) := by decide +kernel
theorem dX1_withWhatFollows_10 : decode cX1_withWhatFollows 10 = .ok (.iload_n 2, 1) := by decide +kernel
theorem dX1_withWhatFollows_11 : decode cX1_withWhatFollows 11 = .ok (.istore 4, 2) := by decide +kernel
theorem dX1_withWhatFollows_13 : decode cX1_withWhatFollows 13 = .ok (.iconst 0, 1) := by decide +kernel
theorem dX1_withWhatFollows_14 : decode cX1_withWhatFollows 14 = .ok (.istore 5, 2) := by decide +kernel
theorem dX1_withWhatFollows_16 : decode cX1_withWhatFollows 16 = .ok (.iload 5, 2) := by decide +kernel
theorem dX1_withWhatFollows_18 : decode cX1_withWhatFollows 18 = .ok (.bipush 8, 2) := by decide +kernel
theorem dX1_withWhatFollows_20 : decode cX1_withWhatFollows 20 = .ok (.if_icmp .ge 19, 3) := by decide +kernel
theorem dX1_withWhatFollows_23 : decode cX1_withWhatFollows 23 = .ok (.iload_n 2, 1) := by decide +kernel
theorem dX1_withWhatFollows_24 : decode cX1_withWhatFollows 24 = .ok (.iload_n 0, 1) := by decide +kernel
theorem dX1_withWhatFollows_25 : decode cX1_withWhatFollows 25 = .ok (.iload_n 2, 1) := by decide +kernel
theorem dX1_withWhatFollows_26 : decode cX1_withWhatFollows 26 = .ok (.iload 5, 2) := by decide +kernel
theorem dX1_withWhatFollows_28 : decode cX1_withWhatFollows 28 = .ok (.invokestatic 43, 3) := by decide +kernel
theorem dX1_withWhatFollows_31 : decode cX1_withWhatFollows 31 = .ok (.ior, 1) := by decide +kernel
theorem dX1_withWhatFollows_32 : decode cX1_withWhatFollows 32 = .ok (.istore_n 2, 1) := by decide +kernel
theorem dX1_withWhatFollows_33 : decode cX1_withWhatFollows 33 = .ok (.iinc 5 1, 3) := by decide +kernel
theorem dX1_withWhatFollows_36 : decode cX1_withWhatFollows 36 = .ok (.goto (-20), 3) := by decide +kernel
theorem dX1_withWhatFollows_39 : decode cX1_withWhatFollows 39 = .ok (.iload_n 2, 1) := by decide +kernel
theorem dX1_withWhatFollows_40 : decode cX1_withWhatFollows 40 = .ok (.iload 4, 2) := by decide +kernel
theorem dX1_withWhatFollows_42 : decode cX1_withWhatFollows 42 = .ok (.if_icmp .ne 6, 3) := by decide +kernel
theorem dX1_withWhatFollows_45 : decode cX1_withWhatFollows 45 = .ok (.goto 9, 3) := by decide +kernel
theorem dX1_withWhatFollows_48 : decode cX1_withWhatFollows 48 = .ok (.iinc 3 1, 3) := by decide +kernel
theorem dX1_withWhatFollows_51 : decode cX1_withWhatFollows 51 = .ok (.goto (-47), 3) := by decide +kernel
theorem dX1_withWhatFollows_54 : decode cX1_withWhatFollows 54 = .ok (.iload_n 2, 1) := by decide +kernel
theorem dX1_withWhatFollows_55 : decode cX1_withWhatFollows 55 = .ok (.ireturn, 1) := by decide +kernel
theorem dX1_followingAt_0 : decode cX1_followingAt 0 = .ok (.iload_n 2, 1) := by decide +kernel
theorem dX1_followingAt_1 : decode cX1_followingAt 1 = .ok (.invokestatic 33, 3) := by decide +kernel
theorem dX1_followingAt_4 : decode cX1_followingAt 4 = .ok (.istore_n 3, 1) := by decide +kernel
theorem dX1_followingAt_5 : decode cX1_followingAt 5 = .ok (.iload_n 3, 1) := by decide +kernel
theorem dX1_followingAt_6 : decode cX1_followingAt 6 = .ok (.iload_n 1, 1) := by decide +kernel
theorem dX1_followingAt_7 : decode cX1_followingAt 7 = .ok (.iconst (-1), 1) := by decide +kernel
theorem dX1_followingAt_8 : decode cX1_followingAt 8 = .ok (.ixor, 1) := by decide +kernel
theorem dX1_followingAt_9 : decode cX1_followingAt 9 = .ok (.iand, 1) := by decide +kernel
theorem dX1_followingAt_10 : decode cX1_followingAt 10 = .ok (.istore 4, 2) := by decide +kernel
theorem dX1_followingAt_12 : decode cX1_followingAt 12 = .ok (.iload_n 3, 1) := by decide +kernel
theorem dX1_followingAt_13 : decode cX1_followingAt 13 = .ok (.iload_n 0, 1) := by decide +kernel
theorem dX1_followingAt_14 : decode cX1_followingAt 14 = .ok (.iand, 1) := by decide +kernel
theorem dX1_followingAt_15 : decode cX1_followingAt 15 = .ok (.invokestatic 47, 3) := by decide +kernel
theorem dX1_followingAt_18 : decode cX1_followingAt 18 = .ok (.istore 5, 2) := by decide +kernel
theorem dX1_followingAt_20 : decode cX1_followingAt 20 = .ok (.iload_n 3, 1) := by decide +kernel
theorem dX1_followingAt_21 : decode cX1_followingAt 21 = .ok (.iload_n 0, 1) := by decide +kernel
theorem dX1_followingAt_22 : decode cX1_followingAt 22 = .ok (.iand, 1) := by decide +kernel
theorem dX1_followingAt_23 : decode cX1_followingAt 23 = .ok (.iload_n 1, 1) := by decide +kernel
theorem dX1_followingAt_24 : decode cX1_followingAt 24 = .ok (.iand, 1) := by decide +kernel
theorem dX1_followingAt_25 : decode cX1_followingAt 25 = .ok (.invokestatic 47, 3) := by decide +kernel
theorem dX1_followingAt_28 : decode cX1_followingAt 28 = .ok (.istore 6, 2) := by decide +kernel
theorem dX1_followingAt_30 : decode cX1_followingAt 30 = .ok (.iload 6, 2) := by decide +kernel
theorem dX1_followingAt_32 : decode cX1_followingAt 32 = .ok (.iload 5, 2) := by decide +kernel
theorem dX1_followingAt_34 : decode cX1_followingAt 34 = .ok (.if_icmp .eq 16, 3) := by decide +kernel
theorem dX1_followingAt_37 : decode cX1_followingAt 37 = .ok (.iload 6, 2) := by decide +kernel
theorem dX1_followingAt_39 : decode cX1_followingAt 39 = .ok (.iload 4, 2) := by decide +kernel
theorem dX1_followingAt_41 : decode cX1_followingAt 41 = .ok (.invokestatic 47, 3) := by decide +kernel
theorem dX1_followingAt_44 : decode cX1_followingAt 44 = .ok (.iadd, 1) := by decide +kernel
theorem dX1_followingAt_45 : decode cX1_followingAt 45 = .ok (.iload 5, 2) := by decide +kernel
theorem dX1_followingAt_47 : decode cX1_followingAt 47 = .ok (.if_icmp .ne 8, 3) := by decide +kernel
theorem dX1_followingAt_50 : decode cX1_followingAt 50 = .ok (.iload 4, 2) := by decide +kernel
theorem dX1_followingAt_52 : decode cX1_followingAt 52 = .ok (.goto 4, 3) := by decide +kernel
theorem dX1_followingAt_55 : decode cX1_followingAt 55 = .ok (.iconst 0, 1) := by decide +kernel
theorem dX1_followingAt_56 : decode cX1_followingAt 56 = .ok (.ireturn, 1) := by decide +kernel
theorem dX2_init_0 : decode cX2_init 0 = .ok (.aload_n 0, 1) := by decide +kernel
theorem dX2_init_1 : decode cX2_init 1 = .ok (.invokespecial 3, 3) := by decide +kernel
theorem dX2_init_4 : decode cX2_init 4 = .ok (.aload_n 0, 1) := by decide +kernel
theorem dX2_init_5 : decode cX2_init 5 = .ok (.bipush 80, 2) := by decide +kernel
theorem dX2_init_7 : decode cX2_init 7 = .ok (.newarray .char, 2) := by decide +kernel
theorem dX2_init_9 : decode cX2_init 9 = .ok (.putfield 11, 3) := by decide +kernel
theorem dX2_init_12 : decode cX2_init 12 = .ok (.return_, 1) := by decide +kernel
theorem dX2_append_0 : decode cX2_append 0 = .ok (.lload_n 1, 1) := by decide +kernel
theorem dX2_append_1 : decode cX2_append 1 = .ok (.invokestatic 15, 3) := by decide +kernel
theorem dX2_append_4 : decode cX2_append 4 = .ok (.istore_n 3, 1) := by decide +kernel
theorem dX2_append_5 : decode cX2_append 5 = .ok (.iload_n 3, 1) := by decide +kernel
theorem dX2_append_6 : decode cX2_append 6 = .ok (.ifCond .ge 5, 3) := by decide +kernel
theorem dX2_append_9 : decode cX2_append 9 = .ok (.iload_n 3, 1) := by decide +kernel
theorem dX2_append_10 : decode cX2_append 10 = .ok (.ireturn, 1) := by decide +kernel
theorem dX2_append_11 : decode cX2_append 11 = .ok (.aload_n 0, 1) := by decide +kernel
theorem dX2_append_12 : decode cX2_append 12 = .ok (.getfield 19, 3) := by decide +kernel
theorem dX2_append_15 : decode cX2_append 15 = .ok (.iload_n 3, 1) := by decide +kernel
theorem dX2_append_16 : decode cX2_append 16 = .ok (.iadd, 1) := by decide +kernel
theorem dX2_append_17 : decode cX2_append 17 = .ok (.bipush 80, 2) := by decide +kernel
theorem dX2_append_19 : decode cX2_append 19 = .ok (.if_icmp .le 6, 3) := by decide +kernel
theorem dX2_append_22 : decode cX2_append 22 = .ok (.bipush (-4), 2) := by decide +kernel
theorem dX2_append_24 : decode cX2_append 24 = .ok (.ireturn, 1) := by decide +kernel
theorem dX2_append_25 : decode cX2_append 25 = .ok (.iload_n 3, 1) := by decide +kernel
theorem dX2_append_26 : decode cX2_append 26 = .ok (.iconst 1, 1) := by decide +kernel
theorem dX2_append_27 : decode cX2_append 27 = .ok (.isub, 1) := by decide +kernel
theorem dX2_append_28 : decode cX2_append 28 = .ok (.istore 4, 2) := by decide +kernel
theorem dX2_append_30 : decode cX2_append 30 = .ok (.iload 4, 2) := by decide +kernel
theorem dX2_append_32 : decode cX2_append 32 = .ok (.ifCond .lt 54, 3) := by decide +kernel
theorem dX2_append_35 : decode cX2_append 35 = .ok (.aload_n 0, 1) := by decide +kernel
theorem dX2_append_36 : decode cX2_append 36 = .ok (.getfield 19, 3) := by decide +kernel
theorem dX2_append_39 : decode cX2_append 39 = .ok (.ifCond .lt 41, 3) := by decide +kernel
theorem dX2_append_42 : decode cX2_append 42 = .ok (.aload_n 0, 1) := by decide +kernel
theorem dX2_append_43 : decode cX2_append 43 = .ok (.getfield 19, 3) := by decide +kernel
theorem dX2_append_46 : decode cX2_append 46 = .ok (.aload_n 0, 1) := by decide +kernel
theorem dX2_append_47 : decode cX2_append 47 = .ok (.getfield 11, 3) := by decide +kernel
theorem dX2_append_50 : decode cX2_append 50 = .ok (.arraylength, 1) := by decide +kernel
theorem dX2_append_51 : decode cX2_append 51 = .ok (.if_icmp .ge 29, 3) := by decide +kernel
theorem dX2_append_54 : decode cX2_append 54 = .ok (.aload_n 0, 1) := by decide +kernel
theorem dX2_append_55 : decode cX2_append 55 = .ok (.getfield 11, 3) := by decide +kernel
theorem dX2_append_58 : decode cX2_append 58 = .ok (.aload_n 0, 1) := by decide +kernel
theorem dX2_append_59 : decode cX2_append 59 = .ok (.getfield 19, 3) := by decide +kernel
theorem dX2_append_62 : decode cX2_append 62 = .ok (.lload_n 1, 1) := by decide +kernel
theorem dX2_append_63 : decode cX2_append 63 = .ok (.iload 4, 2) := by decide +kernel
theorem dX2_append_65 : decode cX2_append 65 = .ok (.invokestatic 23, 3) := by decide +kernel
theorem dX2_append_68 : decode cX2_append 68 = .ok (.i2c, 1) := by decide +kernel
theorem dX2_append_69 : decode cX2_append 69 = .ok (.castore, 1) := by decide +kernel
theorem dX2_append_70 : decode cX2_append 70 = .ok (.aload_n 0, 1) := by decide +kernel
theorem dX2_append_71 : decode cX2_append 71 = .ok (.dup, 1) := by decide +kernel
theorem dX2_append_72 : decode cX2_append 72 = .ok (.getfield 19, 3) := by decide +kernel
theorem dX2_append_75 : decode cX2_append 75 = .ok (.iconst 1, 1) := by decide +kernel
theorem dX2_append_76 : decode cX2_append 76 = .ok (.iadd, 1) := by decide +kernel
theorem dX2_append_77 : decode cX2_append 77 = .ok (.putfield 19, 3) := by decide +kernel
theorem dX2_append_80 : decode cX2_append 80 = .ok (.iinc 4 (-1), 3) := by decide +kernel
theorem dX2_append_83 : decode cX2_append 83 = .ok (.goto (-53), 3) := by decide +kernel
theorem dX2_append_86 : decode cX2_append 86 = .ok (.aload_n 0, 1) := by decide +kernel
theorem dX2_append_87 : decode cX2_append 87 = .ok (.getfield 19, 3) := by decide +kernel
theorem dX2_append_90 : decode cX2_append 90 = .ok (.ireturn, 1) := by decide +kernel
theorem dX2_charactersIn_0 : decode cX2_charactersIn 0 = .ok (.iconst 0, 1) := by decide +kernel
theorem dX2_charactersIn_1 : decode cX2_charactersIn 1 = .ok (.istore_n 2, 1) := by decide +kernel
theorem dX2_charactersIn_2 : decode cX2_charactersIn 2 = .ok (.iload_n 2, 1) := by decide +kernel
theorem dX2_charactersIn_3 : decode cX2_charactersIn 3 = .ok (.bipush 8, 2) := by decide +kernel
theorem dX2_charactersIn_5 : decode cX2_charactersIn 5 = .ok (.if_icmp .ge 38, 3) := by decide +kernel
theorem dX2_charactersIn_8 : decode cX2_charactersIn 8 = .ok (.lload_n 0, 1) := by decide +kernel
theorem dX2_charactersIn_9 : decode cX2_charactersIn 9 = .ok (.iload_n 2, 1) := by decide +kernel
theorem dX2_charactersIn_10 : decode cX2_charactersIn 10 = .ok (.invokestatic 23, 3) := by decide +kernel
theorem dX2_charactersIn_13 : decode cX2_charactersIn 13 = .ok (.ifCond .eq 30, 3) := by decide +kernel
theorem dX2_charactersIn_16 : decode cX2_charactersIn 16 = .ok (.lload_n 0, 1) := by decide +kernel
theorem dX2_charactersIn_17 : decode cX2_charactersIn 17 = .ok (.iload_n 2, 1) := by decide +kernel
theorem dX2_charactersIn_18 : decode cX2_charactersIn 18 = .ok (.invokestatic 23, 3) := by decide +kernel
theorem dX2_charactersIn_21 : decode cX2_charactersIn 21 = .ok (.istore_n 3, 1) := by decide +kernel
theorem dX2_charactersIn_22 : decode cX2_charactersIn 22 = .ok (.iload_n 3, 1) := by decide +kernel
theorem dX2_charactersIn_23 : decode cX2_charactersIn 23 = .ok (.bipush 33, 2) := by decide +kernel
theorem dX2_charactersIn_25 : decode cX2_charactersIn 25 = .ok (.if_icmp .lt 9, 3) := by decide +kernel
theorem dX2_charactersIn_28 : decode cX2_charactersIn 28 = .ok (.iload_n 3, 1) := by decide +kernel
theorem dX2_charactersIn_29 : decode cX2_charactersIn 29 = .ok (.bipush 126, 2) := by decide +kernel
theorem dX2_charactersIn_31 : decode cX2_charactersIn 31 = .ok (.if_icmp .le 6, 3) := by decide +kernel
theorem dX2_charactersIn_34 : decode cX2_charactersIn 34 = .ok (.bipush (-2), 2) := by decide +kernel
theorem dX2_charactersIn_36 : decode cX2_charactersIn 36 = .ok (.ireturn, 1) := by decide +kernel
theorem dX2_charactersIn_37 : decode cX2_charactersIn 37 = .ok (.iinc 2 1, 3) := by decide +kernel
theorem dX2_charactersIn_40 : decode cX2_charactersIn 40 = .ok (.goto (-38), 3) := by decide +kernel
theorem dX2_charactersIn_43 : decode cX2_charactersIn 43 = .ok (.iload_n 2, 1) := by decide +kernel
theorem dX2_charactersIn_44 : decode cX2_charactersIn 44 = .ok (.bipush 8, 2) := by decide +kernel
theorem dX2_charactersIn_46 : decode cX2_charactersIn 46 = .ok (.if_icmp .ge 18, 3) := by decide +kernel
theorem dX2_charactersIn_49 : decode cX2_charactersIn 49 = .ok (.lload_n 0, 1) := by decide +kernel
theorem dX2_charactersIn_50 : decode cX2_charactersIn 50 = .ok (.bipush 8, 2) := by decide +kernel
theorem dX2_charactersIn_52 : decode cX2_charactersIn 52 = .ok (.iload_n 2, 1) := by decide +kernel
theorem dX2_charactersIn_53 : decode cX2_charactersIn 53 = .ok (.imul, 1) := by decide +kernel
theorem dX2_charactersIn_54 : decode cX2_charactersIn 54 = .ok (.lushr, 1) := by decide +kernel
theorem dX2_charactersIn_55 : decode cX2_charactersIn 55 = .ok (.lconst 0, 1) := by decide +kernel
theorem dX2_charactersIn_56 : decode cX2_charactersIn 56 = .ok (.lcmp, 1) := by decide +kernel
theorem dX2_charactersIn_57 : decode cX2_charactersIn 57 = .ok (.ifCond .eq 7, 3) := by decide +kernel
theorem dX2_charactersIn_60 : decode cX2_charactersIn 60 = .ok (.iconst 1, 1) := by decide +kernel
theorem dX2_charactersIn_61 : decode cX2_charactersIn 61 = .ok (.goto 4, 3) := by decide +kernel
theorem dX2_charactersIn_64 : decode cX2_charactersIn 64 = .ok (.iconst 0, 1) := by decide +kernel
theorem dX2_charactersIn_65 : decode cX2_charactersIn 65 = .ok (.istore_n 3, 1) := by decide +kernel
theorem dX2_charactersIn_66 : decode cX2_charactersIn 66 = .ok (.iload_n 2, 1) := by decide +kernel
theorem dX2_charactersIn_67 : decode cX2_charactersIn 67 = .ok (.ifCond .eq 7, 3) := by decide +kernel
theorem dX2_charactersIn_70 : decode cX2_charactersIn 70 = .ok (.iload_n 3, 1) := by decide +kernel
theorem dX2_charactersIn_71 : decode cX2_charactersIn 71 = .ok (.ifCond .eq 8, 3) := by decide +kernel
theorem dX2_charactersIn_74 : decode cX2_charactersIn 74 = .ok (.bipush (-2), 2) := by decide +kernel
theorem dX2_charactersIn_76 : decode cX2_charactersIn 76 = .ok (.goto 4, 3) := by decide +kernel
theorem dX2_charactersIn_79 : decode cX2_charactersIn 79 = .ok (.iload_n 2, 1) := by decide +kernel
theorem dX2_charactersIn_80 : decode cX2_charactersIn 80 = .ok (.ireturn, 1) := by decide +kernel
theorem dX2_codeIn_0 : decode cX2_codeIn 0 = .ok (.lload_n 0, 1) := by decide +kernel
theorem dX2_codeIn_1 : decode cX2_codeIn 1 = .ok (.bipush 8, 2) := by decide +kernel
theorem dX2_codeIn_3 : decode cX2_codeIn 3 = .ok (.iload_n 2, 1) := by decide +kernel
theorem dX2_codeIn_4 : decode cX2_codeIn 4 = .ok (.imul, 1) := by decide +kernel
theorem dX2_codeIn_5 : decode cX2_codeIn 5 = .ok (.lushr, 1) := by decide +kernel
theorem dX2_codeIn_6 : decode cX2_codeIn 6 = .ok (.l2i, 1) := by decide +kernel
theorem dX2_codeIn_7 : decode cX2_codeIn 7 = .ok (.sipush 255, 3) := by decide +kernel
theorem dX2_codeIn_10 : decode cX2_codeIn 10 = .ok (.iand, 1) := by decide +kernel
theorem dX2_codeIn_11 : decode cX2_codeIn 11 = .ok (.ireturn, 1) := by decide +kernel
theorem dX2_empty_0 : decode cX2_empty 0 = .ok (.aload_n 0, 1) := by decide +kernel
theorem dX2_empty_1 : decode cX2_empty 1 = .ok (.getfield 19, 3) := by decide +kernel
theorem dX2_empty_4 : decode cX2_empty 4 = .ok (.istore_n 1, 1) := by decide +kernel
theorem dX2_empty_5 : decode cX2_empty 5 = .ok (.aload_n 0, 1) := by decide +kernel
theorem dX2_empty_6 : decode cX2_empty 6 = .ok (.iconst 0, 1) := by decide +kernel
theorem dX2_empty_7 : decode cX2_empty 7 = .ok (.putfield 19, 3) := by decide +kernel
theorem dX2_empty_10 : decode cX2_empty 10 = .ok (.iload_n 1, 1) := by decide +kernel
theorem dX2_empty_11 : decode cX2_empty 11 = .ok (.ireturn, 1) := by decide +kernel
theorem dX2_sign_0 : decode cX2_sign 0 = .ok (.iload_n 1, 1) := by decide +kernel
theorem dX2_sign_1 : decode cX2_sign 1 = .ok (.ifCond .lt 29, 3) := by decide +kernel
theorem dX2_sign_4 : decode cX2_sign 4 = .ok (.iload_n 1, 1) := by decide +kernel
theorem dX2_sign_5 : decode cX2_sign 5 = .ok (.aload_n 0, 1) := by decide +kernel
theorem dX2_sign_6 : decode cX2_sign 6 = .ok (.getfield 19, 3) := by decide +kernel
theorem dX2_sign_9 : decode cX2_sign 9 = .ok (.if_icmp .ge 21, 3) := by decide +kernel
theorem dX2_sign_12 : decode cX2_sign 12 = .ok (.iload_n 1, 1) := by decide +kernel
theorem dX2_sign_13 : decode cX2_sign 13 = .ok (.aload_n 0, 1) := by decide +kernel
theorem dX2_sign_14 : decode cX2_sign 14 = .ok (.getfield 11, 3) := by decide +kernel
theorem dX2_sign_17 : decode cX2_sign 17 = .ok (.arraylength, 1) := by decide +kernel
theorem dX2_sign_18 : decode cX2_sign 18 = .ok (.if_icmp .ge 12, 3) := by decide +kernel
theorem dX2_sign_21 : decode cX2_sign 21 = .ok (.aload_n 0, 1) := by decide +kernel
theorem dX2_sign_22 : decode cX2_sign 22 = .ok (.getfield 11, 3) := by decide +kernel
theorem dX2_sign_25 : decode cX2_sign 25 = .ok (.iload_n 1, 1) := by decide +kernel
theorem dX2_sign_26 : decode cX2_sign 26 = .ok (.caload, 1) := by decide +kernel
theorem dX2_sign_27 : decode cX2_sign 27 = .ok (.goto 4, 3) := by decide +kernel
theorem dX2_sign_30 : decode cX2_sign 30 = .ok (.iconst 0, 1) := by decide +kernel
theorem dX2_sign_31 : decode cX2_sign 31 = .ok (.ireturn, 1) := by decide +kernel
theorem dX2_placeAt_0 : decode cX2_placeAt 0 = .ok (.aload_n 0, 1) := by decide +kernel
theorem dX2_placeAt_1 : decode cX2_placeAt 1 = .ok (.iload_n 1, 1) := by decide +kernel
theorem dX2_placeAt_2 : decode cX2_placeAt 2 = .ok (.invokevirtual 27, 3) := by decide +kernel
theorem dX2_placeAt_5 : decode cX2_placeAt 5 = .ok (.bipush 97, 2) := by decide +kernel
theorem dX2_placeAt_7 : decode cX2_placeAt 7 = .ok (.isub, 1) := by decide +kernel
theorem dX2_placeAt_8 : decode cX2_placeAt 8 = .ok (.ireturn, 1) := by decide +kernel
theorem dX2_digitAt_0 : decode cX2_digitAt 0 = .ok (.aload_n 0, 1) := by decide +kernel
theorem dX2_digitAt_1 : decode cX2_digitAt 1 = .ok (.iload_n 1, 1) := by decide +kernel
theorem dX2_digitAt_2 : decode cX2_digitAt 2 = .ok (.invokevirtual 27, 3) := by decide +kernel
theorem dX2_digitAt_5 : decode cX2_digitAt 5 = .ok (.bipush 48, 2) := by decide +kernel
theorem dX2_digitAt_7 : decode cX2_digitAt 7 = .ok (.isub, 1) := by decide +kernel
theorem dX2_digitAt_8 : decode cX2_digitAt 8 = .ok (.ireturn, 1) := by decide +kernel
theorem dX2_startsOrder_0 : decode cX2_startsOrder 0 = .ok (.iload_n 1, 1) := by decide +kernel
theorem dX2_startsOrder_1 : decode cX2_startsOrder 1 = .ok (.ifCond .eq 15, 3) := by decide +kernel
theorem dX2_startsOrder_4 : decode cX2_startsOrder 4 = .ok (.aload_n 0, 1) := by decide +kernel
theorem dX2_startsOrder_5 : decode cX2_startsOrder 5 = .ok (.iload_n 1, 1) := by decide +kernel
theorem dX2_startsOrder_6 : decode cX2_startsOrder 6 = .ok (.iconst 1, 1) := by decide +kernel
theorem dX2_startsOrder_7 : decode cX2_startsOrder 7 = .ok (.isub, 1) := by decide +kernel
theorem dX2_startsOrder_8 : decode cX2_startsOrder 8 = .ok (.invokevirtual 27, 3) := by decide +kernel
theorem dX2_startsOrder_11 : decode cX2_startsOrder 11 = .ok (.bipush 59, 2) := by decide +kernel
theorem dX2_startsOrder_13 : decode cX2_startsOrder 13 = .ok (.if_icmp .ne 7, 3) := by decide +kernel
theorem dX2_startsOrder_16 : decode cX2_startsOrder 16 = .ok (.iconst 1, 1) := by decide +kernel
theorem dX2_startsOrder_17 : decode cX2_startsOrder 17 = .ok (.goto 4, 3) := by decide +kernel
theorem dX2_startsOrder_20 : decode cX2_startsOrder 20 = .ok (.iconst 0, 1) := by decide +kernel
theorem dX2_startsOrder_21 : decode cX2_startsOrder 21 = .ok (.ireturn, 1) := by decide +kernel
theorem dX2_firstFault_0 : decode cX2_firstFault 0 = .ok (.iconst 1, 1) := by decide +kernel
theorem dX2_firstFault_1 : decode cX2_firstFault 1 = .ok (.istore_n 1, 1) := by decide +kernel
theorem dX2_firstFault_2 : decode cX2_firstFault 2 = .ok (.iconst 0, 1) := by decide +kernel
theorem dX2_firstFault_3 : decode cX2_firstFault 3 = .ok (.istore_n 2, 1) := by decide +kernel
theorem dX2_firstFault_4 : decode cX2_firstFault 4 = .ok (.iload_n 2, 1) := by decide +kernel
theorem dX2_firstFault_5 : decode cX2_firstFault 5 = .ok (.aload_n 0, 1) := by decide +kernel
theorem dX2_firstFault_6 : decode cX2_firstFault 6 = .ok (.getfield 19, 3) := by decide +kernel
theorem dX2_firstFault_9 : decode cX2_firstFault 9 = .ok (.if_icmp .ge 25, 3) := by decide +kernel
theorem dX2_firstFault_12 : decode cX2_firstFault 12 = .ok (.iload_n 1, 1) := by decide +kernel
theorem dX2_firstFault_13 : decode cX2_firstFault 13 = .ok (.aload_n 0, 1) := by decide +kernel
theorem dX2_firstFault_14 : decode cX2_firstFault 14 = .ok (.iload_n 2, 1) := by decide +kernel
theorem dX2_firstFault_15 : decode cX2_firstFault 15 = .ok (.invokevirtual 27, 3) := by decide +kernel
theorem dX2_firstFault_18 : decode cX2_firstFault 18 = .ok (.invokestatic 31, 3) := by decide +kernel
theorem dX2_firstFault_21 : decode cX2_firstFault 21 = .ok (.istore_n 1, 1) := by decide +kernel
theorem dX2_firstFault_22 : decode cX2_firstFault 22 = .ok (.iload_n 1, 1) := by decide +kernel
theorem dX2_firstFault_23 : decode cX2_firstFault 23 = .ok (.ifCond .ne 5, 3) := by decide +kernel
theorem dX2_firstFault_26 : decode cX2_firstFault 26 = .ok (.iload_n 2, 1) := by decide +kernel
theorem dX2_firstFault_27 : decode cX2_firstFault 27 = .ok (.ireturn, 1) := by decide +kernel
theorem dX2_firstFault_28 : decode cX2_firstFault 28 = .ok (.iinc 2 1, 3) := by decide +kernel
theorem dX2_firstFault_31 : decode cX2_firstFault 31 = .ok (.goto (-27), 3) := by decide +kernel
theorem dX2_firstFault_34 : decode cX2_firstFault 34 = .ok (.iload_n 1, 1) := by decide +kernel
theorem dX2_firstFault_35 : decode cX2_firstFault 35 = .ok (.iconst 5, 1) := by decide +kernel
theorem dX2_firstFault_36 : decode cX2_firstFault 36 = .ok (.if_icmp .ne 8, 3) := by decide +kernel
theorem dX2_firstFault_39 : decode cX2_firstFault 39 = .ok (.bipush (-6), 2) := by decide +kernel
theorem dX2_firstFault_41 : decode cX2_firstFault 41 = .ok (.goto 7, 3) := by decide +kernel
theorem dX2_firstFault_44 : decode cX2_firstFault 44 = .ok (.aload_n 0, 1) := by decide +kernel
theorem dX2_firstFault_45 : decode cX2_firstFault 45 = .ok (.getfield 19, 3) := by decide +kernel
theorem dX2_firstFault_48 : decode cX2_firstFault 48 = .ok (.ireturn, 1) := by decide +kernel
theorem dX2_dueAfter_0 : decode cX2_dueAfter 0 = .ok (.iload_n 0, 1) := by decide +kernel
theorem dX2_dueAfter_1 : decode cX2_dueAfter 1 = .ok (.tableswitch 96 1 5 #[35, 40, 58, 71, 84], 35) := by decide +kernel
theorem dX2_dueAfter_36 : decode cX2_dueAfter 36 = .ok (.iload_n 1, 1) := by decide +kernel
theorem dX2_dueAfter_37 : decode cX2_dueAfter 37 = .ok (.invokestatic 35, 3) := by decide +kernel
theorem dX2_dueAfter_40 : decode cX2_dueAfter 40 = .ok (.ireturn, 1) := by decide +kernel
theorem dX2_dueAfter_41 : decode cX2_dueAfter 41 = .ok (.iload_n 1, 1) := by decide +kernel
theorem dX2_dueAfter_42 : decode cX2_dueAfter 42 = .ok (.bipush 48, 2) := by decide +kernel
theorem dX2_dueAfter_44 : decode cX2_dueAfter 44 = .ok (.if_icmp .lt 13, 3) := by decide +kernel
theorem dX2_dueAfter_47 : decode cX2_dueAfter 47 = .ok (.iload_n 1, 1) := by decide +kernel
theorem dX2_dueAfter_48 : decode cX2_dueAfter 48 = .ok (.bipush 57, 2) := by decide +kernel
theorem dX2_dueAfter_50 : decode cX2_dueAfter 50 = .ok (.if_icmp .gt 7, 3) := by decide +kernel
theorem dX2_dueAfter_53 : decode cX2_dueAfter 53 = .ok (.iconst 3, 1) := by decide +kernel
theorem dX2_dueAfter_54 : decode cX2_dueAfter 54 = .ok (.goto 4, 3) := by decide +kernel
theorem dX2_dueAfter_57 : decode cX2_dueAfter 57 = .ok (.iconst 0, 1) := by decide +kernel
theorem dX2_dueAfter_58 : decode cX2_dueAfter 58 = .ok (.ireturn, 1) := by decide +kernel
theorem dX2_dueAfter_59 : decode cX2_dueAfter 59 = .ok (.iload_n 1, 1) := by decide +kernel
theorem dX2_dueAfter_60 : decode cX2_dueAfter 60 = .ok (.invokestatic 38, 3) := by decide +kernel
theorem dX2_dueAfter_63 : decode cX2_dueAfter 63 = .ok (.ifCond .eq 7, 3) := by decide +kernel
theorem dX2_dueAfter_66 : decode cX2_dueAfter 66 = .ok (.iconst 4, 1) := by decide +kernel
theorem dX2_dueAfter_67 : decode cX2_dueAfter 67 = .ok (.goto 4, 3) := by decide +kernel
theorem dX2_dueAfter_70 : decode cX2_dueAfter 70 = .ok (.iconst 0, 1) := by decide +kernel
theorem dX2_dueAfter_71 : decode cX2_dueAfter 71 = .ok (.ireturn, 1) := by decide +kernel
theorem dX2_dueAfter_72 : decode cX2_dueAfter 72 = .ok (.iload_n 1, 1) := by decide +kernel
theorem dX2_dueAfter_73 : decode cX2_dueAfter 73 = .ok (.invokestatic 38, 3) := by decide +kernel
theorem dX2_dueAfter_76 : decode cX2_dueAfter 76 = .ok (.ifCond .eq 7, 3) := by decide +kernel
theorem dX2_dueAfter_79 : decode cX2_dueAfter 79 = .ok (.iconst 5, 1) := by decide +kernel
theorem dX2_dueAfter_80 : decode cX2_dueAfter 80 = .ok (.goto 4, 3) := by decide +kernel
theorem dX2_dueAfter_83 : decode cX2_dueAfter 83 = .ok (.iconst 0, 1) := by decide +kernel
theorem dX2_dueAfter_84 : decode cX2_dueAfter 84 = .ok (.ireturn, 1) := by decide +kernel
theorem dX2_dueAfter_85 : decode cX2_dueAfter 85 = .ok (.iload_n 1, 1) := by decide +kernel
theorem dX2_dueAfter_86 : decode cX2_dueAfter 86 = .ok (.bipush 59, 2) := by decide +kernel
theorem dX2_dueAfter_88 : decode cX2_dueAfter 88 = .ok (.if_icmp .ne 7, 3) := by decide +kernel
theorem dX2_dueAfter_91 : decode cX2_dueAfter 91 = .ok (.iconst 1, 1) := by decide +kernel
theorem dX2_dueAfter_92 : decode cX2_dueAfter 92 = .ok (.goto 4, 3) := by decide +kernel
theorem dX2_dueAfter_95 : decode cX2_dueAfter 95 = .ok (.iconst 0, 1) := by decide +kernel
theorem dX2_dueAfter_96 : decode cX2_dueAfter 96 = .ok (.ireturn, 1) := by decide +kernel
theorem dX2_dueAfter_97 : decode cX2_dueAfter 97 = .ok (.iconst 0, 1) := by decide +kernel
theorem dX2_dueAfter_98 : decode cX2_dueAfter 98 = .ok (.ireturn, 1) := by decide +kernel
theorem dX2_dueAfterLetter_0 : decode cX2_dueAfterLetter 0 = .ok (.iload_n 0, 1) := by decide +kernel
theorem dX2_dueAfterLetter_1 : decode cX2_dueAfterLetter 1 = .ok (.lookupswitch 83 #[(43, 75), (45, 75), (98, 81), (99, 79), (100, 77), (112, 81), (114, 75), (116, 77)], 75) := by decide +kernel
theorem dX2_dueAfterLetter_76 : decode cX2_dueAfterLetter 76 = .ok (.iconst 3, 1) := by decide +kernel
theorem dX2_dueAfterLetter_77 : decode cX2_dueAfterLetter 77 = .ok (.ireturn, 1) := by decide +kernel
theorem dX2_dueAfterLetter_78 : decode cX2_dueAfterLetter 78 = .ok (.iconst 4, 1) := by decide +kernel
theorem dX2_dueAfterLetter_79 : decode cX2_dueAfterLetter 79 = .ok (.ireturn, 1) := by decide +kernel
theorem dX2_dueAfterLetter_80 : decode cX2_dueAfterLetter 80 = .ok (.iconst 2, 1) := by decide +kernel
theorem dX2_dueAfterLetter_81 : decode cX2_dueAfterLetter 81 = .ok (.ireturn, 1) := by decide +kernel
theorem dX2_dueAfterLetter_82 : decode cX2_dueAfterLetter 82 = .ok (.iconst 5, 1) := by decide +kernel
theorem dX2_dueAfterLetter_83 : decode cX2_dueAfterLetter 83 = .ok (.ireturn, 1) := by decide +kernel
theorem dX2_dueAfterLetter_84 : decode cX2_dueAfterLetter 84 = .ok (.iconst 0, 1) := by decide +kernel
theorem dX2_dueAfterLetter_85 : decode cX2_dueAfterLetter 85 = .ok (.ireturn, 1) := by decide +kernel
theorem dX2_isPlaceSign_0 : decode cX2_isPlaceSign 0 = .ok (.iload_n 0, 1) := by decide +kernel
theorem dX2_isPlaceSign_1 : decode cX2_isPlaceSign 1 = .ok (.bipush 97, 2) := by decide +kernel
theorem dX2_isPlaceSign_3 : decode cX2_isPlaceSign 3 = .ok (.isub, 1) := by decide +kernel
theorem dX2_isPlaceSign_4 : decode cX2_isPlaceSign 4 = .ok (.invokestatic 42, 3) := by decide +kernel
theorem dX2_isPlaceSign_7 : decode cX2_isPlaceSign 7 = .ok (.ireturn, 1) := by decide +kernel
theorem dX3_init_0 : decode cX3_init 0 = .ok (.aload_n 0, 1) := by decide +kernel
theorem dX3_init_1 : decode cX3_init 1 = .ok (.invokespecial 3, 3) := by decide +kernel
theorem dX3_init_4 : decode cX3_init 4 = .ok (.aload_n 0, 1) := by decide +kernel
theorem dX3_init_5 : decode cX3_init 5 = .ok (.bipush 7, 2) := by decide +kernel
theorem dX3_init_7 : decode cX3_init 7 = .ok (.anewarray 9, 3) := by decide +kernel
theorem dX3_init_10 : decode cX3_init 10 = .ok (.putfield 11, 3) := by decide +kernel
theorem dX3_init_13 : decode cX3_init 13 = .ok (.iconst 0, 1) := by decide +kernel
theorem dX3_init_14 : decode cX3_init 14 = .ok (.istore_n 1, 1) := by decide +kernel
theorem dX3_init_15 : decode cX3_init 15 = .ok (.iload_n 1, 1) := by decide +kernel
theorem dX3_init_16 : decode cX3_init 16 = .ok (.aload_n 0, 1) := by decide +kernel
theorem dX3_init_17 : decode cX3_init 17 = .ok (.getfield 11, 3) := by decide +kernel
theorem dX3_init_20 : decode cX3_init 20 = .ok (.arraylength, 1) := by decide +kernel
theorem dX3_init_21 : decode cX3_init 21 = .ok (.if_icmp .ge 22, 3) := by decide +kernel
theorem dX3_init_24 : decode cX3_init 24 = .ok (.aload_n 0, 1) := by decide +kernel
theorem dX3_init_25 : decode cX3_init 25 = .ok (.getfield 11, 3) := by decide +kernel
theorem dX3_init_28 : decode cX3_init 28 = .ok (.iload_n 1, 1) := by decide +kernel
theorem dX3_init_29 : decode cX3_init 29 = .ok (.new 9, 3) := by decide +kernel
theorem dX3_init_32 : decode cX3_init 32 = .ok (.dup, 1) := by decide +kernel
theorem dX3_init_33 : decode cX3_init 33 = .ok (.invokespecial 15, 3) := by decide +kernel
theorem dX3_init_36 : decode cX3_init 36 = .ok (.aastore, 1) := by decide +kernel
theorem dX3_init_37 : decode cX3_init 37 = .ok (.iinc 1 1, 3) := by decide +kernel
theorem dX3_init_40 : decode cX3_init 40 = .ok (.goto (-25), 3) := by decide +kernel
theorem dX3_init_43 : decode cX3_init 43 = .ok (.return_, 1) := by decide +kernel
theorem dX3_hold_0 : decode cX3_hold 0 = .ok (.aload_n 0, 1) := by decide +kernel
theorem dX3_hold_1 : decode cX3_hold 1 = .ok (.aload_n 0, 1) := by decide +kernel
theorem dX3_hold_2 : decode cX3_hold 2 = .ok (.getfield 16, 3) := by decide +kernel
theorem dX3_hold_5 : decode cX3_hold 5 = .ok (.invokevirtual 20, 3) := by decide +kernel
theorem dX3_hold_8 : decode cX3_hold 8 = .ok (.astore_n 2, 1) := by decide +kernel
theorem dX3_hold_9 : decode cX3_hold 9 = .ok (.aload_n 2, 1) := by decide +kernel
theorem dX3_hold_10 : decode cX3_hold 10 = .ok (.ifnull 8, 3) := by decide +kernel
theorem dX3_hold_13 : decode cX3_hold 13 = .ok (.aload_n 2, 1) := by decide +kernel
theorem dX3_hold_14 : decode cX3_hold 14 = .ok (.aload_n 1, 1) := by decide +kernel
theorem dX3_hold_15 : decode cX3_hold 15 = .ok (.invokevirtual 24, 3) := by decide +kernel
theorem dX3_hold_18 : decode cX3_hold 18 = .ok (.return_, 1) := by decide +kernel
theorem dX3_keep_0 : decode cX3_keep 0 = .ok (.aload_n 0, 1) := by decide +kernel
theorem dX3_keep_1 : decode cX3_keep 1 = .ok (.aload_n 0, 1) := by decide +kernel
theorem dX3_keep_2 : decode cX3_keep 2 = .ok (.getfield 16, 3) := by decide +kernel
theorem dX3_keep_5 : decode cX3_keep 5 = .ok (.iconst 1, 1) := by decide +kernel
theorem dX3_keep_6 : decode cX3_keep 6 = .ok (.iadd, 1) := by decide +kernel
theorem dX3_keep_7 : decode cX3_keep 7 = .ok (.bipush 7, 2) := by decide +kernel
theorem dX3_keep_9 : decode cX3_keep 9 = .ok (.irem, 1) := by decide +kernel
theorem dX3_keep_10 : decode cX3_keep 10 = .ok (.putfield 16, 3) := by decide +kernel
theorem dX3_keep_13 : decode cX3_keep 13 = .ok (.aload_n 0, 1) := by decide +kernel
theorem dX3_keep_14 : decode cX3_keep 14 = .ok (.aload_n 0, 1) := by decide +kernel
theorem dX3_keep_15 : decode cX3_keep 15 = .ok (.getfield 28, 3) := by decide +kernel
theorem dX3_keep_18 : decode cX3_keep 18 = .ok (.iconst 1, 1) := by decide +kernel
theorem dX3_keep_19 : decode cX3_keep 19 = .ok (.iadd, 1) := by decide +kernel
theorem dX3_keep_20 : decode cX3_keep 20 = .ok (.bipush 6, 2) := by decide +kernel
theorem dX3_keep_22 : decode cX3_keep 22 = .ok (.invokestatic 31, 3) := by decide +kernel
theorem dX3_keep_25 : decode cX3_keep 25 = .ok (.putfield 28, 3) := by decide +kernel
theorem dX3_keep_28 : decode cX3_keep 28 = .ok (.return_, 1) := by decide +kernel
theorem dX3_goBack_0 : decode cX3_goBack 0 = .ok (.aload_n 0, 1) := by decide +kernel
theorem dX3_goBack_1 : decode cX3_goBack 1 = .ok (.aload_n 0, 1) := by decide +kernel
theorem dX3_goBack_2 : decode cX3_goBack 2 = .ok (.getfield 16, 3) := by decide +kernel
theorem dX3_goBack_5 : decode cX3_goBack 5 = .ok (.bipush 6, 2) := by decide +kernel
theorem dX3_goBack_7 : decode cX3_goBack 7 = .ok (.iadd, 1) := by decide +kernel
theorem dX3_goBack_8 : decode cX3_goBack 8 = .ok (.bipush 7, 2) := by decide +kernel
theorem dX3_goBack_10 : decode cX3_goBack 10 = .ok (.irem, 1) := by decide +kernel
theorem dX3_goBack_11 : decode cX3_goBack 11 = .ok (.invokevirtual 20, 3) := by decide +kernel
theorem dX3_goBack_14 : decode cX3_goBack 14 = .ok (.astore_n 2, 1) := by decide +kernel
theorem dX3_goBack_15 : decode cX3_goBack 15 = .ok (.aload_n 0, 1) := by decide +kernel
theorem dX3_goBack_16 : decode cX3_goBack 16 = .ok (.getfield 28, 3) := by decide +kernel
theorem dX3_goBack_19 : decode cX3_goBack 19 = .ok (.ifCond .eq 7, 3) := by decide +kernel
theorem dX3_goBack_22 : decode cX3_goBack 22 = .ok (.aload_n 2, 1) := by decide +kernel
theorem dX3_goBack_23 : decode cX3_goBack 23 = .ok (.ifnonnull 5, 3) := by decide +kernel
theorem dX3_goBack_26 : decode cX3_goBack 26 = .ok (.iconst 0, 1) := by decide +kernel
theorem dX3_goBack_27 : decode cX3_goBack 27 = .ok (.ireturn, 1) := by decide +kernel
theorem dX3_goBack_28 : decode cX3_goBack 28 = .ok (.aload_n 1, 1) := by decide +kernel
theorem dX3_goBack_29 : decode cX3_goBack 29 = .ok (.aload_n 2, 1) := by decide +kernel
theorem dX3_goBack_30 : decode cX3_goBack 30 = .ok (.invokevirtual 24, 3) := by decide +kernel
theorem dX3_goBack_33 : decode cX3_goBack 33 = .ok (.aload_n 0, 1) := by decide +kernel
theorem dX3_goBack_34 : decode cX3_goBack 34 = .ok (.aload_n 0, 1) := by decide +kernel
theorem dX3_goBack_35 : decode cX3_goBack 35 = .ok (.getfield 16, 3) := by decide +kernel
theorem dX3_goBack_38 : decode cX3_goBack 38 = .ok (.bipush 6, 2) := by decide +kernel
theorem dX3_goBack_40 : decode cX3_goBack 40 = .ok (.iadd, 1) := by decide +kernel
theorem dX3_goBack_41 : decode cX3_goBack 41 = .ok (.bipush 7, 2) := by decide +kernel
theorem dX3_goBack_43 : decode cX3_goBack 43 = .ok (.irem, 1) := by decide +kernel
theorem dX3_goBack_44 : decode cX3_goBack 44 = .ok (.putfield 16, 3) := by decide +kernel
theorem dX3_goBack_47 : decode cX3_goBack 47 = .ok (.aload_n 0, 1) := by decide +kernel
theorem dX3_goBack_48 : decode cX3_goBack 48 = .ok (.dup, 1) := by decide +kernel
theorem dX3_goBack_49 : decode cX3_goBack 49 = .ok (.getfield 28, 3) := by decide +kernel
theorem dX3_goBack_52 : decode cX3_goBack 52 = .ok (.iconst 1, 1) := by decide +kernel
theorem dX3_goBack_53 : decode cX3_goBack 53 = .ok (.isub, 1) := by decide +kernel
theorem dX3_goBack_54 : decode cX3_goBack 54 = .ok (.putfield 28, 3) := by decide +kernel
theorem dX3_goBack_57 : decode cX3_goBack 57 = .ok (.iconst 1, 1) := by decide +kernel
theorem dX3_goBack_58 : decode cX3_goBack 58 = .ok (.ireturn, 1) := by decide +kernel
theorem dX3_cell_0 : decode cX3_cell 0 = .ok (.iload_n 1, 1) := by decide +kernel
theorem dX3_cell_1 : decode cX3_cell 1 = .ok (.ifCond .lt 21, 3) := by decide +kernel
theorem dX3_cell_4 : decode cX3_cell 4 = .ok (.iload_n 1, 1) := by decide +kernel
theorem dX3_cell_5 : decode cX3_cell 5 = .ok (.aload_n 0, 1) := by decide +kernel
theorem dX3_cell_6 : decode cX3_cell 6 = .ok (.getfield 11, 3) := by decide +kernel
theorem dX3_cell_9 : decode cX3_cell 9 = .ok (.arraylength, 1) := by decide +kernel
theorem dX3_cell_10 : decode cX3_cell 10 = .ok (.if_icmp .ge 12, 3) := by decide +kernel
theorem dX3_cell_13 : decode cX3_cell 13 = .ok (.aload_n 0, 1) := by decide +kernel
theorem dX3_cell_14 : decode cX3_cell 14 = .ok (.getfield 11, 3) := by decide +kernel
theorem dX3_cell_17 : decode cX3_cell 17 = .ok (.iload_n 1, 1) := by decide +kernel
theorem dX3_cell_18 : decode cX3_cell 18 = .ok (.aaload, 1) := by decide +kernel
theorem dX3_cell_19 : decode cX3_cell 19 = .ok (.goto 4, 3) := by decide +kernel
theorem dX3_cell_22 : decode cX3_cell 22 = .ok (.aconst_null, 1) := by decide +kernel
theorem dX3_cell_23 : decode cX3_cell 23 = .ok (.areturn, 1) := by decide +kernel
theorem dX4_init_0 : decode cX4_init 0 = .ok (.aload_n 0, 1) := by decide +kernel
theorem dX4_init_1 : decode cX4_init 1 = .ok (.invokespecial 1, 3) := by decide +kernel
theorem dX4_init_4 : decode cX4_init 4 = .ok (.aload_n 0, 1) := by decide +kernel
theorem dX4_init_5 : decode cX4_init 5 = .ok (.bipush 20, 2) := by decide +kernel
theorem dX4_init_7 : decode cX4_init 7 = .ok (.putfield 9, 3) := by decide +kernel
theorem dX4_init_10 : decode cX4_init 10 = .ok (.return_, 1) := by decide +kernel
theorem dX4_become_0 : decode cX4_become 0 = .ok (.aload_n 0, 1) := by decide +kernel
theorem dX4_become_1 : decode cX4_become 1 = .ok (.aload_n 1, 1) := by decide +kernel
theorem dX4_become_2 : decode cX4_become 2 = .ok (.getfield 9, 3) := by decide +kernel
theorem dX4_become_5 : decode cX4_become 5 = .ok (.putfield 9, 3) := by decide +kernel
theorem dX4_become_8 : decode cX4_become 8 = .ok (.aload_n 0, 1) := by decide +kernel
theorem dX4_become_9 : decode cX4_become 9 = .ok (.aload_n 1, 1) := by decide +kernel
theorem dX4_become_10 : decode cX4_become 10 = .ok (.getfield 13, 3) := by decide +kernel
theorem dX4_become_13 : decode cX4_become 13 = .ok (.putfield 13, 3) := by decide +kernel
theorem dX4_become_16 : decode cX4_become 16 = .ok (.aload_n 0, 1) := by decide +kernel
theorem dX4_become_17 : decode cX4_become 17 = .ok (.aload_n 1, 1) := by decide +kernel
theorem dX4_become_18 : decode cX4_become 18 = .ok (.getfield 16, 3) := by decide +kernel
theorem dX4_become_21 : decode cX4_become 21 = .ok (.putfield 16, 3) := by decide +kernel
theorem dX4_become_24 : decode cX4_become 24 = .ok (.aload_n 0, 1) := by decide +kernel
theorem dX4_become_25 : decode cX4_become 25 = .ok (.aload_n 1, 1) := by decide +kernel
theorem dX4_become_26 : decode cX4_become 26 = .ok (.getfield 19, 3) := by decide +kernel
theorem dX4_become_29 : decode cX4_become 29 = .ok (.putfield 19, 3) := by decide +kernel
theorem dX4_become_32 : decode cX4_become 32 = .ok (.aload_n 0, 1) := by decide +kernel
theorem dX4_become_33 : decode cX4_become 33 = .ok (.aload_n 1, 1) := by decide +kernel
theorem dX4_become_34 : decode cX4_become 34 = .ok (.getfield 22, 3) := by decide +kernel
theorem dX4_become_37 : decode cX4_become 37 = .ok (.putfield 22, 3) := by decide +kernel
theorem dX4_become_40 : decode cX4_become 40 = .ok (.aload_n 0, 1) := by decide +kernel
theorem dX4_become_41 : decode cX4_become 41 = .ok (.aload_n 1, 1) := by decide +kernel
theorem dX4_become_42 : decode cX4_become 42 = .ok (.getfield 25, 3) := by decide +kernel
theorem dX4_become_45 : decode cX4_become 45 = .ok (.putfield 25, 3) := by decide +kernel
theorem dX4_become_48 : decode cX4_become 48 = .ok (.aload_n 0, 1) := by decide +kernel
theorem dX4_become_49 : decode cX4_become 49 = .ok (.aload_n 1, 1) := by decide +kernel
theorem dX4_become_50 : decode cX4_become 50 = .ok (.getfield 28, 3) := by decide +kernel
theorem dX4_become_53 : decode cX4_become 53 = .ok (.putfield 28, 3) := by decide +kernel
theorem dX4_become_56 : decode cX4_become 56 = .ok (.return_, 1) := by decide +kernel
theorem dX4_say_0 : decode cX4_say 0 = .ok (.aload_n 0, 1) := by decide +kernel
theorem dX4_say_1 : decode cX4_say 1 = .ok (.iload_n 2, 1) := by decide +kernel
theorem dX4_say_2 : decode cX4_say 2 = .ok (.ifCond .eq 12, 3) := by decide +kernel
theorem dX4_say_5 : decode cX4_say 5 = .ok (.aload_n 0, 1) := by decide +kernel
theorem dX4_say_6 : decode cX4_say 6 = .ok (.getfield 13, 3) := by decide +kernel
theorem dX4_say_9 : decode cX4_say 9 = .ok (.iload_n 1, 1) := by decide +kernel
theorem dX4_say_10 : decode cX4_say 10 = .ok (.ior, 1) := by decide +kernel
theorem dX4_say_11 : decode cX4_say 11 = .ok (.goto 11, 3) := by decide +kernel
theorem dX4_say_14 : decode cX4_say 14 = .ok (.aload_n 0, 1) := by decide +kernel
theorem dX4_say_15 : decode cX4_say 15 = .ok (.getfield 13, 3) := by decide +kernel
theorem dX4_say_18 : decode cX4_say 18 = .ok (.iload_n 1, 1) := by decide +kernel
theorem dX4_say_19 : decode cX4_say 19 = .ok (.iconst (-1), 1) := by decide +kernel
theorem dX4_say_20 : decode cX4_say 20 = .ok (.ixor, 1) := by decide +kernel
theorem dX4_say_21 : decode cX4_say 21 = .ok (.iand, 1) := by decide +kernel
theorem dX4_say_22 : decode cX4_say 22 = .ok (.putfield 13, 3) := by decide +kernel
theorem dX4_say_25 : decode cX4_say 25 = .ok (.aload_n 0, 1) := by decide +kernel
theorem dX4_say_26 : decode cX4_say 26 = .ok (.iload_n 2, 1) := by decide +kernel
theorem dX4_say_27 : decode cX4_say 27 = .ok (.ifCond .eq 14, 3) := by decide +kernel
theorem dX4_say_30 : decode cX4_say 30 = .ok (.aload_n 0, 1) := by decide +kernel
theorem dX4_say_31 : decode cX4_say 31 = .ok (.getfield 16, 3) := by decide +kernel
theorem dX4_say_34 : decode cX4_say 34 = .ok (.iload_n 1, 1) := by decide +kernel
theorem dX4_say_35 : decode cX4_say 35 = .ok (.iconst (-1), 1) := by decide +kernel
theorem dX4_say_36 : decode cX4_say 36 = .ok (.ixor, 1) := by decide +kernel
theorem dX4_say_37 : decode cX4_say 37 = .ok (.iand, 1) := by decide +kernel
theorem dX4_say_38 : decode cX4_say 38 = .ok (.goto 9, 3) := by decide +kernel
theorem dX4_say_41 : decode cX4_say 41 = .ok (.aload_n 0, 1) := by decide +kernel
theorem dX4_say_42 : decode cX4_say 42 = .ok (.getfield 16, 3) := by decide +kernel
theorem dX4_say_45 : decode cX4_say 45 = .ok (.iload_n 1, 1) := by decide +kernel
theorem dX4_say_46 : decode cX4_say 46 = .ok (.ior, 1) := by decide +kernel
theorem dX4_say_47 : decode cX4_say 47 = .ok (.putfield 16, 3) := by decide +kernel
theorem dX4_say_50 : decode cX4_say 50 = .ok (.return_, 1) := by decide +kernel
theorem dX4_saying_0 : decode cX4_saying 0 = .ok (.iload_n 1, 1) := by decide +kernel
theorem dX4_saying_1 : decode cX4_saying 1 = .ok (.ifCond .eq 10, 3) := by decide +kernel
theorem dX4_saying_4 : decode cX4_saying 4 = .ok (.aload_n 0, 1) := by decide +kernel
theorem dX4_saying_5 : decode cX4_saying 5 = .ok (.getfield 13, 3) := by decide +kernel
theorem dX4_saying_8 : decode cX4_saying 8 = .ok (.goto 7, 3) := by decide +kernel
theorem dX4_saying_11 : decode cX4_saying 11 = .ok (.aload_n 0, 1) := by decide +kernel
theorem dX4_saying_12 : decode cX4_saying 12 = .ok (.getfield 16, 3) := by decide +kernel
theorem dX4_saying_15 : decode cX4_saying 15 = .ok (.ireturn, 1) := by decide +kernel
theorem dX4_claims_0 : decode cX4_claims 0 = .ok (.aload_n 0, 1) := by decide +kernel
theorem dX4_claims_1 : decode cX4_claims 1 = .ok (.getfield 13, 3) := by decide +kernel
theorem dX4_claims_4 : decode cX4_claims 4 = .ok (.aload_n 0, 1) := by decide +kernel
theorem dX4_claims_5 : decode cX4_claims 5 = .ok (.getfield 16, 3) := by decide +kernel
theorem dX4_claims_8 : decode cX4_claims 8 = .ok (.ior, 1) := by decide +kernel
theorem dX4_claims_9 : decode cX4_claims 9 = .ok (.invokestatic 31, 3) := by decide +kernel
theorem dX4_claims_12 : decode cX4_claims 12 = .ok (.ireturn, 1) := by decide +kernel
theorem dX4_lies_0 : decode cX4_lies 0 = .ok (.aload_n 0, 1) := by decide +kernel
theorem dX4_lies_1 : decode cX4_lies 1 = .ok (.getfield 13, 3) := by decide +kernel
theorem dX4_lies_4 : decode cX4_lies 4 = .ok (.iload_n 1, 1) := by decide +kernel
theorem dX4_lies_5 : decode cX4_lies 5 = .ok (.iconst (-1), 1) := by decide +kernel
theorem dX4_lies_6 : decode cX4_lies 6 = .ok (.ixor, 1) := by decide +kernel
theorem dX4_lies_7 : decode cX4_lies 7 = .ok (.iand, 1) := by decide +kernel
theorem dX4_lies_8 : decode cX4_lies 8 = .ok (.aload_n 0, 1) := by decide +kernel
theorem dX4_lies_9 : decode cX4_lies 9 = .ok (.getfield 16, 3) := by decide +kernel
theorem dX4_lies_12 : decode cX4_lies 12 = .ok (.iload_n 1, 1) := by decide +kernel
theorem dX4_lies_13 : decode cX4_lies 13 = .ok (.iand, 1) := by decide +kernel
theorem dX4_lies_14 : decode cX4_lies 14 = .ok (.ior, 1) := by decide +kernel
theorem dX4_lies_15 : decode cX4_lies 15 = .ok (.ireturn, 1) := by decide +kernel
theorem dX4_shownLies_0 : decode cX4_shownLies 0 = .ok (.aload_n 0, 1) := by decide +kernel
theorem dX4_shownLies_1 : decode cX4_shownLies 1 = .ok (.iload_n 1, 1) := by decide +kernel
theorem dX4_shownLies_2 : decode cX4_shownLies 2 = .ok (.invokevirtual 37, 3) := by decide +kernel
theorem dX4_shownLies_5 : decode cX4_shownLies 5 = .ok (.iload_n 2, 1) := by decide +kernel
theorem dX4_shownLies_6 : decode cX4_shownLies 6 = .ok (.iand, 1) := by decide +kernel
theorem dX4_shownLies_7 : decode cX4_shownLies 7 = .ok (.invokestatic 31, 3) := by decide +kernel
theorem dX4_shownLies_10 : decode cX4_shownLies 10 = .ok (.ireturn, 1) := by decide +kernel
theorem dX4_pay_0 : decode cX4_pay 0 = .ok (.iload_n 2, 1) := by decide +kernel
theorem dX4_pay_1 : decode cX4_pay 1 = .ok (.aload_n 0, 1) := by decide +kernel
theorem dX4_pay_2 : decode cX4_pay 2 = .ok (.getfield 9, 3) := by decide +kernel
theorem dX4_pay_5 : decode cX4_pay 5 = .ok (.invokestatic 40, 3) := by decide +kernel
theorem dX4_pay_8 : decode cX4_pay 8 = .ok (.istore_n 3, 1) := by decide +kernel
theorem dX4_pay_9 : decode cX4_pay 9 = .ok (.aload_n 0, 1) := by decide +kernel
theorem dX4_pay_10 : decode cX4_pay 10 = .ok (.dup, 1) := by decide +kernel
theorem dX4_pay_11 : decode cX4_pay 11 = .ok (.getfield 9, 3) := by decide +kernel
theorem dX4_pay_14 : decode cX4_pay 14 = .ok (.iload_n 3, 1) := by decide +kernel
theorem dX4_pay_15 : decode cX4_pay 15 = .ok (.isub, 1) := by decide +kernel
theorem dX4_pay_16 : decode cX4_pay 16 = .ok (.putfield 9, 3) := by decide +kernel
theorem dX4_pay_19 : decode cX4_pay 19 = .ok (.aload_n 1, 1) := by decide +kernel
theorem dX4_pay_20 : decode cX4_pay 20 = .ok (.iload_n 3, 1) := by decide +kernel
theorem dX4_pay_21 : decode cX4_pay 21 = .ok (.invokevirtual 46, 3) := by decide +kernel
theorem dX4_pay_24 : decode cX4_pay 24 = .ok (.return_, 1) := by decide +kernel
theorem dX4_take_0 : decode cX4_take 0 = .ok (.aload_n 0, 1) := by decide +kernel
theorem dX4_take_1 : decode cX4_take 1 = .ok (.sipush 9999, 3) := by decide +kernel
theorem dX4_take_4 : decode cX4_take 4 = .ok (.aload_n 0, 1) := by decide +kernel
theorem dX4_take_5 : decode cX4_take 5 = .ok (.getfield 9, 3) := by decide +kernel
theorem dX4_take_8 : decode cX4_take 8 = .ok (.iload_n 1, 1) := by decide +kernel
theorem dX4_take_9 : decode cX4_take 9 = .ok (.iadd, 1) := by decide +kernel
theorem dX4_take_10 : decode cX4_take 10 = .ok (.invokestatic 40, 3) := by decide +kernel
theorem dX4_take_13 : decode cX4_take 13 = .ok (.putfield 9, 3) := by decide +kernel
theorem dX4_take_16 : decode cX4_take 16 = .ok (.return_, 1) := by decide +kernel
theorem dX5_init_0 : decode cX5_init 0 = .ok (.aload_n 0, 1) := by decide +kernel
theorem dX5_init_1 : decode cX5_init 1 = .ok (.invokespecial 1, 3) := by decide +kernel
theorem dX5_init_4 : decode cX5_init 4 = .ok (.aload_n 0, 1) := by decide +kernel
theorem dX5_init_5 : decode cX5_init 5 = .ok (.new 7, 3) := by decide +kernel
theorem dX5_init_8 : decode cX5_init 8 = .ok (.dup, 1) := by decide +kernel
theorem dX5_init_9 : decode cX5_init 9 = .ok (.invokespecial 9, 3) := by decide +kernel
theorem dX5_init_12 : decode cX5_init 12 = .ok (.putfield 10, 3) := by decide +kernel
theorem dX5_init_15 : decode cX5_init 15 = .ok (.return_, 1) := by decide +kernel
theorem dX6_init_0 : decode cX6_init 0 = .ok (.aload_n 0, 1) := by decide +kernel
theorem dX6_init_1 : decode cX6_init 1 = .ok (.invokespecial 1, 3) := by decide +kernel
theorem dX6_init_4 : decode cX6_init 4 = .ok (.aload_n 0, 1) := by decide +kernel
theorem dX6_init_5 : decode cX6_init 5 = .ok (.new 7, 3) := by decide +kernel
theorem dX6_init_8 : decode cX6_init 8 = .ok (.dup, 1) := by decide +kernel
theorem dX6_init_9 : decode cX6_init 9 = .ok (.invokespecial 9, 3) := by decide +kernel
theorem dX6_init_12 : decode cX6_init 12 = .ok (.putfield 10, 3) := by decide +kernel
theorem dX6_init_15 : decode cX6_init 15 = .ok (.aload_n 0, 1) := by decide +kernel
theorem dX6_init_16 : decode cX6_init 16 = .ok (.new 16, 3) := by decide +kernel
theorem dX6_init_19 : decode cX6_init 19 = .ok (.dup, 1) := by decide +kernel
theorem dX6_init_20 : decode cX6_init 20 = .ok (.invokespecial 18, 3) := by decide +kernel
theorem dX6_init_23 : decode cX6_init 23 = .ok (.putfield 19, 3) := by decide +kernel
theorem dX6_init_26 : decode cX6_init 26 = .ok (.aload_n 0, 1) := by decide +kernel
theorem dX6_init_27 : decode cX6_init 27 = .ok (.new 23, 3) := by decide +kernel
theorem dX6_init_30 : decode cX6_init 30 = .ok (.dup, 1) := by decide +kernel
theorem dX6_init_31 : decode cX6_init 31 = .ok (.invokespecial 25, 3) := by decide +kernel
theorem dX6_init_34 : decode cX6_init 34 = .ok (.putfield 26, 3) := by decide +kernel
theorem dX6_init_37 : decode cX6_init 37 = .ok (.aload_n 0, 1) := by decide +kernel
theorem dX6_init_38 : decode cX6_init 38 = .ok (.new 30, 3) := by decide +kernel
theorem dX6_init_41 : decode cX6_init 41 = .ok (.dup, 1) := by decide +kernel
theorem dX6_init_42 : decode cX6_init 42 = .ok (.invokespecial 32, 3) := by decide +kernel
theorem dX6_init_45 : decode cX6_init 45 = .ok (.putfield 33, 3) := by decide +kernel
theorem dX6_init_48 : decode cX6_init 48 = .ok (.aload_n 0, 1) := by decide +kernel
theorem dX6_init_49 : decode cX6_init 49 = .ok (.new 30, 3) := by decide +kernel
theorem dX6_init_52 : decode cX6_init 52 = .ok (.dup, 1) := by decide +kernel
theorem dX6_init_53 : decode cX6_init 53 = .ok (.invokespecial 32, 3) := by decide +kernel
theorem dX6_init_56 : decode cX6_init 56 = .ok (.putfield 37, 3) := by decide +kernel
theorem dX6_init_59 : decode cX6_init 59 = .ok (.return_, 1) := by decide +kernel
theorem dX6_set_0 : decode cX6_set 0 = .ok (.aload_n 0, 1) := by decide +kernel
theorem dX6_set_1 : decode cX6_set 1 = .ok (.getfield 19, 3) := by decide +kernel
theorem dX6_set_4 : decode cX6_set 4 = .ok (.aload_n 0, 1) := by decide +kernel
theorem dX6_set_5 : decode cX6_set 5 = .ok (.getfield 10, 3) := by decide +kernel
theorem dX6_set_8 : decode cX6_set 8 = .ok (.invokevirtual 40, 3) := by decide +kernel
theorem dX6_set_11 : decode cX6_set 11 = .ok (.aload_n 0, 1) := by decide +kernel
theorem dX6_set_12 : decode cX6_set 12 = .ok (.aload_n 0, 1) := by decide +kernel
theorem dX6_set_13 : decode cX6_set 13 = .ok (.getfield 10, 3) := by decide +kernel
theorem dX6_set_16 : decode cX6_set 16 = .ok (.iload_n 1, 1) := by decide +kernel
theorem dX6_set_17 : decode cX6_set 17 = .ok (.iload_n 2, 1) := by decide +kernel
theorem dX6_set_18 : decode cX6_set 18 = .ok (.invokevirtual 44, 3) := by decide +kernel
theorem dX6_set_21 : decode cX6_set 21 = .ok (.invokevirtual 48, 3) := by decide +kernel
theorem dX6_set_24 : decode cX6_set 24 = .ok (.ireturn, 1) := by decide +kernel
theorem dX6_road_0 : decode cX6_road 0 = .ok (.aload_n 0, 1) := by decide +kernel
theorem dX6_road_1 : decode cX6_road 1 = .ok (.getfield 19, 3) := by decide +kernel
theorem dX6_road_4 : decode cX6_road 4 = .ok (.aload_n 0, 1) := by decide +kernel
theorem dX6_road_5 : decode cX6_road 5 = .ok (.getfield 10, 3) := by decide +kernel
theorem dX6_road_8 : decode cX6_road 8 = .ok (.invokevirtual 40, 3) := by decide +kernel
theorem dX6_road_11 : decode cX6_road 11 = .ok (.aload_n 0, 1) := by decide +kernel
theorem dX6_road_12 : decode cX6_road 12 = .ok (.aload_n 0, 1) := by decide +kernel
theorem dX6_road_13 : decode cX6_road 13 = .ok (.getfield 10, 3) := by decide +kernel
theorem dX6_road_16 : decode cX6_road 16 = .ok (.iload_n 1, 1) := by decide +kernel
theorem dX6_road_17 : decode cX6_road 17 = .ok (.iload_n 2, 1) := by decide +kernel
theorem dX6_road_18 : decode cX6_road 18 = .ok (.invokevirtual 52, 3) := by decide +kernel
theorem dX6_road_21 : decode cX6_road 21 = .ok (.invokevirtual 48, 3) := by decide +kernel
theorem dX6_road_24 : decode cX6_road 24 = .ok (.ireturn, 1) := by decide +kernel
theorem dX6_treasure_0 : decode cX6_treasure 0 = .ok (.aload_n 0, 1) := by decide +kernel
theorem dX6_treasure_1 : decode cX6_treasure 1 = .ok (.getfield 19, 3) := by decide +kernel
theorem dX6_treasure_4 : decode cX6_treasure 4 = .ok (.aload_n 0, 1) := by decide +kernel
theorem dX6_treasure_5 : decode cX6_treasure 5 = .ok (.getfield 10, 3) := by decide +kernel
theorem dX6_treasure_8 : decode cX6_treasure 8 = .ok (.invokevirtual 40, 3) := by decide +kernel
theorem dX6_treasure_11 : decode cX6_treasure 11 = .ok (.aload_n 0, 1) := by decide +kernel
theorem dX6_treasure_12 : decode cX6_treasure 12 = .ok (.aload_n 0, 1) := by decide +kernel
theorem dX6_treasure_13 : decode cX6_treasure 13 = .ok (.getfield 10, 3) := by decide +kernel
theorem dX6_treasure_16 : decode cX6_treasure 16 = .ok (.iload_n 1, 1) := by decide +kernel
theorem dX6_treasure_17 : decode cX6_treasure 17 = .ok (.invokevirtual 55, 3) := by decide +kernel
theorem dX6_treasure_20 : decode cX6_treasure 20 = .ok (.invokevirtual 48, 3) := by decide +kernel
theorem dX6_treasure_23 : decode cX6_treasure 23 = .ok (.ireturn, 1) := by decide +kernel
theorem dX6_begin_0 : decode cX6_begin 0 = .ok (.aload_n 0, 1) := by decide +kernel
theorem dX6_begin_1 : decode cX6_begin 1 = .ok (.getfield 19, 3) := by decide +kernel
theorem dX6_begin_4 : decode cX6_begin 4 = .ok (.aload_n 0, 1) := by decide +kernel
theorem dX6_begin_5 : decode cX6_begin 5 = .ok (.getfield 10, 3) := by decide +kernel
theorem dX6_begin_8 : decode cX6_begin 8 = .ok (.invokevirtual 40, 3) := by decide +kernel
theorem dX6_begin_11 : decode cX6_begin 11 = .ok (.aload_n 0, 1) := by decide +kernel
theorem dX6_begin_12 : decode cX6_begin 12 = .ok (.aload_n 0, 1) := by decide +kernel
theorem dX6_begin_13 : decode cX6_begin 13 = .ok (.getfield 10, 3) := by decide +kernel
theorem dX6_begin_16 : decode cX6_begin 16 = .ok (.invokevirtual 58, 3) := by decide +kernel
theorem dX6_begin_19 : decode cX6_begin 19 = .ok (.invokevirtual 48, 3) := by decide +kernel
theorem dX6_begin_22 : decode cX6_begin 22 = .ok (.ireturn, 1) := by decide +kernel
theorem dX6_claim_0 : decode cX6_claim 0 = .ok (.aload_n 0, 1) := by decide +kernel
theorem dX6_claim_1 : decode cX6_claim 1 = .ok (.getfield 19, 3) := by decide +kernel
theorem dX6_claim_4 : decode cX6_claim 4 = .ok (.aload_n 0, 1) := by decide +kernel
theorem dX6_claim_5 : decode cX6_claim 5 = .ok (.getfield 10, 3) := by decide +kernel
theorem dX6_claim_8 : decode cX6_claim 8 = .ok (.invokevirtual 40, 3) := by decide +kernel
theorem dX6_claim_11 : decode cX6_claim 11 = .ok (.aload_n 0, 1) := by decide +kernel
theorem dX6_claim_12 : decode cX6_claim 12 = .ok (.aload_n 0, 1) := by decide +kernel
theorem dX6_claim_13 : decode cX6_claim 13 = .ok (.getfield 10, 3) := by decide +kernel
theorem dX6_claim_16 : decode cX6_claim 16 = .ok (.iload_n 1, 1) := by decide +kernel
theorem dX6_claim_17 : decode cX6_claim 17 = .ok (.iload_n 2, 1) := by decide +kernel
theorem dX6_claim_18 : decode cX6_claim 18 = .ok (.iload_n 3, 1) := by decide +kernel
theorem dX6_claim_19 : decode cX6_claim 19 = .ok (.invokevirtual 62, 3) := by decide +kernel
theorem dX6_claim_22 : decode cX6_claim 22 = .ok (.invokevirtual 48, 3) := by decide +kernel
theorem dX6_claim_25 : decode cX6_claim 25 = .ok (.ireturn, 1) := by decide +kernel
theorem dX6_check_0 : decode cX6_check 0 = .ok (.aload_n 0, 1) := by decide +kernel
theorem dX6_check_1 : decode cX6_check 1 = .ok (.getfield 19, 3) := by decide +kernel
theorem dX6_check_4 : decode cX6_check 4 = .ok (.aload_n 0, 1) := by decide +kernel
theorem dX6_check_5 : decode cX6_check 5 = .ok (.getfield 10, 3) := by decide +kernel
theorem dX6_check_8 : decode cX6_check 8 = .ok (.invokevirtual 40, 3) := by decide +kernel
theorem dX6_check_11 : decode cX6_check 11 = .ok (.aload_n 0, 1) := by decide +kernel
theorem dX6_check_12 : decode cX6_check 12 = .ok (.aload_n 0, 1) := by decide +kernel
theorem dX6_check_13 : decode cX6_check 13 = .ok (.getfield 10, 3) := by decide +kernel
theorem dX6_check_16 : decode cX6_check 16 = .ok (.iload_n 1, 1) := by decide +kernel
theorem dX6_check_17 : decode cX6_check 17 = .ok (.iload_n 2, 1) := by decide +kernel
theorem dX6_check_18 : decode cX6_check 18 = .ok (.iload_n 3, 1) := by decide +kernel
theorem dX6_check_19 : decode cX6_check 19 = .ok (.invokevirtual 66, 3) := by decide +kernel
theorem dX6_check_22 : decode cX6_check 22 = .ok (.invokevirtual 48, 3) := by decide +kernel
theorem dX6_check_25 : decode cX6_check 25 = .ok (.ireturn, 1) := by decide +kernel
theorem dX6_dig_0 : decode cX6_dig 0 = .ok (.aload_n 0, 1) := by decide +kernel
theorem dX6_dig_1 : decode cX6_dig 1 = .ok (.getfield 19, 3) := by decide +kernel
theorem dX6_dig_4 : decode cX6_dig 4 = .ok (.aload_n 0, 1) := by decide +kernel
theorem dX6_dig_5 : decode cX6_dig 5 = .ok (.getfield 10, 3) := by decide +kernel
theorem dX6_dig_8 : decode cX6_dig 8 = .ok (.invokevirtual 40, 3) := by decide +kernel
theorem dX6_dig_11 : decode cX6_dig 11 = .ok (.aload_n 0, 1) := by decide +kernel
theorem dX6_dig_12 : decode cX6_dig 12 = .ok (.aload_n 0, 1) := by decide +kernel
theorem dX6_dig_13 : decode cX6_dig 13 = .ok (.getfield 10, 3) := by decide +kernel
theorem dX6_dig_16 : decode cX6_dig 16 = .ok (.iload_n 1, 1) := by decide +kernel
theorem dX6_dig_17 : decode cX6_dig 17 = .ok (.invokevirtual 69, 3) := by decide +kernel
theorem dX6_dig_20 : decode cX6_dig 20 = .ok (.invokevirtual 48, 3) := by decide +kernel
theorem dX6_dig_23 : decode cX6_dig 23 = .ok (.ireturn, 1) := by decide +kernel
theorem dX6_pass_0 : decode cX6_pass 0 = .ok (.aload_n 0, 1) := by decide +kernel
theorem dX6_pass_1 : decode cX6_pass 1 = .ok (.getfield 19, 3) := by decide +kernel
theorem dX6_pass_4 : decode cX6_pass 4 = .ok (.aload_n 0, 1) := by decide +kernel
theorem dX6_pass_5 : decode cX6_pass 5 = .ok (.getfield 10, 3) := by decide +kernel
theorem dX6_pass_8 : decode cX6_pass 8 = .ok (.invokevirtual 40, 3) := by decide +kernel
theorem dX6_pass_11 : decode cX6_pass 11 = .ok (.aload_n 0, 1) := by decide +kernel
theorem dX6_pass_12 : decode cX6_pass 12 = .ok (.aload_n 0, 1) := by decide +kernel
theorem dX6_pass_13 : decode cX6_pass 13 = .ok (.getfield 10, 3) := by decide +kernel
theorem dX6_pass_16 : decode cX6_pass 16 = .ok (.invokevirtual 72, 3) := by decide +kernel
theorem dX6_pass_19 : decode cX6_pass 19 = .ok (.invokevirtual 48, 3) := by decide +kernel
theorem dX6_pass_22 : decode cX6_pass 22 = .ok (.ireturn, 1) := by decide +kernel
theorem dX6_keptIfDone_0 : decode cX6_keptIfDone 0 = .ok (.iload_n 1, 1) := by decide +kernel
theorem dX6_keptIfDone_1 : decode cX6_keptIfDone 1 = .ok (.ifCond .lt 10, 3) := by decide +kernel
theorem dX6_keptIfDone_4 : decode cX6_keptIfDone 4 = .ok (.aload_n 0, 1) := by decide +kernel
theorem dX6_keptIfDone_5 : decode cX6_keptIfDone 5 = .ok (.getfield 19, 3) := by decide +kernel
theorem dX6_keptIfDone_8 : decode cX6_keptIfDone 8 = .ok (.invokevirtual 75, 3) := by decide +kernel
theorem dX6_keptIfDone_11 : decode cX6_keptIfDone 11 = .ok (.iload_n 1, 1) := by decide +kernel
theorem dX6_keptIfDone_12 : decode cX6_keptIfDone 12 = .ok (.ireturn, 1) := by decide +kernel
theorem dX6_ofRoad_0 : decode cX6_ofRoad 0 = .ok (.iload_n 1, 1) := by decide +kernel
theorem dX6_ofRoad_1 : decode cX6_ofRoad 1 = .ok (.iload_n 2, 1) := by decide +kernel
theorem dX6_ofRoad_2 : decode cX6_ofRoad 2 = .ok (.invokestatic 78, 3) := by decide +kernel
theorem dX6_ofRoad_5 : decode cX6_ofRoad 5 = .ok (.istore 4, 2) := by decide +kernel
theorem dX6_ofRoad_7 : decode cX6_ofRoad 7 = .ok (.iload 4, 2) := by decide +kernel
theorem dX6_ofRoad_9 : decode cX6_ofRoad 9 = .ok (.ifCond .eq 6, 3) := by decide +kernel
theorem dX6_ofRoad_12 : decode cX6_ofRoad 12 = .ok (.iload 4, 2) := by decide +kernel
theorem dX6_ofRoad_14 : decode cX6_ofRoad 14 = .ok (.ireturn, 1) := by decide +kernel
theorem dX6_ofRoad_15 : decode cX6_ofRoad 15 = .ok (.iload_n 1, 1) := by decide +kernel
theorem dX6_ofRoad_16 : decode cX6_ofRoad 16 = .ok (.iload_n 2, 1) := by decide +kernel
theorem dX6_ofRoad_17 : decode cX6_ofRoad 17 = .ok (.invokestatic 83, 3) := by decide +kernel
theorem dX6_ofRoad_20 : decode cX6_ofRoad 20 = .ok (.istore 5, 2) := by decide +kernel
theorem dX6_ofRoad_22 : decode cX6_ofRoad 22 = .ok (.iload_n 1, 1) := by decide +kernel
theorem dX6_ofRoad_23 : decode cX6_ofRoad 23 = .ok (.iload_n 2, 1) := by decide +kernel
theorem dX6_ofRoad_24 : decode cX6_ofRoad 24 = .ok (.invokestatic 86, 3) := by decide +kernel
theorem dX6_ofRoad_27 : decode cX6_ofRoad 27 = .ok (.istore 6, 2) := by decide +kernel
theorem dX6_ofRoad_29 : decode cX6_ofRoad 29 = .ok (.iload_n 3, 1) := by decide +kernel
theorem dX6_ofRoad_30 : decode cX6_ofRoad 30 = .ok (.tableswitch 98 0 5 #[38, 41, 46, 59, 76, 87], 38) := by decide +kernel
theorem dX6_ofRoad_68 : decode cX6_ofRoad 68 = .ok (.iload 5, 2) := by decide +kernel
theorem dX6_ofRoad_70 : decode cX6_ofRoad 70 = .ok (.ireturn, 1) := by decide +kernel
theorem dX6_ofRoad_71 : decode cX6_ofRoad 71 = .ok (.iload 5, 2) := by decide +kernel
theorem dX6_ofRoad_73 : decode cX6_ofRoad 73 = .ok (.iconst 3, 1) := by decide +kernel
theorem dX6_ofRoad_74 : decode cX6_ofRoad 74 = .ok (.irem, 1) := by decide +kernel
theorem dX6_ofRoad_75 : decode cX6_ofRoad 75 = .ok (.ireturn, 1) := by decide +kernel
theorem dX6_ofRoad_76 : decode cX6_ofRoad 76 = .ok (.iload 6, 2) := by decide +kernel
theorem dX6_ofRoad_78 : decode cX6_ofRoad 78 = .ok (.aload_n 0, 1) := by decide +kernel
theorem dX6_ofRoad_79 : decode cX6_ofRoad 79 = .ok (.getfield 10, 3) := by decide +kernel
theorem dX6_ofRoad_82 : decode cX6_ofRoad 82 = .ok (.getfield 89, 3) := by decide +kernel
theorem dX6_ofRoad_85 : decode cX6_ofRoad 85 = .ok (.invokestatic 93, 3) := by decide +kernel
theorem dX6_ofRoad_88 : decode cX6_ofRoad 88 = .ok (.ireturn, 1) := by decide +kernel
theorem dX6_ofRoad_89 : decode cX6_ofRoad 89 = .ok (.aload_n 0, 1) := by decide +kernel
theorem dX6_ofRoad_90 : decode cX6_ofRoad 90 = .ok (.getfield 10, 3) := by decide +kernel
theorem dX6_ofRoad_93 : decode cX6_ofRoad 93 = .ok (.iload 6, 2) := by decide +kernel
theorem dX6_ofRoad_95 : decode cX6_ofRoad 95 = .ok (.aload_n 0, 1) := by decide +kernel
theorem dX6_ofRoad_96 : decode cX6_ofRoad 96 = .ok (.getfield 10, 3) := by decide +kernel
theorem dX6_ofRoad_99 : decode cX6_ofRoad 99 = .ok (.getfield 96, 3) := by decide +kernel
theorem dX6_ofRoad_102 : decode cX6_ofRoad 102 = .ok (.invokevirtual 99, 3) := by decide +kernel
theorem dX6_ofRoad_105 : decode cX6_ofRoad 105 = .ok (.ireturn, 1) := by decide +kernel
theorem dX6_ofRoad_106 : decode cX6_ofRoad 106 = .ok (.aload_n 0, 1) := by decide +kernel
theorem dX6_ofRoad_107 : decode cX6_ofRoad 107 = .ok (.getfield 10, 3) := by decide +kernel
theorem dX6_ofRoad_110 : decode cX6_ofRoad 110 = .ok (.iload 6, 2) := by decide +kernel
theorem dX6_ofRoad_112 : decode cX6_ofRoad 112 = .ok (.iconst 1, 1) := by decide +kernel
theorem dX6_ofRoad_113 : decode cX6_ofRoad 113 = .ok (.invokevirtual 102, 3) := by decide +kernel
theorem dX6_ofRoad_116 : decode cX6_ofRoad 116 = .ok (.ireturn, 1) := by decide +kernel
theorem dX6_ofRoad_117 : decode cX6_ofRoad 117 = .ok (.aload_n 0, 1) := by decide +kernel
theorem dX6_ofRoad_118 : decode cX6_ofRoad 118 = .ok (.getfield 10, 3) := by decide +kernel
theorem dX6_ofRoad_121 : decode cX6_ofRoad 121 = .ok (.iload 6, 2) := by decide +kernel
theorem dX6_ofRoad_123 : decode cX6_ofRoad 123 = .ok (.iconst 0, 1) := by decide +kernel
theorem dX6_ofRoad_124 : decode cX6_ofRoad 124 = .ok (.invokevirtual 102, 3) := by decide +kernel
theorem dX6_ofRoad_127 : decode cX6_ofRoad 127 = .ok (.ireturn, 1) := by decide +kernel
theorem dX6_ofRoad_128 : decode cX6_ofRoad 128 = .ok (.bipush (-2), 2) := by decide +kernel
theorem dX6_ofRoad_130 : decode cX6_ofRoad 130 = .ok (.ireturn, 1) := by decide +kernel
theorem dX6_knows_0 : decode cX6_knows 0 = .ok (.iload_n 1, 1) := by decide +kernel
theorem dX6_knows_1 : decode cX6_knows 1 = .ok (.invokestatic 106, 3) := by decide +kernel
theorem dX6_knows_4 : decode cX6_knows 4 = .ok (.ifCond .ne 5, 3) := by decide +kernel
theorem dX6_knows_7 : decode cX6_knows 7 = .ok (.iconst (-1), 1) := by decide +kernel
theorem dX6_knows_8 : decode cX6_knows 8 = .ok (.ireturn, 1) := by decide +kernel
theorem dX6_knows_9 : decode cX6_knows 9 = .ok (.iload_n 2, 1) := by decide +kernel
theorem dX6_knows_10 : decode cX6_knows 10 = .ok (.iload_n 3, 1) := by decide +kernel
theorem dX6_knows_11 : decode cX6_knows 11 = .ok (.invokestatic 78, 3) := by decide +kernel
theorem dX6_knows_14 : decode cX6_knows 14 = .ok (.istore 4, 2) := by decide +kernel
theorem dX6_knows_16 : decode cX6_knows 16 = .ok (.iload 4, 2) := by decide +kernel
theorem dX6_knows_18 : decode cX6_knows 18 = .ok (.ifCond .eq 6, 3) := by decide +kernel
theorem dX6_knows_21 : decode cX6_knows 21 = .ok (.iload 4, 2) := by decide +kernel
theorem dX6_knows_23 : decode cX6_knows 23 = .ok (.ireturn, 1) := by decide +kernel
theorem dX6_knows_24 : decode cX6_knows 24 = .ok (.aload_n 0, 1) := by decide +kernel
theorem dX6_knows_25 : decode cX6_knows 25 = .ok (.getfield 10, 3) := by decide +kernel
theorem dX6_knows_28 : decode cX6_knows 28 = .ok (.iload_n 2, 1) := by decide +kernel
theorem dX6_knows_29 : decode cX6_knows 29 = .ok (.iload_n 3, 1) := by decide +kernel
theorem dX6_knows_30 : decode cX6_knows 30 = .ok (.invokestatic 86, 3) := by decide +kernel
theorem dX6_knows_33 : decode cX6_knows 33 = .ok (.aload_n 0, 1) := by decide +kernel
theorem dX6_knows_34 : decode cX6_knows 34 = .ok (.getfield 10, 3) := by decide +kernel
theorem dX6_knows_37 : decode cX6_knows 37 = .ok (.iload_n 1, 1) := by decide +kernel
theorem dX6_knows_38 : decode cX6_knows 38 = .ok (.invokevirtual 110, 3) := by decide +kernel
theorem dX6_knows_41 : decode cX6_knows 41 = .ok (.invokevirtual 99, 3) := by decide +kernel
theorem dX6_knows_44 : decode cX6_knows 44 = .ok (.ireturn, 1) := by decide +kernel
theorem dX6_player_0 : decode cX6_player 0 = .ok (.iload_n 1, 1) := by decide +kernel
theorem dX6_player_1 : decode cX6_player 1 = .ok (.invokestatic 106, 3) := by decide +kernel
theorem dX6_player_4 : decode cX6_player 4 = .ok (.ifCond .ne 5, 3) := by decide +kernel
theorem dX6_player_7 : decode cX6_player 7 = .ok (.iconst (-1), 1) := by decide +kernel
theorem dX6_player_8 : decode cX6_player 8 = .ok (.ireturn, 1) := by decide +kernel
theorem dX6_player_9 : decode cX6_player 9 = .ok (.aload_n 0, 1) := by decide +kernel
theorem dX6_player_10 : decode cX6_player 10 = .ok (.getfield 10, 3) := by decide +kernel
theorem dX6_player_13 : decode cX6_player 13 = .ok (.iload_n 1, 1) := by decide +kernel
theorem dX6_player_14 : decode cX6_player 14 = .ok (.invokevirtual 113, 3) := by decide +kernel
theorem dX6_player_17 : decode cX6_player 17 = .ok (.astore_n 3, 1) := by decide +kernel
theorem dX6_player_18 : decode cX6_player 18 = .ok (.iload_n 2, 1) := by decide +kernel
theorem dX6_player_19 : decode cX6_player 19 = .ok (.tableswitch 106 0 7 #[45, 50, 55, 74, 79, 84, 89, 94], 45) := by decide +kernel
theorem dX6_player_64 : decode cX6_player 64 = .ok (.aload_n 3, 1) := by decide +kernel
theorem dX6_player_65 : decode cX6_player 65 = .ok (.getfield 117, 3) := by decide +kernel
theorem dX6_player_68 : decode cX6_player 68 = .ok (.ireturn, 1) := by decide +kernel
theorem dX6_player_69 : decode cX6_player 69 = .ok (.aload_n 3, 1) := by decide +kernel
theorem dX6_player_70 : decode cX6_player 70 = .ok (.invokevirtual 122, 3) := by decide +kernel
theorem dX6_player_73 : decode cX6_player 73 = .ok (.ireturn, 1) := by decide +kernel
theorem dX6_player_74 : decode cX6_player 74 = .ok (.aload_n 3, 1) := by decide +kernel
theorem dX6_player_75 : decode cX6_player 75 = .ok (.aload_n 0, 1) := by decide +kernel
theorem dX6_player_76 : decode cX6_player 76 = .ok (.getfield 10, 3) := by decide +kernel
theorem dX6_player_79 : decode cX6_player 79 = .ok (.getfield 125, 3) := by decide +kernel
theorem dX6_player_82 : decode cX6_player 82 = .ok (.aload_n 0, 1) := by decide +kernel
theorem dX6_player_83 : decode cX6_player 83 = .ok (.getfield 10, 3) := by decide +kernel
theorem dX6_player_86 : decode cX6_player 86 = .ok (.getfield 96, 3) := by decide +kernel
theorem dX6_player_89 : decode cX6_player 89 = .ok (.invokevirtual 128, 3) := by decide +kernel
theorem dX6_player_92 : decode cX6_player 92 = .ok (.ireturn, 1) := by decide +kernel
theorem dX6_player_93 : decode cX6_player 93 = .ok (.aload_n 3, 1) := by decide +kernel
theorem dX6_player_94 : decode cX6_player 94 = .ok (.getfield 131, 3) := by decide +kernel
theorem dX6_player_97 : decode cX6_player 97 = .ok (.ireturn, 1) := by decide +kernel
theorem dX6_player_98 : decode cX6_player 98 = .ok (.aload_n 3, 1) := by decide +kernel
theorem dX6_player_99 : decode cX6_player 99 = .ok (.getfield 134, 3) := by decide +kernel
theorem dX6_player_102 : decode cX6_player 102 = .ok (.ireturn, 1) := by decide +kernel
theorem dX6_player_103 : decode cX6_player 103 = .ok (.aload_n 3, 1) := by decide +kernel
theorem dX6_player_104 : decode cX6_player 104 = .ok (.getfield 137, 3) := by decide +kernel
theorem dX6_player_107 : decode cX6_player 107 = .ok (.ireturn, 1) := by decide +kernel
theorem dX6_player_108 : decode cX6_player 108 = .ok (.aload_n 3, 1) := by decide +kernel
theorem dX6_player_109 : decode cX6_player 109 = .ok (.getfield 140, 3) := by decide +kernel
theorem dX6_player_112 : decode cX6_player 112 = .ok (.ireturn, 1) := by decide +kernel
theorem dX6_player_113 : decode cX6_player 113 = .ok (.aload_n 0, 1) := by decide +kernel
theorem dX6_player_114 : decode cX6_player 114 = .ok (.getfield 10, 3) := by decide +kernel
theorem dX6_player_117 : decode cX6_player 117 = .ok (.iload_n 1, 1) := by decide +kernel
theorem dX6_player_118 : decode cX6_player 118 = .ok (.invokevirtual 110, 3) := by decide +kernel
theorem dX6_player_121 : decode cX6_player 121 = .ok (.invokestatic 143, 3) := by decide +kernel
theorem dX6_player_124 : decode cX6_player 124 = .ok (.ireturn, 1) := by decide +kernel
theorem dX6_player_125 : decode cX6_player 125 = .ok (.bipush (-2), 2) := by decide +kernel
theorem dX6_player_127 : decode cX6_player 127 = .ok (.ireturn, 1) := by decide +kernel
theorem dX6_place_0 : decode cX6_place 0 = .ok (.iload_n 1, 1) := by decide +kernel
theorem dX6_place_1 : decode cX6_place 1 = .ok (.invokestatic 148, 3) := by decide +kernel
theorem dX6_place_4 : decode cX6_place 4 = .ok (.ifCond .ne 5, 3) := by decide +kernel
theorem dX6_place_7 : decode cX6_place 7 = .ok (.iconst (-1), 1) := by decide +kernel
theorem dX6_place_8 : decode cX6_place 8 = .ok (.ireturn, 1) := by decide +kernel
theorem dX6_place_9 : decode cX6_place 9 = .ok (.iload_n 1, 1) := by decide +kernel
theorem dX6_place_10 : decode cX6_place 10 = .ok (.invokestatic 151, 3) := by decide +kernel
theorem dX6_place_13 : decode cX6_place 13 = .ok (.istore_n 3, 1) := by decide +kernel
theorem dX6_place_14 : decode cX6_place 14 = .ok (.iload_n 2, 1) := by decide +kernel
theorem dX6_place_15 : decode cX6_place 15 = .ok (.tableswitch 126 0 4 #[33, 61, 82, 97, 106], 33) := by decide +kernel
theorem dX6_place_48 : decode cX6_place 48 = .ok (.aload_n 0, 1) := by decide +kernel
theorem dX6_place_49 : decode cX6_place 49 = .ok (.getfield 10, 3) := by decide +kernel
theorem dX6_place_52 : decode cX6_place 52 = .ok (.getfield 154, 3) := by decide +kernel
theorem dX6_place_55 : decode cX6_place 55 = .ok (.ifCond .eq 18, 3) := by decide +kernel
theorem dX6_place_58 : decode cX6_place 58 = .ok (.iload_n 3, 1) := by decide +kernel
theorem dX6_place_59 : decode cX6_place 59 = .ok (.aload_n 0, 1) := by decide +kernel
theorem dX6_place_60 : decode cX6_place 60 = .ok (.getfield 10, 3) := by decide +kernel
theorem dX6_place_63 : decode cX6_place 63 = .ok (.getfield 125, 3) := by decide +kernel
theorem dX6_place_66 : decode cX6_place 66 = .ok (.iand, 1) := by decide +kernel
theorem dX6_place_67 : decode cX6_place 67 = .ok (.invokestatic 143, 3) := by decide +kernel
theorem dX6_place_70 : decode cX6_place 70 = .ok (.goto 5, 3) := by decide +kernel
theorem dX6_place_73 : decode cX6_place 73 = .ok (.bipush (-6), 2) := by decide +kernel
theorem dX6_place_75 : decode cX6_place 75 = .ok (.ireturn, 1) := by decide +kernel
theorem dX6_place_76 : decode cX6_place 76 = .ok (.iload_n 3, 1) := by decide +kernel
theorem dX6_place_77 : decode cX6_place 77 = .ok (.aload_n 0, 1) := by decide +kernel
theorem dX6_place_78 : decode cX6_place 78 = .ok (.getfield 10, 3) := by decide +kernel
theorem dX6_place_81 : decode cX6_place 81 = .ok (.getfield 125, 3) := by decide +kernel
theorem dX6_place_84 : decode cX6_place 84 = .ok (.iand, 1) := by decide +kernel
theorem dX6_place_85 : decode cX6_place 85 = .ok (.aload_n 0, 1) := by decide +kernel
theorem dX6_place_86 : decode cX6_place 86 = .ok (.getfield 10, 3) := by decide +kernel
theorem dX6_place_89 : decode cX6_place 89 = .ok (.getfield 96, 3) := by decide +kernel
theorem dX6_place_92 : decode cX6_place 92 = .ok (.iand, 1) := by decide +kernel
theorem dX6_place_93 : decode cX6_place 93 = .ok (.invokestatic 143, 3) := by decide +kernel
theorem dX6_place_96 : decode cX6_place 96 = .ok (.ireturn, 1) := by decide +kernel
theorem dX6_place_97 : decode cX6_place 97 = .ok (.iload_n 3, 1) := by decide +kernel
theorem dX6_place_98 : decode cX6_place 98 = .ok (.aload_n 0, 1) := by decide +kernel
theorem dX6_place_99 : decode cX6_place 99 = .ok (.getfield 10, 3) := by decide +kernel
theorem dX6_place_102 : decode cX6_place 102 = .ok (.getfield 96, 3) := by decide +kernel
theorem dX6_place_105 : decode cX6_place 105 = .ok (.iconst (-1), 1) := by decide +kernel
theorem dX6_place_106 : decode cX6_place 106 = .ok (.ixor, 1) := by decide +kernel
theorem dX6_place_107 : decode cX6_place 107 = .ok (.iand, 1) := by decide +kernel
theorem dX6_place_108 : decode cX6_place 108 = .ok (.invokestatic 143, 3) := by decide +kernel
theorem dX6_place_111 : decode cX6_place 111 = .ok (.ireturn, 1) := by decide +kernel
theorem dX6_place_112 : decode cX6_place 112 = .ok (.aload_n 0, 1) := by decide +kernel
theorem dX6_place_113 : decode cX6_place 113 = .ok (.getfield 10, 3) := by decide +kernel
theorem dX6_place_116 : decode cX6_place 116 = .ok (.iload_n 1, 1) := by decide +kernel
theorem dX6_place_117 : decode cX6_place 117 = .ok (.invokevirtual 158, 3) := by decide +kernel
theorem dX6_place_120 : decode cX6_place 120 = .ok (.ireturn, 1) := by decide +kernel
theorem dX6_place_121 : decode cX6_place 121 = .ok (.aload_n 0, 1) := by decide +kernel
theorem dX6_place_122 : decode cX6_place 122 = .ok (.getfield 10, 3) := by decide +kernel
theorem dX6_place_125 : decode cX6_place 125 = .ok (.getfield 125, 3) := by decide +kernel
theorem dX6_place_128 : decode cX6_place 128 = .ok (.aload_n 0, 1) := by decide +kernel
theorem dX6_place_129 : decode cX6_place 129 = .ok (.getfield 10, 3) := by decide +kernel
theorem dX6_place_132 : decode cX6_place 132 = .ok (.getfield 96, 3) := by decide +kernel
theorem dX6_place_135 : decode cX6_place 135 = .ok (.iand, 1) := by decide +kernel
theorem dX6_place_136 : decode cX6_place 136 = .ok (.iload_n 1, 1) := by decide +kernel
theorem dX6_place_137 : decode cX6_place 137 = .ok (.invokestatic 161, 3) := by decide +kernel
theorem dX6_place_140 : decode cX6_place 140 = .ok (.ireturn, 1) := by decide +kernel
theorem dX6_place_141 : decode cX6_place 141 = .ok (.bipush (-2), 2) := by decide +kernel
theorem dX6_place_143 : decode cX6_place 143 = .ok (.ireturn, 1) := by decide +kernel
theorem dX6_dug_0 : decode cX6_dug 0 = .ok (.aload_n 0, 1) := by decide +kernel
theorem dX6_dug_1 : decode cX6_dug 1 = .ok (.getfield 10, 3) := by decide +kernel
theorem dX6_dug_4 : decode cX6_dug 4 = .ok (.iload_n 1, 1) := by decide +kernel
theorem dX6_dug_5 : decode cX6_dug 5 = .ok (.invokevirtual 164, 3) := by decide +kernel
theorem dX6_dug_8 : decode cX6_dug 8 = .ok (.ireturn, 1) := by decide +kernel
theorem dX6_count_0 : decode cX6_count 0 = .ok (.iload_n 1, 1) := by decide +kernel
theorem dX6_count_1 : decode cX6_count 1 = .ok (.tableswitch 180 0 13 #[71, 79, 87, 95, 103, 114, 133, 141, 152, 152, 152, 152, 164, 172], 71) := by decide +kernel
theorem dX6_count_72 : decode cX6_count 72 = .ok (.aload_n 0, 1) := by decide +kernel
theorem dX6_count_73 : decode cX6_count 73 = .ok (.getfield 10, 3) := by decide +kernel
theorem dX6_count_76 : decode cX6_count 76 = .ok (.getfield 167, 3) := by decide +kernel
theorem dX6_count_79 : decode cX6_count 79 = .ok (.ireturn, 1) := by decide +kernel
theorem dX6_count_80 : decode cX6_count 80 = .ok (.aload_n 0, 1) := by decide +kernel
theorem dX6_count_81 : decode cX6_count 81 = .ok (.getfield 10, 3) := by decide +kernel
theorem dX6_count_84 : decode cX6_count 84 = .ok (.invokevirtual 170, 3) := by decide +kernel
theorem dX6_count_87 : decode cX6_count 87 = .ok (.ireturn, 1) := by decide +kernel
theorem dX6_count_88 : decode cX6_count 88 = .ok (.aload_n 0, 1) := by decide +kernel
theorem dX6_count_89 : decode cX6_count 89 = .ok (.getfield 10, 3) := by decide +kernel
theorem dX6_count_92 : decode cX6_count 92 = .ok (.invokevirtual 173, 3) := by decide +kernel
theorem dX6_count_95 : decode cX6_count 95 = .ok (.ireturn, 1) := by decide +kernel
theorem dX6_count_96 : decode cX6_count 96 = .ok (.aload_n 0, 1) := by decide +kernel
theorem dX6_count_97 : decode cX6_count 97 = .ok (.getfield 10, 3) := by decide +kernel
theorem dX6_count_100 : decode cX6_count 100 = .ok (.getfield 176, 3) := by decide +kernel
theorem dX6_count_103 : decode cX6_count 103 = .ok (.ireturn, 1) := by decide +kernel
theorem dX6_count_104 : decode cX6_count 104 = .ok (.aload_n 0, 1) := by decide +kernel
theorem dX6_count_105 : decode cX6_count 105 = .ok (.getfield 10, 3) := by decide +kernel
theorem dX6_count_108 : decode cX6_count 108 = .ok (.getfield 96, 3) := by decide +kernel
theorem dX6_count_111 : decode cX6_count 111 = .ok (.invokestatic 143, 3) := by decide +kernel
theorem dX6_count_114 : decode cX6_count 114 = .ok (.ireturn, 1) := by decide +kernel
theorem dX6_count_115 : decode cX6_count 115 = .ok (.aload_n 0, 1) := by decide +kernel
theorem dX6_count_116 : decode cX6_count 116 = .ok (.getfield 10, 3) := by decide +kernel
theorem dX6_count_119 : decode cX6_count 119 = .ok (.getfield 96, 3) := by decide +kernel
theorem dX6_count_122 : decode cX6_count 122 = .ok (.aload_n 0, 1) := by decide +kernel
theorem dX6_count_123 : decode cX6_count 123 = .ok (.getfield 10, 3) := by decide +kernel
theorem dX6_count_126 : decode cX6_count 126 = .ok (.getfield 125, 3) := by decide +kernel
theorem dX6_count_129 : decode cX6_count 129 = .ok (.iand, 1) := by decide +kernel
theorem dX6_count_130 : decode cX6_count 130 = .ok (.invokestatic 143, 3) := by decide +kernel
theorem dX6_count_133 : decode cX6_count 133 = .ok (.ireturn, 1) := by decide +kernel
theorem dX6_count_134 : decode cX6_count 134 = .ok (.aload_n 0, 1) := by decide +kernel
theorem dX6_count_135 : decode cX6_count 135 = .ok (.getfield 10, 3) := by decide +kernel
theorem dX6_count_138 : decode cX6_count 138 = .ok (.invokevirtual 179, 3) := by decide +kernel
theorem dX6_count_141 : decode cX6_count 141 = .ok (.ireturn, 1) := by decide +kernel
theorem dX6_count_142 : decode cX6_count 142 = .ok (.aload_n 0, 1) := by decide +kernel
theorem dX6_count_143 : decode cX6_count 143 = .ok (.getfield 10, 3) := by decide +kernel
theorem dX6_count_146 : decode cX6_count 146 = .ok (.getfield 89, 3) := by decide +kernel
theorem dX6_count_149 : decode cX6_count 149 = .ok (.invokestatic 143, 3) := by decide +kernel
theorem dX6_count_152 : decode cX6_count 152 = .ok (.ireturn, 1) := by decide +kernel
theorem dX6_count_153 : decode cX6_count 153 = .ok (.aload_n 0, 1) := by decide +kernel
theorem dX6_count_154 : decode cX6_count 154 = .ok (.getfield 10, 3) := by decide +kernel
theorem dX6_count_157 : decode cX6_count 157 = .ok (.iload_n 1, 1) := by decide +kernel
theorem dX6_count_158 : decode cX6_count 158 = .ok (.bipush 8, 2) := by decide +kernel
theorem dX6_count_160 : decode cX6_count 160 = .ok (.isub, 1) := by decide +kernel
theorem dX6_count_161 : decode cX6_count 161 = .ok (.invokevirtual 181, 3) := by decide +kernel
theorem dX6_count_164 : decode cX6_count 164 = .ok (.ireturn, 1) := by decide +kernel
theorem dX6_count_165 : decode cX6_count 165 = .ok (.aload_n 0, 1) := by decide +kernel
theorem dX6_count_166 : decode cX6_count 166 = .ok (.getfield 26, 3) := by decide +kernel
theorem dX6_count_169 : decode cX6_count 169 = .ok (.getfield 184, 3) := by decide +kernel
theorem dX6_count_172 : decode cX6_count 172 = .ok (.ireturn, 1) := by decide +kernel
theorem dX6_count_173 : decode cX6_count 173 = .ok (.aload_n 0, 1) := by decide +kernel
theorem dX6_count_174 : decode cX6_count 174 = .ok (.getfield 19, 3) := by decide +kernel
theorem dX6_count_177 : decode cX6_count 177 = .ok (.getfield 187, 3) := by decide +kernel
theorem dX6_count_180 : decode cX6_count 180 = .ok (.ireturn, 1) := by decide +kernel
theorem dX6_count_181 : decode cX6_count 181 = .ok (.bipush (-2), 2) := by decide +kernel
theorem dX6_count_183 : decode cX6_count 183 = .ok (.ireturn, 1) := by decide +kernel
theorem dX6_canBe_0 : decode cX6_canBe 0 = .ok (.iconst 0, 1) := by decide +kernel
theorem dX6_canBe_1 : decode cX6_canBe 1 = .ok (.istore_n 1, 1) := by decide +kernel
theorem dX6_canBe_2 : decode cX6_canBe 2 = .ok (.aload_n 0, 1) := by decide +kernel
theorem dX6_canBe_3 : decode cX6_canBe 3 = .ok (.getfield 10, 3) := by decide +kernel
theorem dX6_canBe_6 : decode cX6_canBe 6 = .ok (.getfield 154, 3) := by decide +kernel
theorem dX6_canBe_9 : decode cX6_canBe 9 = .ok (.ifCond .eq 34, 3) := by decide +kernel
theorem dX6_canBe_12 : decode cX6_canBe 12 = .ok (.iconst 0, 1) := by decide +kernel
theorem dX6_canBe_13 : decode cX6_canBe 13 = .ok (.istore_n 2, 1) := by decide +kernel
theorem dX6_canBe_14 : decode cX6_canBe 14 = .ok (.iload_n 2, 1) := by decide +kernel
theorem dX6_canBe_15 : decode cX6_canBe 15 = .ok (.bipush 8, 2) := by decide +kernel
theorem dX6_canBe_17 : decode cX6_canBe 17 = .ok (.if_icmp .ge 26, 3) := by decide +kernel
theorem dX6_canBe_20 : decode cX6_canBe 20 = .ok (.aload_n 0, 1) := by decide +kernel
theorem dX6_canBe_21 : decode cX6_canBe 21 = .ok (.getfield 10, 3) := by decide +kernel
theorem dX6_canBe_24 : decode cX6_canBe 24 = .ok (.iload_n 2, 1) := by decide +kernel
theorem dX6_canBe_25 : decode cX6_canBe 25 = .ok (.invokevirtual 190, 3) := by decide +kernel
theorem dX6_canBe_28 : decode cX6_canBe 28 = .ok (.ifCond .eq 9, 3) := by decide +kernel
theorem dX6_canBe_31 : decode cX6_canBe 31 = .ok (.iload_n 1, 1) := by decide +kernel
theorem dX6_canBe_32 : decode cX6_canBe 32 = .ok (.iconst 1, 1) := by decide +kernel
theorem dX6_canBe_33 : decode cX6_canBe 33 = .ok (.iload_n 2, 1) := by decide +kernel
theorem dX6_canBe_34 : decode cX6_canBe 34 = .ok (.ishl, 1) := by decide +kernel
theorem dX6_canBe_35 : decode cX6_canBe 35 = .ok (.ior, 1) := by decide +kernel
theorem dX6_canBe_36 : decode cX6_canBe 36 = .ok (.istore_n 1, 1) := by decide +kernel
theorem dX6_canBe_37 : decode cX6_canBe 37 = .ok (.iinc 2 1, 3) := by decide +kernel
theorem dX6_canBe_40 : decode cX6_canBe 40 = .ok (.goto (-26), 3) := by decide +kernel
theorem dX6_canBe_43 : decode cX6_canBe 43 = .ok (.iload_n 1, 1) := by decide +kernel
theorem dX6_canBe_44 : decode cX6_canBe 44 = .ok (.ireturn, 1) := by decide +kernel
theorem dX6_shows_0 : decode cX6_shows 0 = .ok (.iload_n 1, 1) := by decide +kernel
theorem dX6_shows_1 : decode cX6_shows 1 = .ok (.iload_n 2, 1) := by decide +kernel
theorem dX6_shows_2 : decode cX6_shows 2 = .ok (.invokestatic 78, 3) := by decide +kernel
theorem dX6_shows_5 : decode cX6_shows 5 = .ok (.istore_n 3, 1) := by decide +kernel
theorem dX6_shows_6 : decode cX6_shows 6 = .ok (.iload_n 3, 1) := by decide +kernel
theorem dX6_shows_7 : decode cX6_shows 7 = .ok (.ifCond .eq 5, 3) := by decide +kernel
theorem dX6_shows_10 : decode cX6_shows 10 = .ok (.iload_n 3, 1) := by decide +kernel
theorem dX6_shows_11 : decode cX6_shows 11 = .ok (.ireturn, 1) := by decide +kernel
theorem dX6_shows_12 : decode cX6_shows 12 = .ok (.aload_n 0, 1) := by decide +kernel
theorem dX6_shows_13 : decode cX6_shows 13 = .ok (.getfield 10, 3) := by decide +kernel
theorem dX6_shows_16 : decode cX6_shows 16 = .ok (.getfield 154, 3) := by decide +kernel
theorem dX6_shows_19 : decode cX6_shows 19 = .ok (.ifCond .eq 18, 3) := by decide +kernel
theorem dX6_shows_22 : decode cX6_shows 22 = .ok (.aload_n 0, 1) := by decide +kernel
theorem dX6_shows_23 : decode cX6_shows 23 = .ok (.getfield 10, 3) := by decide +kernel
theorem dX6_shows_26 : decode cX6_shows 26 = .ok (.iload_n 1, 1) := by decide +kernel
theorem dX6_shows_27 : decode cX6_shows 27 = .ok (.iload_n 2, 1) := by decide +kernel
theorem dX6_shows_28 : decode cX6_shows 28 = .ok (.invokestatic 86, 3) := by decide +kernel
theorem dX6_shows_31 : decode cX6_shows 31 = .ok (.invokevirtual 193, 3) := by decide +kernel
theorem dX6_shows_34 : decode cX6_shows 34 = .ok (.goto 5, 3) := by decide +kernel
theorem dX6_shows_37 : decode cX6_shows 37 = .ok (.bipush (-5), 2) := by decide +kernel
theorem dX6_shows_39 : decode cX6_shows 39 = .ok (.ireturn, 1) := by decide +kernel
theorem dX6_bestShow_0 : decode cX6_bestShow 0 = .ok (.iload_n 1, 1) := by decide +kernel
theorem dX6_bestShow_1 : decode cX6_bestShow 1 = .ok (.ifCond .eq 11, 3) := by decide +kernel
theorem dX6_bestShow_4 : decode cX6_bestShow 4 = .ok (.iload_n 1, 1) := by decide +kernel
theorem dX6_bestShow_5 : decode cX6_bestShow 5 = .ok (.iconst 1, 1) := by decide +kernel
theorem dX6_bestShow_6 : decode cX6_bestShow 6 = .ok (.if_icmp .eq 6, 3) := by decide +kernel
theorem dX6_bestShow_9 : decode cX6_bestShow 9 = .ok (.bipush (-2), 2) := by decide +kernel
theorem dX6_bestShow_11 : decode cX6_bestShow 11 = .ok (.ireturn, 1) := by decide +kernel
theorem dX6_bestShow_12 : decode cX6_bestShow 12 = .ok (.aload_n 0, 1) := by decide +kernel
theorem dX6_bestShow_13 : decode cX6_bestShow 13 = .ok (.getfield 10, 3) := by decide +kernel
theorem dX6_bestShow_16 : decode cX6_bestShow 16 = .ok (.getfield 154, 3) := by decide +kernel
theorem dX6_bestShow_19 : decode cX6_bestShow 19 = .ok (.ifCond .ne 6, 3) := by decide +kernel
theorem dX6_bestShow_22 : decode cX6_bestShow 22 = .ok (.bipush (-5), 2) := by decide +kernel
theorem dX6_bestShow_24 : decode cX6_bestShow 24 = .ok (.ireturn, 1) := by decide +kernel
theorem dX6_bestShow_25 : decode cX6_bestShow 25 = .ok (.bipush (-6), 2) := by decide +kernel
theorem dX6_bestShow_27 : decode cX6_bestShow 27 = .ok (.istore_n 2, 1) := by decide +kernel
theorem dX6_bestShow_28 : decode cX6_bestShow 28 = .ok (.iconst 0, 1) := by decide +kernel
theorem dX6_bestShow_29 : decode cX6_bestShow 29 = .ok (.istore_n 3, 1) := by decide +kernel
theorem dX6_bestShow_30 : decode cX6_bestShow 30 = .ok (.iconst 0, 1) := by decide +kernel
theorem dX6_bestShow_31 : decode cX6_bestShow 31 = .ok (.istore 4, 2) := by decide +kernel
theorem dX6_bestShow_33 : decode cX6_bestShow 33 = .ok (.iload 4, 2) := by decide +kernel
theorem dX6_bestShow_35 : decode cX6_bestShow 35 = .ok (.bipush 28, 2) := by decide +kernel
theorem dX6_bestShow_37 : decode cX6_bestShow 37 = .ok (.if_icmp .ge 34, 3) := by decide +kernel
theorem dX6_bestShow_40 : decode cX6_bestShow 40 = .ok (.aload_n 0, 1) := by decide +kernel
theorem dX6_bestShow_41 : decode cX6_bestShow 41 = .ok (.getfield 10, 3) := by decide +kernel
theorem dX6_bestShow_44 : decode cX6_bestShow 44 = .ok (.iconst 1, 1) := by decide +kernel
theorem dX6_bestShow_45 : decode cX6_bestShow 45 = .ok (.iload 4, 2) := by decide +kernel
theorem dX6_bestShow_47 : decode cX6_bestShow 47 = .ok (.ishl, 1) := by decide +kernel
theorem dX6_bestShow_48 : decode cX6_bestShow 48 = .ok (.invokevirtual 193, 3) := by decide +kernel
theorem dX6_bestShow_51 : decode cX6_bestShow 51 = .ok (.istore 5, 2) := by decide +kernel
theorem dX6_bestShow_53 : decode cX6_bestShow 53 = .ok (.iload 5, 2) := by decide +kernel
theorem dX6_bestShow_55 : decode cX6_bestShow 55 = .ok (.iload_n 3, 1) := by decide +kernel
theorem dX6_bestShow_56 : decode cX6_bestShow 56 = .ok (.if_icmp .le 9, 3) := by decide +kernel
theorem dX6_bestShow_59 : decode cX6_bestShow 59 = .ok (.iload 5, 2) := by decide +kernel
theorem dX6_bestShow_61 : decode cX6_bestShow 61 = .ok (.istore_n 3, 1) := by decide +kernel
theorem dX6_bestShow_62 : decode cX6_bestShow 62 = .ok (.iload 4, 2) := by decide +kernel
theorem dX6_bestShow_64 : decode cX6_bestShow 64 = .ok (.istore_n 2, 1) := by decide +kernel
theorem dX6_bestShow_65 : decode cX6_bestShow 65 = .ok (.iinc 4 1, 3) := by decide +kernel
theorem dX6_bestShow_68 : decode cX6_bestShow 68 = .ok (.goto (-35), 3) := by decide +kernel
theorem dX6_bestShow_71 : decode cX6_bestShow 71 = .ok (.iload_n 2, 1) := by decide +kernel
theorem dX6_bestShow_72 : decode cX6_bestShow 72 = .ok (.bipush (-6), 2) := by decide +kernel
theorem dX6_bestShow_74 : decode cX6_bestShow 74 = .ok (.if_icmp .eq 7, 3) := by decide +kernel
theorem dX6_bestShow_77 : decode cX6_bestShow 77 = .ok (.iload_n 1, 1) := by decide +kernel
theorem dX6_bestShow_78 : decode cX6_bestShow 78 = .ok (.ifCond .ne 7, 3) := by decide +kernel
theorem dX6_bestShow_81 : decode cX6_bestShow 81 = .ok (.iload_n 2, 1) := by decide +kernel
theorem dX6_bestShow_82 : decode cX6_bestShow 82 = .ok (.goto 4, 3) := by decide +kernel
theorem dX6_bestShow_85 : decode cX6_bestShow 85 = .ok (.iload_n 3, 1) := by decide +kernel
theorem dX6_bestShow_86 : decode cX6_bestShow 86 = .ok (.ireturn, 1) := by decide +kernel
theorem dX6_knownWay_0 : decode cX6_knownWay 0 = .ok (.iload_n 1, 1) := by decide +kernel
theorem dX6_knownWay_1 : decode cX6_knownWay 1 = .ok (.invokestatic 148, 3) := by decide +kernel
theorem dX6_knownWay_4 : decode cX6_knownWay 4 = .ok (.ifCond .eq 10, 3) := by decide +kernel
theorem dX6_knownWay_7 : decode cX6_knownWay 7 = .ok (.iload_n 2, 1) := by decide +kernel
theorem dX6_knownWay_8 : decode cX6_knownWay 8 = .ok (.invokestatic 148, 3) := by decide +kernel
theorem dX6_knownWay_11 : decode cX6_knownWay 11 = .ok (.ifCond .ne 5, 3) := by decide +kernel
theorem dX6_knownWay_14 : decode cX6_knownWay 14 = .ok (.iconst (-1), 1) := by decide +kernel
theorem dX6_knownWay_15 : decode cX6_knownWay 15 = .ok (.ireturn, 1) := by decide +kernel
theorem dX6_knownWay_16 : decode cX6_knownWay 16 = .ok (.aload_n 0, 1) := by decide +kernel
theorem dX6_knownWay_17 : decode cX6_knownWay 17 = .ok (.getfield 10, 3) := by decide +kernel
theorem dX6_knownWay_20 : decode cX6_knownWay 20 = .ok (.getfield 125, 3) := by decide +kernel
theorem dX6_knownWay_23 : decode cX6_knownWay 23 = .ok (.aload_n 0, 1) := by decide +kernel
theorem dX6_knownWay_24 : decode cX6_knownWay 24 = .ok (.getfield 10, 3) := by decide +kernel
theorem dX6_knownWay_27 : decode cX6_knownWay 27 = .ok (.getfield 96, 3) := by decide +kernel
theorem dX6_knownWay_30 : decode cX6_knownWay 30 = .ok (.iand, 1) := by decide +kernel
theorem dX6_knownWay_31 : decode cX6_knownWay 31 = .ok (.iload_n 1, 1) := by decide +kernel
theorem dX6_knownWay_32 : decode cX6_knownWay 32 = .ok (.iload_n 2, 1) := by decide +kernel
theorem dX6_knownWay_33 : decode cX6_knownWay 33 = .ok (.invokestatic 196, 3) := by decide +kernel
theorem dX6_knownWay_36 : decode cX6_knownWay 36 = .ok (.istore_n 3, 1) := by decide +kernel
theorem dX6_knownWay_37 : decode cX6_knownWay 37 = .ok (.iload_n 3, 1) := by decide +kernel
theorem dX6_knownWay_38 : decode cX6_knownWay 38 = .ok (.bipush 99, 2) := by decide +kernel
theorem dX6_knownWay_40 : decode cX6_knownWay 40 = .ok (.if_icmp .ne 8, 3) := by decide +kernel
theorem dX6_knownWay_43 : decode cX6_knownWay 43 = .ok (.bipush (-6), 2) := by decide +kernel
theorem dX6_knownWay_45 : decode cX6_knownWay 45 = .ok (.goto 4, 3) := by decide +kernel
theorem dX6_knownWay_48 : decode cX6_knownWay 48 = .ok (.iload_n 3, 1) := by decide +kernel
theorem dX6_knownWay_49 : decode cX6_knownWay 49 = .ok (.ireturn, 1) := by decide +kernel
theorem dX6_put_0 : decode cX6_put 0 = .ok (.aload_n 0, 1) := by decide +kernel
theorem dX6_put_1 : decode cX6_put 1 = .ok (.getfield 26, 3) := by decide +kernel
theorem dX6_put_4 : decode cX6_put 4 = .ok (.lload_n 1, 1) := by decide +kernel
theorem dX6_put_5 : decode cX6_put 5 = .ok (.invokevirtual 199, 3) := by decide +kernel
theorem dX6_put_8 : decode cX6_put 8 = .ok (.ireturn, 1) := by decide +kernel
theorem dX6_wipe_0 : decode cX6_wipe 0 = .ok (.aload_n 0, 1) := by decide +kernel
theorem dX6_wipe_1 : decode cX6_wipe 1 = .ok (.getfield 26, 3) := by decide +kernel
theorem dX6_wipe_4 : decode cX6_wipe 4 = .ok (.invokevirtual 203, 3) := by decide +kernel
theorem dX6_wipe_7 : decode cX6_wipe 7 = .ok (.ireturn, 1) := by decide +kernel
theorem dX6_fault_0 : decode cX6_fault 0 = .ok (.aload_n 0, 1) := by decide +kernel
theorem dX6_fault_1 : decode cX6_fault 1 = .ok (.getfield 26, 3) := by decide +kernel
theorem dX6_fault_4 : decode cX6_fault 4 = .ok (.invokevirtual 206, 3) := by decide +kernel
theorem dX6_fault_7 : decode cX6_fault 7 = .ok (.ireturn, 1) := by decide +kernel
theorem dX6_carryOut_0 : decode cX6_carryOut 0 = .ok (.aload_n 0, 1) := by decide +kernel
theorem dX6_carryOut_1 : decode cX6_carryOut 1 = .ok (.getfield 26, 3) := by decide +kernel
theorem dX6_carryOut_4 : decode cX6_carryOut 4 = .ok (.invokevirtual 206, 3) := by decide +kernel
theorem dX6_carryOut_7 : decode cX6_carryOut 7 = .ok (.bipush (-6), 2) := by decide +kernel
theorem dX6_carryOut_9 : decode cX6_carryOut 9 = .ok (.if_icmp .eq 6, 3) := by decide +kernel
theorem dX6_carryOut_12 : decode cX6_carryOut 12 = .ok (.bipush (-3), 2) := by decide +kernel
theorem dX6_carryOut_14 : decode cX6_carryOut 14 = .ok (.ireturn, 1) := by decide +kernel
theorem dX6_carryOut_15 : decode cX6_carryOut 15 = .ok (.aload_n 0, 1) := by decide +kernel
theorem dX6_carryOut_16 : decode cX6_carryOut 16 = .ok (.getfield 19, 3) := by decide +kernel
theorem dX6_carryOut_19 : decode cX6_carryOut 19 = .ok (.aload_n 0, 1) := by decide +kernel
theorem dX6_carryOut_20 : decode cX6_carryOut 20 = .ok (.getfield 10, 3) := by decide +kernel
theorem dX6_carryOut_23 : decode cX6_carryOut 23 = .ok (.invokevirtual 40, 3) := by decide +kernel
theorem dX6_carryOut_26 : decode cX6_carryOut 26 = .ok (.aload_n 0, 1) := by decide +kernel
theorem dX6_carryOut_27 : decode cX6_carryOut 27 = .ok (.getfield 19, 3) := by decide +kernel
theorem dX6_carryOut_30 : decode cX6_carryOut 30 = .ok (.invokevirtual 75, 3) := by decide +kernel
theorem dX6_carryOut_33 : decode cX6_carryOut 33 = .ok (.iconst 0, 1) := by decide +kernel
theorem dX6_carryOut_34 : decode cX6_carryOut 34 = .ok (.istore_n 1, 1) := by decide +kernel
theorem dX6_carryOut_35 : decode cX6_carryOut 35 = .ok (.iconst 0, 1) := by decide +kernel
theorem dX6_carryOut_36 : decode cX6_carryOut 36 = .ok (.istore_n 2, 1) := by decide +kernel
theorem dX6_carryOut_37 : decode cX6_carryOut 37 = .ok (.iload_n 2, 1) := by decide +kernel
theorem dX6_carryOut_38 : decode cX6_carryOut 38 = .ok (.aload_n 0, 1) := by decide +kernel
theorem dX6_carryOut_39 : decode cX6_carryOut 39 = .ok (.getfield 26, 3) := by decide +kernel
theorem dX6_carryOut_42 : decode cX6_carryOut 42 = .ok (.getfield 184, 3) := by decide +kernel
theorem dX6_carryOut_45 : decode cX6_carryOut 45 = .ok (.if_icmp .ge 34, 3) := by decide +kernel
theorem dX6_carryOut_48 : decode cX6_carryOut 48 = .ok (.aload_n 0, 1) := by decide +kernel
theorem dX6_carryOut_49 : decode cX6_carryOut 49 = .ok (.getfield 26, 3) := by decide +kernel
theorem dX6_carryOut_52 : decode cX6_carryOut 52 = .ok (.iload_n 2, 1) := by decide +kernel
theorem dX6_carryOut_53 : decode cX6_carryOut 53 = .ok (.invokevirtual 209, 3) := by decide +kernel
theorem dX6_carryOut_56 : decode cX6_carryOut 56 = .ok (.ifCond .eq 17, 3) := by decide +kernel
theorem dX6_carryOut_59 : decode cX6_carryOut 59 = .ok (.aload_n 0, 1) := by decide +kernel
theorem dX6_carryOut_60 : decode cX6_carryOut 60 = .ok (.iload_n 2, 1) := by decide +kernel
theorem dX6_carryOut_61 : decode cX6_carryOut 61 = .ok (.invokevirtual 212, 3) := by decide +kernel
theorem dX6_carryOut_64 : decode cX6_carryOut 64 = .ok (.ifCond .ge 6, 3) := by decide +kernel
theorem dX6_carryOut_67 : decode cX6_carryOut 67 = .ok (.goto 12, 3) := by decide +kernel
theorem dX6_carryOut_70 : decode cX6_carryOut 70 = .ok (.iinc 1 1, 3) := by decide +kernel
theorem dX6_carryOut_73 : decode cX6_carryOut 73 = .ok (.iinc 2 1, 3) := by decide +kernel
theorem dX6_carryOut_76 : decode cX6_carryOut 76 = .ok (.goto (-39), 3) := by decide +kernel
theorem dX6_carryOut_79 : decode cX6_carryOut 79 = .ok (.aload_n 0, 1) := by decide +kernel
theorem dX6_carryOut_80 : decode cX6_carryOut 80 = .ok (.getfield 26, 3) := by decide +kernel
theorem dX6_carryOut_83 : decode cX6_carryOut 83 = .ok (.invokevirtual 203, 3) := by decide +kernel
theorem dX6_carryOut_86 : decode cX6_carryOut 86 = .ok (.pop, 1) := by decide +kernel
theorem dX6_carryOut_87 : decode cX6_carryOut 87 = .ok (.iload_n 1, 1) := by decide +kernel
theorem dX6_carryOut_88 : decode cX6_carryOut 88 = .ok (.ireturn, 1) := by decide +kernel
theorem dX6_carryOutOrder_0 : decode cX6_carryOutOrder 0 = .ok (.aload_n 0, 1) := by decide +kernel
theorem dX6_carryOutOrder_1 : decode cX6_carryOutOrder 1 = .ok (.getfield 26, 3) := by decide +kernel
theorem dX6_carryOutOrder_4 : decode cX6_carryOutOrder 4 = .ok (.iload_n 1, 1) := by decide +kernel
theorem dX6_carryOutOrder_5 : decode cX6_carryOutOrder 5 = .ok (.invokevirtual 215, 3) := by decide +kernel
theorem dX6_carryOutOrder_8 : decode cX6_carryOutOrder 8 = .ok (.lookupswitch 252 #[(43, 130), (45, 159), (98, 122), (99, 188), (100, 226), (112, 244), (114, 76), (116, 104)], 76) := by decide +kernel
theorem dX6_carryOutOrder_84 : decode cX6_carryOutOrder 84 = .ok (.aload_n 0, 1) := by decide +kernel
theorem dX6_carryOutOrder_85 : decode cX6_carryOutOrder 85 = .ok (.getfield 10, 3) := by decide +kernel
theorem dX6_carryOutOrder_88 : decode cX6_carryOutOrder 88 = .ok (.aload_n 0, 1) := by decide +kernel
theorem dX6_carryOutOrder_89 : decode cX6_carryOutOrder 89 = .ok (.getfield 26, 3) := by decide +kernel
theorem dX6_carryOutOrder_92 : decode cX6_carryOutOrder 92 = .ok (.iload_n 1, 1) := by decide +kernel
theorem dX6_carryOutOrder_93 : decode cX6_carryOutOrder 93 = .ok (.iconst 1, 1) := by decide +kernel
theorem dX6_carryOutOrder_94 : decode cX6_carryOutOrder 94 = .ok (.iadd, 1) := by decide +kernel
theorem dX6_carryOutOrder_95 : decode cX6_carryOutOrder 95 = .ok (.invokevirtual 218, 3) := by decide +kernel
theorem dX6_carryOutOrder_98 : decode cX6_carryOutOrder 98 = .ok (.aload_n 0, 1) := by decide +kernel
theorem dX6_carryOutOrder_99 : decode cX6_carryOutOrder 99 = .ok (.getfield 26, 3) := by decide +kernel
theorem dX6_carryOutOrder_102 : decode cX6_carryOutOrder 102 = .ok (.iload_n 1, 1) := by decide +kernel
theorem dX6_carryOutOrder_103 : decode cX6_carryOutOrder 103 = .ok (.iconst 2, 1) := by decide +kernel
theorem dX6_carryOutOrder_104 : decode cX6_carryOutOrder 104 = .ok (.iadd, 1) := by decide +kernel
theorem dX6_carryOutOrder_105 : decode cX6_carryOutOrder 105 = .ok (.invokevirtual 218, 3) := by decide +kernel
theorem dX6_carryOutOrder_108 : decode cX6_carryOutOrder 108 = .ok (.invokevirtual 52, 3) := by decide +kernel
theorem dX6_carryOutOrder_111 : decode cX6_carryOutOrder 111 = .ok (.ireturn, 1) := by decide +kernel
theorem dX6_carryOutOrder_112 : decode cX6_carryOutOrder 112 = .ok (.aload_n 0, 1) := by decide +kernel
theorem dX6_carryOutOrder_113 : decode cX6_carryOutOrder 113 = .ok (.getfield 10, 3) := by decide +kernel
theorem dX6_carryOutOrder_116 : decode cX6_carryOutOrder 116 = .ok (.aload_n 0, 1) := by decide +kernel
theorem dX6_carryOutOrder_117 : decode cX6_carryOutOrder 117 = .ok (.getfield 26, 3) := by decide +kernel
theorem dX6_carryOutOrder_120 : decode cX6_carryOutOrder 120 = .ok (.iload_n 1, 1) := by decide +kernel
theorem dX6_carryOutOrder_121 : decode cX6_carryOutOrder 121 = .ok (.iconst 1, 1) := by decide +kernel
theorem dX6_carryOutOrder_122 : decode cX6_carryOutOrder 122 = .ok (.iadd, 1) := by decide +kernel
theorem dX6_carryOutOrder_123 : decode cX6_carryOutOrder 123 = .ok (.invokevirtual 218, 3) := by decide +kernel
theorem dX6_carryOutOrder_126 : decode cX6_carryOutOrder 126 = .ok (.invokevirtual 55, 3) := by decide +kernel
theorem dX6_carryOutOrder_129 : decode cX6_carryOutOrder 129 = .ok (.ireturn, 1) := by decide +kernel
theorem dX6_carryOutOrder_130 : decode cX6_carryOutOrder 130 = .ok (.aload_n 0, 1) := by decide +kernel
theorem dX6_carryOutOrder_131 : decode cX6_carryOutOrder 131 = .ok (.getfield 10, 3) := by decide +kernel
theorem dX6_carryOutOrder_134 : decode cX6_carryOutOrder 134 = .ok (.invokevirtual 58, 3) := by decide +kernel
theorem dX6_carryOutOrder_137 : decode cX6_carryOutOrder 137 = .ok (.ireturn, 1) := by decide +kernel
theorem dX6_carryOutOrder_138 : decode cX6_carryOutOrder 138 = .ok (.aload_n 0, 1) := by decide +kernel
theorem dX6_carryOutOrder_139 : decode cX6_carryOutOrder 139 = .ok (.getfield 10, 3) := by decide +kernel
theorem dX6_carryOutOrder_142 : decode cX6_carryOutOrder 142 = .ok (.aload_n 0, 1) := by decide +kernel
theorem dX6_carryOutOrder_143 : decode cX6_carryOutOrder 143 = .ok (.getfield 26, 3) := by decide +kernel
theorem dX6_carryOutOrder_146 : decode cX6_carryOutOrder 146 = .ok (.iload_n 1, 1) := by decide +kernel
theorem dX6_carryOutOrder_147 : decode cX6_carryOutOrder 147 = .ok (.iconst 1, 1) := by decide +kernel
theorem dX6_carryOutOrder_148 : decode cX6_carryOutOrder 148 = .ok (.iadd, 1) := by decide +kernel
theorem dX6_carryOutOrder_149 : decode cX6_carryOutOrder 149 = .ok (.invokevirtual 218, 3) := by decide +kernel
theorem dX6_carryOutOrder_152 : decode cX6_carryOutOrder 152 = .ok (.aload_n 0, 1) := by decide +kernel
theorem dX6_carryOutOrder_153 : decode cX6_carryOutOrder 153 = .ok (.getfield 26, 3) := by decide +kernel
theorem dX6_carryOutOrder_156 : decode cX6_carryOutOrder 156 = .ok (.iload_n 1, 1) := by decide +kernel
theorem dX6_carryOutOrder_157 : decode cX6_carryOutOrder 157 = .ok (.iconst 2, 1) := by decide +kernel
theorem dX6_carryOutOrder_158 : decode cX6_carryOutOrder 158 = .ok (.iadd, 1) := by decide +kernel
theorem dX6_carryOutOrder_159 : decode cX6_carryOutOrder 159 = .ok (.invokevirtual 218, 3) := by decide +kernel
theorem dX6_carryOutOrder_162 : decode cX6_carryOutOrder 162 = .ok (.iconst 1, 1) := by decide +kernel
theorem dX6_carryOutOrder_163 : decode cX6_carryOutOrder 163 = .ok (.invokevirtual 62, 3) := by decide +kernel
theorem dX6_carryOutOrder_166 : decode cX6_carryOutOrder 166 = .ok (.ireturn, 1) := by decide +kernel
theorem dX6_carryOutOrder_167 : decode cX6_carryOutOrder 167 = .ok (.aload_n 0, 1) := by decide +kernel
theorem dX6_carryOutOrder_168 : decode cX6_carryOutOrder 168 = .ok (.getfield 10, 3) := by decide +kernel
theorem dX6_carryOutOrder_171 : decode cX6_carryOutOrder 171 = .ok (.aload_n 0, 1) := by decide +kernel
theorem dX6_carryOutOrder_172 : decode cX6_carryOutOrder 172 = .ok (.getfield 26, 3) := by decide +kernel
theorem dX6_carryOutOrder_175 : decode cX6_carryOutOrder 175 = .ok (.iload_n 1, 1) := by decide +kernel
theorem dX6_carryOutOrder_176 : decode cX6_carryOutOrder 176 = .ok (.iconst 1, 1) := by decide +kernel
theorem dX6_carryOutOrder_177 : decode cX6_carryOutOrder 177 = .ok (.iadd, 1) := by decide +kernel
theorem dX6_carryOutOrder_178 : decode cX6_carryOutOrder 178 = .ok (.invokevirtual 218, 3) := by decide +kernel
theorem dX6_carryOutOrder_181 : decode cX6_carryOutOrder 181 = .ok (.aload_n 0, 1) := by decide +kernel
theorem dX6_carryOutOrder_182 : decode cX6_carryOutOrder 182 = .ok (.getfield 26, 3) := by decide +kernel
theorem dX6_carryOutOrder_185 : decode cX6_carryOutOrder 185 = .ok (.iload_n 1, 1) := by decide +kernel
theorem dX6_carryOutOrder_186 : decode cX6_carryOutOrder 186 = .ok (.iconst 2, 1) := by decide +kernel
theorem dX6_carryOutOrder_187 : decode cX6_carryOutOrder 187 = .ok (.iadd, 1) := by decide +kernel
theorem dX6_carryOutOrder_188 : decode cX6_carryOutOrder 188 = .ok (.invokevirtual 218, 3) := by decide +kernel
theorem dX6_carryOutOrder_191 : decode cX6_carryOutOrder 191 = .ok (.iconst 0, 1) := by decide +kernel
theorem dX6_carryOutOrder_192 : decode cX6_carryOutOrder 192 = .ok (.invokevirtual 62, 3) := by decide +kernel
theorem dX6_carryOutOrder_195 : decode cX6_carryOutOrder 195 = .ok (.ireturn, 1) := by decide +kernel
theorem dX6_carryOutOrder_196 : decode cX6_carryOutOrder 196 = .ok (.aload_n 0, 1) := by decide +kernel
theorem dX6_carryOutOrder_197 : decode cX6_carryOutOrder 197 = .ok (.getfield 10, 3) := by decide +kernel
theorem dX6_carryOutOrder_200 : decode cX6_carryOutOrder 200 = .ok (.aload_n 0, 1) := by decide +kernel
theorem dX6_carryOutOrder_201 : decode cX6_carryOutOrder 201 = .ok (.getfield 26, 3) := by decide +kernel
theorem dX6_carryOutOrder_204 : decode cX6_carryOutOrder 204 = .ok (.iload_n 1, 1) := by decide +kernel
theorem dX6_carryOutOrder_205 : decode cX6_carryOutOrder 205 = .ok (.iconst 1, 1) := by decide +kernel
theorem dX6_carryOutOrder_206 : decode cX6_carryOutOrder 206 = .ok (.iadd, 1) := by decide +kernel
theorem dX6_carryOutOrder_207 : decode cX6_carryOutOrder 207 = .ok (.invokevirtual 221, 3) := by decide +kernel
theorem dX6_carryOutOrder_210 : decode cX6_carryOutOrder 210 = .ok (.aload_n 0, 1) := by decide +kernel
theorem dX6_carryOutOrder_211 : decode cX6_carryOutOrder 211 = .ok (.getfield 26, 3) := by decide +kernel
theorem dX6_carryOutOrder_214 : decode cX6_carryOutOrder 214 = .ok (.iload_n 1, 1) := by decide +kernel
theorem dX6_carryOutOrder_215 : decode cX6_carryOutOrder 215 = .ok (.iconst 2, 1) := by decide +kernel
theorem dX6_carryOutOrder_216 : decode cX6_carryOutOrder 216 = .ok (.iadd, 1) := by decide +kernel
theorem dX6_carryOutOrder_217 : decode cX6_carryOutOrder 217 = .ok (.invokevirtual 218, 3) := by decide +kernel
theorem dX6_carryOutOrder_220 : decode cX6_carryOutOrder 220 = .ok (.aload_n 0, 1) := by decide +kernel
theorem dX6_carryOutOrder_221 : decode cX6_carryOutOrder 221 = .ok (.getfield 26, 3) := by decide +kernel
theorem dX6_carryOutOrder_224 : decode cX6_carryOutOrder 224 = .ok (.iload_n 1, 1) := by decide +kernel
theorem dX6_carryOutOrder_225 : decode cX6_carryOutOrder 225 = .ok (.iconst 3, 1) := by decide +kernel
theorem dX6_carryOutOrder_226 : decode cX6_carryOutOrder 226 = .ok (.iadd, 1) := by decide +kernel
theorem dX6_carryOutOrder_227 : decode cX6_carryOutOrder 227 = .ok (.invokevirtual 218, 3) := by decide +kernel
theorem dX6_carryOutOrder_230 : decode cX6_carryOutOrder 230 = .ok (.invokevirtual 66, 3) := by decide +kernel
theorem dX6_carryOutOrder_233 : decode cX6_carryOutOrder 233 = .ok (.ireturn, 1) := by decide +kernel
theorem dX6_carryOutOrder_234 : decode cX6_carryOutOrder 234 = .ok (.aload_n 0, 1) := by decide +kernel
theorem dX6_carryOutOrder_235 : decode cX6_carryOutOrder 235 = .ok (.getfield 10, 3) := by decide +kernel
theorem dX6_carryOutOrder_238 : decode cX6_carryOutOrder 238 = .ok (.aload_n 0, 1) := by decide +kernel
theorem dX6_carryOutOrder_239 : decode cX6_carryOutOrder 239 = .ok (.getfield 26, 3) := by decide +kernel
theorem dX6_carryOutOrder_242 : decode cX6_carryOutOrder 242 = .ok (.iload_n 1, 1) := by decide +kernel
theorem dX6_carryOutOrder_243 : decode cX6_carryOutOrder 243 = .ok (.iconst 1, 1) := by decide +kernel
theorem dX6_carryOutOrder_244 : decode cX6_carryOutOrder 244 = .ok (.iadd, 1) := by decide +kernel
theorem dX6_carryOutOrder_245 : decode cX6_carryOutOrder 245 = .ok (.invokevirtual 218, 3) := by decide +kernel
theorem dX6_carryOutOrder_248 : decode cX6_carryOutOrder 248 = .ok (.invokevirtual 69, 3) := by decide +kernel
theorem dX6_carryOutOrder_251 : decode cX6_carryOutOrder 251 = .ok (.ireturn, 1) := by decide +kernel
theorem dX6_carryOutOrder_252 : decode cX6_carryOutOrder 252 = .ok (.aload_n 0, 1) := by decide +kernel
theorem dX6_carryOutOrder_253 : decode cX6_carryOutOrder 253 = .ok (.getfield 10, 3) := by decide +kernel
theorem dX6_carryOutOrder_256 : decode cX6_carryOutOrder 256 = .ok (.invokevirtual 72, 3) := by decide +kernel
theorem dX6_carryOutOrder_259 : decode cX6_carryOutOrder 259 = .ok (.ireturn, 1) := by decide +kernel
theorem dX6_carryOutOrder_260 : decode cX6_carryOutOrder 260 = .ok (.bipush (-3), 2) := by decide +kernel
theorem dX6_carryOutOrder_262 : decode cX6_carryOutOrder 262 = .ok (.ireturn, 1) := by decide +kernel
theorem dX6_undo_0 : decode cX6_undo 0 = .ok (.aload_n 0, 1) := by decide +kernel
theorem dX6_undo_1 : decode cX6_undo 1 = .ok (.getfield 19, 3) := by decide +kernel
theorem dX6_undo_4 : decode cX6_undo 4 = .ok (.aload_n 0, 1) := by decide +kernel
theorem dX6_undo_5 : decode cX6_undo 5 = .ok (.getfield 10, 3) := by decide +kernel
theorem dX6_undo_8 : decode cX6_undo 8 = .ok (.invokevirtual 224, 3) := by decide +kernel
theorem dX6_undo_11 : decode cX6_undo 11 = .ok (.ifCond .eq 13, 3) := by decide +kernel
theorem dX6_undo_14 : decode cX6_undo 14 = .ok (.aload_n 0, 1) := by decide +kernel
theorem dX6_undo_15 : decode cX6_undo 15 = .ok (.getfield 19, 3) := by decide +kernel
theorem dX6_undo_18 : decode cX6_undo 18 = .ok (.getfield 187, 3) := by decide +kernel
theorem dX6_undo_21 : decode cX6_undo 21 = .ok (.goto 5, 3) := by decide +kernel
theorem dX6_undo_24 : decode cX6_undo 24 = .ok (.bipush (-5), 2) := by decide +kernel
theorem dX6_undo_26 : decode cX6_undo 26 = .ok (.ireturn, 1) := by decide +kernel
theorem dX6_save_0 : decode cX6_save 0 = .ok (.iload_n 1, 1) := by decide +kernel
theorem dX6_save_1 : decode cX6_save 1 = .ok (.invokestatic 228, 3) := by decide +kernel
theorem dX6_save_4 : decode cX6_save 4 = .ok (.ifCond .ne 6, 3) := by decide +kernel
theorem dX6_save_7 : decode cX6_save 7 = .ok (.bipush (-2), 2) := by decide +kernel
theorem dX6_save_9 : decode cX6_save 9 = .ok (.ireturn, 1) := by decide +kernel
theorem dX6_save_10 : decode cX6_save 10 = .ok (.aload_n 0, 1) := by decide +kernel
theorem dX6_save_11 : decode cX6_save 11 = .ok (.iload_n 1, 1) := by decide +kernel
theorem dX6_save_12 : decode cX6_save 12 = .ok (.invokevirtual 231, 3) := by decide +kernel
theorem dX6_save_15 : decode cX6_save 15 = .ok (.astore_n 2, 1) := by decide +kernel
theorem dX6_save_16 : decode cX6_save 16 = .ok (.aload_n 2, 1) := by decide +kernel
theorem dX6_save_17 : decode cX6_save 17 = .ok (.getfield 235, 3) := by decide +kernel
theorem dX6_save_20 : decode cX6_save 20 = .ok (.aload_n 0, 1) := by decide +kernel
theorem dX6_save_21 : decode cX6_save 21 = .ok (.getfield 10, 3) := by decide +kernel
theorem dX6_save_24 : decode cX6_save 24 = .ok (.invokevirtual 238, 3) := by decide +kernel
theorem dX6_save_27 : decode cX6_save 27 = .ok (.aload_n 2, 1) := by decide +kernel
theorem dX6_save_28 : decode cX6_save 28 = .ok (.iconst 1, 1) := by decide +kernel
theorem dX6_save_29 : decode cX6_save 29 = .ok (.putfield 241, 3) := by decide +kernel
theorem dX6_save_32 : decode cX6_save 32 = .ok (.aload_n 0, 1) := by decide +kernel
theorem dX6_save_33 : decode cX6_save 33 = .ok (.getfield 10, 3) := by decide +kernel
theorem dX6_save_36 : decode cX6_save 36 = .ok (.getfield 125, 3) := by decide +kernel
theorem dX6_save_39 : decode cX6_save 39 = .ok (.invokestatic 143, 3) := by decide +kernel
theorem dX6_save_42 : decode cX6_save 42 = .ok (.ireturn, 1) := by decide +kernel
theorem dX6_restore_0 : decode cX6_restore 0 = .ok (.iload_n 1, 1) := by decide +kernel
theorem dX6_restore_1 : decode cX6_restore 1 = .ok (.invokestatic 228, 3) := by decide +kernel
theorem dX6_restore_4 : decode cX6_restore 4 = .ok (.ifCond .ne 6, 3) := by decide +kernel
theorem dX6_restore_7 : decode cX6_restore 7 = .ok (.bipush (-2), 2) := by decide +kernel
theorem dX6_restore_9 : decode cX6_restore 9 = .ok (.ireturn, 1) := by decide +kernel
theorem dX6_restore_10 : decode cX6_restore 10 = .ok (.aload_n 0, 1) := by decide +kernel
theorem dX6_restore_11 : decode cX6_restore 11 = .ok (.iload_n 1, 1) := by decide +kernel
theorem dX6_restore_12 : decode cX6_restore 12 = .ok (.invokevirtual 231, 3) := by decide +kernel
theorem dX6_restore_15 : decode cX6_restore 15 = .ok (.astore_n 2, 1) := by decide +kernel
theorem dX6_restore_16 : decode cX6_restore 16 = .ok (.aload_n 2, 1) := by decide +kernel
theorem dX6_restore_17 : decode cX6_restore 17 = .ok (.getfield 241, 3) := by decide +kernel
theorem dX6_restore_20 : decode cX6_restore 20 = .ok (.ifCond .ne 6, 3) := by decide +kernel
theorem dX6_restore_23 : decode cX6_restore 23 = .ok (.bipush (-5), 2) := by decide +kernel
theorem dX6_restore_25 : decode cX6_restore 25 = .ok (.ireturn, 1) := by decide +kernel
theorem dX6_restore_26 : decode cX6_restore 26 = .ok (.aload_n 0, 1) := by decide +kernel
theorem dX6_restore_27 : decode cX6_restore 27 = .ok (.getfield 19, 3) := by decide +kernel
theorem dX6_restore_30 : decode cX6_restore 30 = .ok (.aload_n 0, 1) := by decide +kernel
theorem dX6_restore_31 : decode cX6_restore 31 = .ok (.getfield 10, 3) := by decide +kernel
theorem dX6_restore_34 : decode cX6_restore 34 = .ok (.invokevirtual 40, 3) := by decide +kernel
theorem dX6_restore_37 : decode cX6_restore 37 = .ok (.aload_n 0, 1) := by decide +kernel
theorem dX6_restore_38 : decode cX6_restore 38 = .ok (.getfield 19, 3) := by decide +kernel
theorem dX6_restore_41 : decode cX6_restore 41 = .ok (.invokevirtual 75, 3) := by decide +kernel
theorem dX6_restore_44 : decode cX6_restore 44 = .ok (.aload_n 0, 1) := by decide +kernel
theorem dX6_restore_45 : decode cX6_restore 45 = .ok (.getfield 10, 3) := by decide +kernel
theorem dX6_restore_48 : decode cX6_restore 48 = .ok (.aload_n 2, 1) := by decide +kernel
theorem dX6_restore_49 : decode cX6_restore 49 = .ok (.getfield 235, 3) := by decide +kernel
theorem dX6_restore_52 : decode cX6_restore 52 = .ok (.invokevirtual 238, 3) := by decide +kernel
theorem dX6_restore_55 : decode cX6_restore 55 = .ok (.aload_n 0, 1) := by decide +kernel
theorem dX6_restore_56 : decode cX6_restore 56 = .ok (.getfield 10, 3) := by decide +kernel
theorem dX6_restore_59 : decode cX6_restore 59 = .ok (.getfield 125, 3) := by decide +kernel
theorem dX6_restore_62 : decode cX6_restore 62 = .ok (.invokestatic 143, 3) := by decide +kernel
theorem dX6_restore_65 : decode cX6_restore 65 = .ok (.ireturn, 1) := by decide +kernel
theorem dX6_slotOf_0 : decode cX6_slotOf 0 = .ok (.iload_n 1, 1) := by decide +kernel
theorem dX6_slotOf_1 : decode cX6_slotOf 1 = .ok (.ifCond .ne 10, 3) := by decide +kernel
theorem dX6_slotOf_4 : decode cX6_slotOf 4 = .ok (.aload_n 0, 1) := by decide +kernel
theorem dX6_slotOf_5 : decode cX6_slotOf 5 = .ok (.getfield 33, 3) := by decide +kernel
theorem dX6_slotOf_8 : decode cX6_slotOf 8 = .ok (.goto 7, 3) := by decide +kernel
theorem dX6_slotOf_11 : decode cX6_slotOf 11 = .ok (.aload_n 0, 1) := by decide +kernel
theorem dX6_slotOf_12 : decode cX6_slotOf 12 = .ok (.getfield 37, 3) := by decide +kernel
theorem dX6_slotOf_15 : decode cX6_slotOf 15 = .ok (.areturn, 1) := by decide +kernel
theorem dX6_isSlot_0 : decode cX6_isSlot 0 = .ok (.iload_n 0, 1) := by decide +kernel
theorem dX6_isSlot_1 : decode cX6_isSlot 1 = .ok (.ifCond .eq 8, 3) := by decide +kernel
theorem dX6_isSlot_4 : decode cX6_isSlot 4 = .ok (.iload_n 0, 1) := by decide +kernel
theorem dX6_isSlot_5 : decode cX6_isSlot 5 = .ok (.iconst 1, 1) := by decide +kernel
theorem dX6_isSlot_6 : decode cX6_isSlot 6 = .ok (.if_icmp .ne 7, 3) := by decide +kernel
theorem dX6_isSlot_9 : decode cX6_isSlot 9 = .ok (.iconst 1, 1) := by decide +kernel
theorem dX6_isSlot_10 : decode cX6_isSlot 10 = .ok (.goto 4, 3) := by decide +kernel
theorem dX6_isSlot_13 : decode cX6_isSlot 13 = .ok (.iconst 0, 1) := by decide +kernel
theorem dX6_isSlot_14 : decode cX6_isSlot 14 = .ok (.ireturn, 1) := by decide +kernel
theorem dX6_isPlayer_0 : decode cX6_isPlayer 0 = .ok (.iload_n 0, 1) := by decide +kernel
theorem dX6_isPlayer_1 : decode cX6_isPlayer 1 = .ok (.ifCond .lt 12, 3) := by decide +kernel
theorem dX6_isPlayer_4 : decode cX6_isPlayer 4 = .ok (.iload_n 0, 1) := by decide +kernel
theorem dX6_isPlayer_5 : decode cX6_isPlayer 5 = .ok (.iconst 3, 1) := by decide +kernel
theorem dX6_isPlayer_6 : decode cX6_isPlayer 6 = .ok (.if_icmp .ge 7, 3) := by decide +kernel
theorem dX6_isPlayer_9 : decode cX6_isPlayer 9 = .ok (.iconst 1, 1) := by decide +kernel
theorem dX6_isPlayer_10 : decode cX6_isPlayer 10 = .ok (.goto 4, 3) := by decide +kernel
theorem dX6_isPlayer_13 : decode cX6_isPlayer 13 = .ok (.iconst 0, 1) := by decide +kernel
theorem dX6_isPlayer_14 : decode cX6_isPlayer 14 = .ok (.ireturn, 1) := by decide +kernel
theorem dX6_isIn_0 : decode cX6_isIn 0 = .ok (.iload_n 0, 1) := by decide +kernel
theorem dX6_isIn_1 : decode cX6_isIn 1 = .ok (.iload_n 1, 1) := by decide +kernel
theorem dX6_isIn_2 : decode cX6_isIn 2 = .ok (.iand, 1) := by decide +kernel
theorem dX6_isIn_3 : decode cX6_isIn 3 = .ok (.ifCond .eq 7, 3) := by decide +kernel
theorem dX6_isIn_6 : decode cX6_isIn 6 = .ok (.iconst 1, 1) := by decide +kernel
theorem dX6_isIn_7 : decode cX6_isIn 7 = .ok (.goto 4, 3) := by decide +kernel
theorem dX6_isIn_10 : decode cX6_isIn 10 = .ok (.iconst 0, 1) := by decide +kernel
theorem dX6_isIn_11 : decode cX6_isIn 11 = .ok (.ireturn, 1) := by decide +kernel
theorem dX6_copyRow_0 : decode cX6_copyRow 0 = .ok (.aload_n 0, 1) := by decide +kernel
theorem dX6_copyRow_1 : decode cX6_copyRow 1 = .ok (.iconst 0, 1) := by decide +kernel
theorem dX6_copyRow_2 : decode cX6_copyRow 2 = .ok (.aload_n 1, 1) := by decide +kernel
theorem dX6_copyRow_3 : decode cX6_copyRow 3 = .ok (.iconst 0, 1) := by decide +kernel
theorem dX6_copyRow_4 : decode cX6_copyRow 4 = .ok (.aload_n 0, 1) := by decide +kernel
theorem dX6_copyRow_5 : decode cX6_copyRow 5 = .ok (.arraylength, 1) := by decide +kernel
theorem dX6_copyRow_6 : decode cX6_copyRow 6 = .ok (.aload_n 1, 1) := by decide +kernel
theorem dX6_copyRow_7 : decode cX6_copyRow 7 = .ok (.arraylength, 1) := by decide +kernel
theorem dX6_copyRow_8 : decode cX6_copyRow 8 = .ok (.invokestatic 244, 3) := by decide +kernel
theorem dX6_copyRow_11 : decode cX6_copyRow 11 = .ok (.invokestatic 249, 3) := by decide +kernel
theorem dX6_copyRow_14 : decode cX6_copyRow 14 = .ok (.return_, 1) := by decide +kernel
theorem dX7_init_0 : decode cX7_init 0 = .ok (.aload_n 0, 1) := by decide +kernel
theorem dX7_init_1 : decode cX7_init 1 = .ok (.invokespecial 1, 3) := by decide +kernel
theorem dX7_init_4 : decode cX7_init 4 = .ok (.aload_n 0, 1) := by decide +kernel
theorem dX7_init_5 : decode cX7_init 5 = .ok (.sipush 182, 3) := by decide +kernel
theorem dX7_init_8 : decode cX7_init 8 = .ok (.newarray .int, 2) := by decide +kernel
theorem dX7_init_10 : decode cX7_init 10 = .ok (.putfield 7, 3) := by decide +kernel
theorem dX7_init_13 : decode cX7_init 13 = .ok (.aload_n 0, 1) := by decide +kernel
theorem dX7_init_14 : decode cX7_init 14 = .ok (.sipush 1092, 3) := by decide +kernel
theorem dX7_init_17 : decode cX7_init 17 = .ok (.newarray .int, 2) := by decide +kernel
theorem dX7_init_19 : decode cX7_init 19 = .ok (.putfield 13, 3) := by decide +kernel
theorem dX7_init_22 : decode cX7_init 22 = .ok (.aload_n 0, 1) := by decide +kernel
theorem dX7_init_23 : decode cX7_init 23 = .ok (.sipush 364, 3) := by decide +kernel
theorem dX7_init_26 : decode cX7_init 26 = .ok (.newarray .int, 2) := by decide +kernel
theorem dX7_init_28 : decode cX7_init 28 = .ok (.putfield 16, 3) := by decide +kernel
theorem dX7_init_31 : decode cX7_init 31 = .ok (.aload_n 0, 1) := by decide +kernel
theorem dX7_init_32 : decode cX7_init 32 = .ok (.iconst 2, 1) := by decide +kernel
theorem dX7_init_33 : decode cX7_init 33 = .ok (.newarray .boolean, 2) := by decide +kernel
theorem dX7_init_35 : decode cX7_init 35 = .ok (.putfield 19, 3) := by decide +kernel
theorem dX7_init_38 : decode cX7_init 38 = .ok (.aload_n 0, 1) := by decide +kernel
theorem dX7_init_39 : decode cX7_init 39 = .ok (.bipush 80, 2) := by decide +kernel
theorem dX7_init_41 : decode cX7_init 41 = .ok (.newarray .int, 2) := by decide +kernel
theorem dX7_init_43 : decode cX7_init 43 = .ok (.putfield 23, 3) := by decide +kernel
theorem dX7_init_46 : decode cX7_init 46 = .ok (.aload_n 0, 1) := by decide +kernel
theorem dX7_init_47 : decode cX7_init 47 = .ok (.bipush 8, 2) := by decide +kernel
theorem dX7_init_49 : decode cX7_init 49 = .ok (.newarray .int, 2) := by decide +kernel
theorem dX7_init_51 : decode cX7_init 51 = .ok (.putfield 26, 3) := by decide +kernel
theorem dX7_init_54 : decode cX7_init 54 = .ok (.iconst 0, 1) := by decide +kernel
theorem dX7_init_55 : decode cX7_init 55 = .ok (.istore_n 1, 1) := by decide +kernel
theorem dX7_init_56 : decode cX7_init 56 = .ok (.iload_n 1, 1) := by decide +kernel
theorem dX7_init_57 : decode cX7_init 57 = .ok (.iconst 3, 1) := by decide +kernel
theorem dX7_init_58 : decode cX7_init 58 = .ok (.if_icmp .ge 20, 3) := by decide +kernel
theorem dX7_init_61 : decode cX7_init 61 = .ok (.aload_n 0, 1) := by decide +kernel
theorem dX7_init_62 : decode cX7_init 62 = .ok (.getfield 7, 3) := by decide +kernel
theorem dX7_init_65 : decode cX7_init 65 = .ok (.bipush 8, 2) := by decide +kernel
theorem dX7_init_67 : decode cX7_init 67 = .ok (.iload_n 1, 1) := by decide +kernel
theorem dX7_init_68 : decode cX7_init 68 = .ok (.iadd, 1) := by decide +kernel
theorem dX7_init_69 : decode cX7_init 69 = .ok (.bipush 20, 2) := by decide +kernel
theorem dX7_init_71 : decode cX7_init 71 = .ok (.iastore, 1) := by decide +kernel
theorem dX7_init_72 : decode cX7_init 72 = .ok (.iinc 1 1, 3) := by decide +kernel
theorem dX7_init_75 : decode cX7_init 75 = .ok (.goto (-19), 3) := by decide +kernel
theorem dX7_init_78 : decode cX7_init 78 = .ok (.aload_n 0, 1) := by decide +kernel
theorem dX7_init_79 : decode cX7_init 79 = .ok (.getfield 7, 3) := by decide +kernel
theorem dX7_init_82 : decode cX7_init 82 = .ok (.iconst 2, 1) := by decide +kernel
theorem dX7_init_83 : decode cX7_init 83 = .ok (.iconst 2, 1) := by decide +kernel
theorem dX7_init_84 : decode cX7_init 84 = .ok (.iastore, 1) := by decide +kernel
theorem dX7_init_85 : decode cX7_init 85 = .ok (.aload_n 0, 1) := by decide +kernel
theorem dX7_init_86 : decode cX7_init 86 = .ok (.getfield 7, 3) := by decide +kernel
theorem dX7_init_89 : decode cX7_init 89 = .ok (.iconst 3, 1) := by decide +kernel
theorem dX7_init_90 : decode cX7_init 90 = .ok (.iconst 5, 1) := by decide +kernel
theorem dX7_init_91 : decode cX7_init 91 = .ok (.iastore, 1) := by decide +kernel
theorem dX7_init_92 : decode cX7_init 92 = .ok (.aload_n 0, 1) := by decide +kernel
theorem dX7_init_93 : decode cX7_init 93 = .ok (.getfield 7, 3) := by decide +kernel
theorem dX7_init_96 : decode cX7_init 96 = .ok (.iconst 4, 1) := by decide +kernel
theorem dX7_init_97 : decode cX7_init 97 = .ok (.iconst 4, 1) := by decide +kernel
theorem dX7_init_98 : decode cX7_init 98 = .ok (.iastore, 1) := by decide +kernel
theorem dX7_init_99 : decode cX7_init 99 = .ok (.aload_n 0, 1) := by decide +kernel
theorem dX7_init_100 : decode cX7_init 100 = .ok (.getfield 7, 3) := by decide +kernel
theorem dX7_init_103 : decode cX7_init 103 = .ok (.iconst 5, 1) := by decide +kernel
theorem dX7_init_104 : decode cX7_init 104 = .ok (.bipush 40, 2) := by decide +kernel
theorem dX7_init_106 : decode cX7_init 106 = .ok (.iastore, 1) := by decide +kernel
theorem dX7_init_107 : decode cX7_init 107 = .ok (.aload_n 0, 1) := by decide +kernel
theorem dX7_init_108 : decode cX7_init 108 = .ok (.getfield 7, 3) := by decide +kernel
theorem dX7_init_111 : decode cX7_init 111 = .ok (.bipush 30, 2) := by decide +kernel
theorem dX7_init_113 : decode cX7_init 113 = .ok (.bipush (-6), 2) := by decide +kernel
theorem dX7_init_115 : decode cX7_init 115 = .ok (.iastore, 1) := by decide +kernel
theorem dX7_init_116 : decode cX7_init 116 = .ok (.return_, 1) := by decide +kernel
theorem dX7_in_0 : decode cX7_in 0 = .ok (.iload_n 0, 1) := by decide +kernel
theorem dX7_in_1 : decode cX7_in 1 = .ok (.iload_n 1, 1) := by decide +kernel
theorem dX7_in_2 : decode cX7_in 2 = .ok (.if_icmp .lt 12, 3) := by decide +kernel
theorem dX7_in_5 : decode cX7_in 5 = .ok (.iload_n 0, 1) := by decide +kernel
theorem dX7_in_6 : decode cX7_in 6 = .ok (.iload_n 2, 1) := by decide +kernel
theorem dX7_in_7 : decode cX7_in 7 = .ok (.if_icmp .gt 7, 3) := by decide +kernel
theorem dX7_in_10 : decode cX7_in 10 = .ok (.iconst 1, 1) := by decide +kernel
theorem dX7_in_11 : decode cX7_in 11 = .ok (.goto 4, 3) := by decide +kernel
theorem dX7_in_14 : decode cX7_in 14 = .ok (.iconst 0, 1) := by decide +kernel
theorem dX7_in_15 : decode cX7_in 15 = .ok (.ireturn, 1) := by decide +kernel
theorem dX7_isPlace_0 : decode cX7_isPlace 0 = .ok (.iload_n 0, 1) := by decide +kernel
theorem dX7_isPlace_1 : decode cX7_isPlace 1 = .ok (.iconst 0, 1) := by decide +kernel
theorem dX7_isPlace_2 : decode cX7_isPlace 2 = .ok (.bipush 7, 2) := by decide +kernel
theorem dX7_isPlace_4 : decode cX7_isPlace 4 = .ok (.invokestatic 29, 3) := by decide +kernel
theorem dX7_isPlace_7 : decode cX7_isPlace 7 = .ok (.ireturn, 1) := by decide +kernel
theorem dX7_isPlayer_0 : decode cX7_isPlayer 0 = .ok (.iload_n 0, 1) := by decide +kernel
theorem dX7_isPlayer_1 : decode cX7_isPlayer 1 = .ok (.iconst 0, 1) := by decide +kernel
theorem dX7_isPlayer_2 : decode cX7_isPlayer 2 = .ok (.iconst 2, 1) := by decide +kernel
theorem dX7_isPlayer_3 : decode cX7_isPlayer 3 = .ok (.invokestatic 29, 3) := by decide +kernel
theorem dX7_isPlayer_6 : decode cX7_isPlayer 6 = .ok (.ireturn, 1) := by decide +kernel
theorem dX7_records_0 : decode cX7_records 0 = .ok (.aload_n 0, 1) := by decide +kernel
theorem dX7_records_1 : decode cX7_records 1 = .ok (.getfield 33, 3) := by decide +kernel
theorem dX7_records_4 : decode cX7_records 4 = .ok (.bipush 6, 2) := by decide +kernel
theorem dX7_records_6 : decode cX7_records 6 = .ok (.if_icmp .ne 44, 3) := by decide +kernel
theorem dX7_records_9 : decode cX7_records 9 = .ok (.iconst 0, 1) := by decide +kernel
theorem dX7_records_10 : decode cX7_records 10 = .ok (.istore_n 1, 1) := by decide +kernel
theorem dX7_records_11 : decode cX7_records 11 = .ok (.iload_n 1, 1) := by decide +kernel
theorem dX7_records_12 : decode cX7_records 12 = .ok (.sipush 910, 3) := by decide +kernel
theorem dX7_records_15 : decode cX7_records 15 = .ok (.if_icmp .ge 25, 3) := by decide +kernel
theorem dX7_records_18 : decode cX7_records 18 = .ok (.aload_n 0, 1) := by decide +kernel
theorem dX7_records_19 : decode cX7_records 19 = .ok (.getfield 13, 3) := by decide +kernel
theorem dX7_records_22 : decode cX7_records 22 = .ok (.iload_n 1, 1) := by decide +kernel
theorem dX7_records_23 : decode cX7_records 23 = .ok (.aload_n 0, 1) := by decide +kernel
theorem dX7_records_24 : decode cX7_records 24 = .ok (.getfield 13, 3) := by decide +kernel
theorem dX7_records_27 : decode cX7_records 27 = .ok (.sipush 182, 3) := by decide +kernel
theorem dX7_records_30 : decode cX7_records 30 = .ok (.iload_n 1, 1) := by decide +kernel
theorem dX7_records_31 : decode cX7_records 31 = .ok (.iadd, 1) := by decide +kernel
theorem dX7_records_32 : decode cX7_records 32 = .ok (.iaload, 1) := by decide +kernel
theorem dX7_records_33 : decode cX7_records 33 = .ok (.iastore, 1) := by decide +kernel
theorem dX7_records_34 : decode cX7_records 34 = .ok (.iinc 1 1, 3) := by decide +kernel
theorem dX7_records_37 : decode cX7_records 37 = .ok (.goto (-26), 3) := by decide +kernel
theorem dX7_records_40 : decode cX7_records 40 = .ok (.aload_n 0, 1) := by decide +kernel
theorem dX7_records_41 : decode cX7_records 41 = .ok (.dup, 1) := by decide +kernel
theorem dX7_records_42 : decode cX7_records 42 = .ok (.getfield 33, 3) := by decide +kernel
theorem dX7_records_45 : decode cX7_records 45 = .ok (.iconst 1, 1) := by decide +kernel
theorem dX7_records_46 : decode cX7_records 46 = .ok (.isub, 1) := by decide +kernel
theorem dX7_records_47 : decode cX7_records 47 = .ok (.putfield 33, 3) := by decide +kernel
theorem dX7_records_50 : decode cX7_records 50 = .ok (.iconst 0, 1) := by decide +kernel
theorem dX7_records_51 : decode cX7_records 51 = .ok (.istore_n 1, 1) := by decide +kernel
theorem dX7_records_52 : decode cX7_records 52 = .ok (.iload_n 1, 1) := by decide +kernel
theorem dX7_records_53 : decode cX7_records 53 = .ok (.sipush 182, 3) := by decide +kernel
theorem dX7_records_56 : decode cX7_records 56 = .ok (.if_icmp .ge 30, 3) := by decide +kernel
theorem dX7_records_59 : decode cX7_records 59 = .ok (.aload_n 0, 1) := by decide +kernel
theorem dX7_records_60 : decode cX7_records 60 = .ok (.getfield 13, 3) := by decide +kernel
theorem dX7_records_63 : decode cX7_records 63 = .ok (.sipush 182, 3) := by decide +kernel
theorem dX7_records_66 : decode cX7_records 66 = .ok (.aload_n 0, 1) := by decide +kernel
theorem dX7_records_67 : decode cX7_records 67 = .ok (.getfield 33, 3) := by decide +kernel
theorem dX7_records_70 : decode cX7_records 70 = .ok (.imul, 1) := by decide +kernel
theorem dX7_records_71 : decode cX7_records 71 = .ok (.iload_n 1, 1) := by decide +kernel
theorem dX7_records_72 : decode cX7_records 72 = .ok (.iadd, 1) := by decide +kernel
theorem dX7_records_73 : decode cX7_records 73 = .ok (.aload_n 0, 1) := by decide +kernel
theorem dX7_records_74 : decode cX7_records 74 = .ok (.getfield 7, 3) := by decide +kernel
theorem dX7_records_77 : decode cX7_records 77 = .ok (.iload_n 1, 1) := by decide +kernel
theorem dX7_records_78 : decode cX7_records 78 = .ok (.iaload, 1) := by decide +kernel
theorem dX7_records_79 : decode cX7_records 79 = .ok (.iastore, 1) := by decide +kernel
theorem dX7_records_80 : decode cX7_records 80 = .ok (.iinc 1 1, 3) := by decide +kernel
theorem dX7_records_83 : decode cX7_records 83 = .ok (.goto (-31), 3) := by decide +kernel
theorem dX7_records_86 : decode cX7_records 86 = .ok (.aload_n 0, 1) := by decide +kernel
theorem dX7_records_87 : decode cX7_records 87 = .ok (.dup, 1) := by decide +kernel
theorem dX7_records_88 : decode cX7_records 88 = .ok (.getfield 33, 3) := by decide +kernel
theorem dX7_records_91 : decode cX7_records 91 = .ok (.iconst 1, 1) := by decide +kernel
theorem dX7_records_92 : decode cX7_records 92 = .ok (.iadd, 1) := by decide +kernel
theorem dX7_records_93 : decode cX7_records 93 = .ok (.putfield 33, 3) := by decide +kernel
theorem dX7_records_96 : decode cX7_records 96 = .ok (.return_, 1) := by decide +kernel
theorem dX7_edge_0 : decode cX7_edge 0 = .ok (.iload_n 0, 1) := by decide +kernel
theorem dX7_edge_1 : decode cX7_edge 1 = .ok (.iload_n 1, 1) := by decide +kernel
theorem dX7_edge_2 : decode cX7_edge 2 = .ok (.if_icmp .ge 7, 3) := by decide +kernel
theorem dX7_edge_5 : decode cX7_edge 5 = .ok (.iload_n 0, 1) := by decide +kernel
theorem dX7_edge_6 : decode cX7_edge 6 = .ok (.goto 4, 3) := by decide +kernel
theorem dX7_edge_9 : decode cX7_edge 9 = .ok (.iload_n 1, 1) := by decide +kernel
theorem dX7_edge_10 : decode cX7_edge 10 = .ok (.istore_n 2, 1) := by decide +kernel
theorem dX7_edge_11 : decode cX7_edge 11 = .ok (.iload_n 0, 1) := by decide +kernel
theorem dX7_edge_12 : decode cX7_edge 12 = .ok (.iload_n 1, 1) := by decide +kernel
theorem dX7_edge_13 : decode cX7_edge 13 = .ok (.if_icmp .ge 7, 3) := by decide +kernel
theorem dX7_edge_16 : decode cX7_edge 16 = .ok (.iload_n 1, 1) := by decide +kernel
theorem dX7_edge_17 : decode cX7_edge 17 = .ok (.goto 4, 3) := by decide +kernel
theorem dX7_edge_20 : decode cX7_edge 20 = .ok (.iload_n 0, 1) := by decide +kernel
theorem dX7_edge_21 : decode cX7_edge 21 = .ok (.istore_n 3, 1) := by decide +kernel
theorem dX7_edge_22 : decode cX7_edge 22 = .ok (.iload_n 2, 1) := by decide +kernel
theorem dX7_edge_23 : decode cX7_edge 23 = .ok (.bipush 15, 2) := by decide +kernel
theorem dX7_edge_25 : decode cX7_edge 25 = .ok (.iload_n 2, 1) := by decide +kernel
theorem dX7_edge_26 : decode cX7_edge 26 = .ok (.isub, 1) := by decide +kernel
theorem dX7_edge_27 : decode cX7_edge 27 = .ok (.imul, 1) := by decide +kernel
theorem dX7_edge_28 : decode cX7_edge 28 = .ok (.iconst 2, 1) := by decide +kernel
theorem dX7_edge_29 : decode cX7_edge 29 = .ok (.idiv, 1) := by decide +kernel
theorem dX7_edge_30 : decode cX7_edge 30 = .ok (.iload_n 3, 1) := by decide +kernel
theorem dX7_edge_31 : decode cX7_edge 31 = .ok (.iadd, 1) := by decide +kernel
theorem dX7_edge_32 : decode cX7_edge 32 = .ok (.iload_n 2, 1) := by decide +kernel
theorem dX7_edge_33 : decode cX7_edge 33 = .ok (.isub, 1) := by decide +kernel
theorem dX7_edge_34 : decode cX7_edge 34 = .ok (.iconst 1, 1) := by decide +kernel
theorem dX7_edge_35 : decode cX7_edge 35 = .ok (.isub, 1) := by decide +kernel
theorem dX7_edge_36 : decode cX7_edge 36 = .ok (.ireturn, 1) := by decide +kernel
theorem dX7_around_0 : decode cX7_around 0 = .ok (.iconst 0, 1) := by decide +kernel
theorem dX7_around_1 : decode cX7_around 1 = .ok (.istore_n 1, 1) := by decide +kernel
theorem dX7_around_2 : decode cX7_around 2 = .ok (.iconst 0, 1) := by decide +kernel
theorem dX7_around_3 : decode cX7_around 3 = .ok (.istore_n 2, 1) := by decide +kernel
theorem dX7_around_4 : decode cX7_around 4 = .ok (.iload_n 2, 1) := by decide +kernel
theorem dX7_around_5 : decode cX7_around 5 = .ok (.bipush 8, 2) := by decide +kernel
theorem dX7_around_7 : decode cX7_around 7 = .ok (.if_icmp .ge 28, 3) := by decide +kernel
theorem dX7_around_10 : decode cX7_around 10 = .ok (.iload_n 1, 1) := by decide +kernel
theorem dX7_around_11 : decode cX7_around 11 = .ok (.iload_n 2, 1) := by decide +kernel
theorem dX7_around_12 : decode cX7_around 12 = .ok (.iload_n 0, 1) := by decide +kernel
theorem dX7_around_13 : decode cX7_around 13 = .ok (.if_icmp .ne 7, 3) := by decide +kernel
theorem dX7_around_16 : decode cX7_around 16 = .ok (.iconst 0, 1) := by decide +kernel
theorem dX7_around_17 : decode cX7_around 17 = .ok (.goto 10, 3) := by decide +kernel
theorem dX7_around_20 : decode cX7_around 20 = .ok (.iconst 1, 1) := by decide +kernel
theorem dX7_around_21 : decode cX7_around 21 = .ok (.iload_n 0, 1) := by decide +kernel
theorem dX7_around_22 : decode cX7_around 22 = .ok (.iload_n 2, 1) := by decide +kernel
theorem dX7_around_23 : decode cX7_around 23 = .ok (.invokestatic 37, 3) := by decide +kernel
theorem dX7_around_26 : decode cX7_around 26 = .ok (.ishl, 1) := by decide +kernel
theorem dX7_around_27 : decode cX7_around 27 = .ok (.ior, 1) := by decide +kernel
theorem dX7_around_28 : decode cX7_around 28 = .ok (.istore_n 1, 1) := by decide +kernel
theorem dX7_around_29 : decode cX7_around 29 = .ok (.iinc 2 1, 3) := by decide +kernel
theorem dX7_around_32 : decode cX7_around 32 = .ok (.goto (-28), 3) := by decide +kernel
theorem dX7_around_35 : decode cX7_around 35 = .ok (.iload_n 1, 1) := by decide +kernel
theorem dX7_around_36 : decode cX7_around 36 = .ok (.ireturn, 1) := by decide +kernel
theorem dX7_many_0 : decode cX7_many 0 = .ok (.iconst 0, 1) := by decide +kernel
theorem dX7_many_1 : decode cX7_many 1 = .ok (.istore_n 1, 1) := by decide +kernel
theorem dX7_many_2 : decode cX7_many 2 = .ok (.iload_n 0, 1) := by decide +kernel
theorem dX7_many_3 : decode cX7_many 3 = .ok (.istore_n 2, 1) := by decide +kernel
theorem dX7_many_4 : decode cX7_many 4 = .ok (.iload_n 2, 1) := by decide +kernel
theorem dX7_many_5 : decode cX7_many 5 = .ok (.ifCond .eq 15, 3) := by decide +kernel
theorem dX7_many_8 : decode cX7_many 8 = .ok (.iinc 1 1, 3) := by decide +kernel
theorem dX7_many_11 : decode cX7_many 11 = .ok (.iload_n 2, 1) := by decide +kernel
theorem dX7_many_12 : decode cX7_many 12 = .ok (.iload_n 2, 1) := by decide +kernel
theorem dX7_many_13 : decode cX7_many 13 = .ok (.iconst 1, 1) := by decide +kernel
theorem dX7_many_14 : decode cX7_many 14 = .ok (.isub, 1) := by decide +kernel
theorem dX7_many_15 : decode cX7_many 15 = .ok (.iand, 1) := by decide +kernel
theorem dX7_many_16 : decode cX7_many 16 = .ok (.istore_n 2, 1) := by decide +kernel
theorem dX7_many_17 : decode cX7_many 17 = .ok (.goto (-13), 3) := by decide +kernel
theorem dX7_many_20 : decode cX7_many 20 = .ok (.iload_n 1, 1) := by decide +kernel
theorem dX7_many_21 : decode cX7_many 21 = .ok (.ireturn, 1) := by decide +kernel
theorem dX7_measures_0 : decode cX7_measures 0 = .ok (.iconst 0, 1) := by decide +kernel
theorem dX7_measures_1 : decode cX7_measures 1 = .ok (.istore_n 3, 1) := by decide +kernel
theorem dX7_measures_2 : decode cX7_measures 2 = .ok (.iload_n 3, 1) := by decide +kernel
theorem dX7_measures_3 : decode cX7_measures 3 = .ok (.bipush 8, 2) := by decide +kernel
theorem dX7_measures_5 : decode cX7_measures 5 = .ok (.if_icmp .ge 26, 3) := by decide +kernel
theorem dX7_measures_8 : decode cX7_measures 8 = .ok (.aload_n 0, 1) := by decide +kernel
theorem dX7_measures_9 : decode cX7_measures 9 = .ok (.getfield 26, 3) := by decide +kernel
theorem dX7_measures_12 : decode cX7_measures 12 = .ok (.iload_n 3, 1) := by decide +kernel
theorem dX7_measures_13 : decode cX7_measures 13 = .ok (.iload_n 3, 1) := by decide +kernel
theorem dX7_measures_14 : decode cX7_measures 14 = .ok (.iload_n 1, 1) := by decide +kernel
theorem dX7_measures_15 : decode cX7_measures 15 = .ok (.if_icmp .ne 7, 3) := by decide +kernel
theorem dX7_measures_18 : decode cX7_measures 18 = .ok (.iconst 0, 1) := by decide +kernel
theorem dX7_measures_19 : decode cX7_measures 19 = .ok (.goto 5, 3) := by decide +kernel
theorem dX7_measures_22 : decode cX7_measures 22 = .ok (.bipush 99, 2) := by decide +kernel
theorem dX7_measures_24 : decode cX7_measures 24 = .ok (.iastore, 1) := by decide +kernel
theorem dX7_measures_25 : decode cX7_measures 25 = .ok (.iinc 3 1, 3) := by decide +kernel
theorem dX7_measures_28 : decode cX7_measures 28 = .ok (.goto (-26), 3) := by decide +kernel
theorem dX7_measures_31 : decode cX7_measures 31 = .ok (.iconst 0, 1) := by decide +kernel
theorem dX7_measures_32 : decode cX7_measures 32 = .ok (.istore_n 3, 1) := by decide +kernel
theorem dX7_measures_33 : decode cX7_measures 33 = .ok (.iload_n 3, 1) := by decide +kernel
theorem dX7_measures_34 : decode cX7_measures 34 = .ok (.bipush 8, 2) := by decide +kernel
theorem dX7_measures_36 : decode cX7_measures 36 = .ok (.if_icmp .ge 132, 3) := by decide +kernel
theorem dX7_measures_39 : decode cX7_measures 39 = .ok (.iconst 0, 1) := by decide +kernel
theorem dX7_measures_40 : decode cX7_measures 40 = .ok (.istore 4, 2) := by decide +kernel
theorem dX7_measures_42 : decode cX7_measures 42 = .ok (.iload 4, 2) := by decide +kernel
theorem dX7_measures_44 : decode cX7_measures 44 = .ok (.bipush 8, 2) := by decide +kernel
theorem dX7_measures_46 : decode cX7_measures 46 = .ok (.if_icmp .ge 116, 3) := by decide +kernel
theorem dX7_measures_49 : decode cX7_measures 49 = .ok (.iconst 0, 1) := by decide +kernel
theorem dX7_measures_50 : decode cX7_measures 50 = .ok (.istore 5, 2) := by decide +kernel
theorem dX7_measures_52 : decode cX7_measures 52 = .ok (.iload 5, 2) := by decide +kernel
theorem dX7_measures_54 : decode cX7_measures 54 = .ok (.bipush 8, 2) := by decide +kernel
theorem dX7_measures_56 : decode cX7_measures 56 = .ok (.if_icmp .ge 100, 3) := by decide +kernel
theorem dX7_measures_59 : decode cX7_measures 59 = .ok (.iload 4, 2) := by decide +kernel
theorem dX7_measures_61 : decode cX7_measures 61 = .ok (.iload 5, 2) := by decide +kernel
theorem dX7_measures_63 : decode cX7_measures 63 = .ok (.if_icmp .eq 34, 3) := by decide +kernel
theorem dX7_measures_66 : decode cX7_measures 66 = .ok (.iload_n 2, 1) := by decide +kernel
theorem dX7_measures_67 : decode cX7_measures 67 = .ok (.iload 4, 2) := by decide +kernel
theorem dX7_measures_69 : decode cX7_measures 69 = .ok (.iload 5, 2) := by decide +kernel
theorem dX7_measures_71 : decode cX7_measures 71 = .ok (.invokestatic 37, 3) := by decide +kernel
theorem dX7_measures_74 : decode cX7_measures 74 = .ok (.ishr, 1) := by decide +kernel
theorem dX7_measures_75 : decode cX7_measures 75 = .ok (.iconst 1, 1) := by decide +kernel
theorem dX7_measures_76 : decode cX7_measures 76 = .ok (.iand, 1) := by decide +kernel
theorem dX7_measures_77 : decode cX7_measures 77 = .ok (.iconst 1, 1) := by decide +kernel
theorem dX7_measures_78 : decode cX7_measures 78 = .ok (.if_icmp .ne 19, 3) := by decide +kernel
theorem dX7_measures_81 : decode cX7_measures 81 = .ok (.aload_n 0, 1) := by decide +kernel
theorem dX7_measures_82 : decode cX7_measures 82 = .ok (.getfield 26, 3) := by decide +kernel
theorem dX7_measures_85 : decode cX7_measures 85 = .ok (.iload 4, 2) := by decide +kernel
theorem dX7_measures_87 : decode cX7_measures 87 = .ok (.iaload, 1) := by decide +kernel
theorem dX7_measures_88 : decode cX7_measures 88 = .ok (.bipush 99, 2) := by decide +kernel
theorem dX7_measures_90 : decode cX7_measures 90 = .ok (.if_icmp .ge 7, 3) := by decide +kernel
theorem dX7_measures_93 : decode cX7_measures 93 = .ok (.iconst 1, 1) := by decide +kernel
theorem dX7_measures_94 : decode cX7_measures 94 = .ok (.goto 4, 3) := by decide +kernel
theorem dX7_measures_97 : decode cX7_measures 97 = .ok (.iconst 0, 1) := by decide +kernel
theorem dX7_measures_98 : decode cX7_measures 98 = .ok (.istore 6, 2) := by decide +kernel
theorem dX7_measures_100 : decode cX7_measures 100 = .ok (.aload_n 0, 1) := by decide +kernel
theorem dX7_measures_101 : decode cX7_measures 101 = .ok (.getfield 26, 3) := by decide +kernel
theorem dX7_measures_104 : decode cX7_measures 104 = .ok (.iload 5, 2) := by decide +kernel
theorem dX7_measures_106 : decode cX7_measures 106 = .ok (.iload 6, 2) := by decide +kernel
theorem dX7_measures_108 : decode cX7_measures 108 = .ok (.ifCond .eq 34, 3) := by decide +kernel
theorem dX7_measures_111 : decode cX7_measures 111 = .ok (.aload_n 0, 1) := by decide +kernel
theorem dX7_measures_112 : decode cX7_measures 112 = .ok (.getfield 26, 3) := by decide +kernel
theorem dX7_measures_115 : decode cX7_measures 115 = .ok (.iload 4, 2) := by decide +kernel
theorem dX7_measures_117 : decode cX7_measures 117 = .ok (.iaload, 1) := by decide +kernel
theorem dX7_measures_118 : decode cX7_measures 118 = .ok (.iconst 1, 1) := by decide +kernel
theorem dX7_measures_119 : decode cX7_measures 119 = .ok (.iadd, 1) := by decide +kernel
theorem dX7_measures_120 : decode cX7_measures 120 = .ok (.aload_n 0, 1) := by decide +kernel
theorem dX7_measures_121 : decode cX7_measures 121 = .ok (.getfield 26, 3) := by decide +kernel
theorem dX7_measures_124 : decode cX7_measures 124 = .ok (.iload 5, 2) := by decide +kernel
theorem dX7_measures_126 : decode cX7_measures 126 = .ok (.iaload, 1) := by decide +kernel
theorem dX7_measures_127 : decode cX7_measures 127 = .ok (.if_icmp .ge 15, 3) := by decide +kernel
theorem dX7_measures_130 : decode cX7_measures 130 = .ok (.aload_n 0, 1) := by decide +kernel
theorem dX7_measures_131 : decode cX7_measures 131 = .ok (.getfield 26, 3) := by decide +kernel
theorem dX7_measures_134 : decode cX7_measures 134 = .ok (.iload 4, 2) := by decide +kernel
theorem dX7_measures_136 : decode cX7_measures 136 = .ok (.iaload, 1) := by decide +kernel
theorem dX7_measures_137 : decode cX7_measures 137 = .ok (.iconst 1, 1) := by decide +kernel
theorem dX7_measures_138 : decode cX7_measures 138 = .ok (.iadd, 1) := by decide +kernel
theorem dX7_measures_139 : decode cX7_measures 139 = .ok (.goto 10, 3) := by decide +kernel
theorem dX7_measures_142 : decode cX7_measures 142 = .ok (.aload_n 0, 1) := by decide +kernel
theorem dX7_measures_143 : decode cX7_measures 143 = .ok (.getfield 26, 3) := by decide +kernel
theorem dX7_measures_146 : decode cX7_measures 146 = .ok (.iload 5, 2) := by decide +kernel
theorem dX7_measures_148 : decode cX7_measures 148 = .ok (.iaload, 1) := by decide +kernel
theorem dX7_measures_149 : decode cX7_measures 149 = .ok (.iastore, 1) := by decide +kernel
theorem dX7_measures_150 : decode cX7_measures 150 = .ok (.iinc 5 1, 3) := by decide +kernel
theorem dX7_measures_153 : decode cX7_measures 153 = .ok (.goto (-101), 3) := by decide +kernel
theorem dX7_measures_156 : decode cX7_measures 156 = .ok (.iinc 4 1, 3) := by decide +kernel
theorem dX7_measures_159 : decode cX7_measures 159 = .ok (.goto (-117), 3) := by decide +kernel
theorem dX7_measures_162 : decode cX7_measures 162 = .ok (.iinc 3 1, 3) := by decide +kernel
theorem dX7_measures_165 : decode cX7_measures 165 = .ok (.goto (-132), 3) := by decide +kernel
theorem dX7_measures_168 : decode cX7_measures 168 = .ok (.return_, 1) := by decide +kernel
theorem dX7_hasBegun_0 : decode cX7_hasBegun 0 = .ok (.aload_n 0, 1) := by decide +kernel
theorem dX7_hasBegun_1 : decode cX7_hasBegun 1 = .ok (.getfield 7, 3) := by decide +kernel
theorem dX7_hasBegun_4 : decode cX7_hasBegun 4 = .ok (.bipush 6, 2) := by decide +kernel
theorem dX7_hasBegun_6 : decode cX7_hasBegun 6 = .ok (.iaload, 1) := by decide +kernel
theorem dX7_hasBegun_7 : decode cX7_hasBegun 7 = .ok (.ifCond .le 7, 3) := by decide +kernel
theorem dX7_hasBegun_10 : decode cX7_hasBegun 10 = .ok (.iconst 1, 1) := by decide +kernel
theorem dX7_hasBegun_11 : decode cX7_hasBegun 11 = .ok (.goto 4, 3) := by decide +kernel
theorem dX7_hasBegun_14 : decode cX7_hasBegun 14 = .ok (.iconst 0, 1) := by decide +kernel
theorem dX7_hasBegun_15 : decode cX7_hasBegun 15 = .ok (.ireturn, 1) := by decide +kernel
theorem dX7_follows_0 : decode cX7_follows 0 = .ok (.aload_n 0, 1) := by decide +kernel
theorem dX7_follows_1 : decode cX7_follows 1 = .ok (.aload_n 0, 1) := by decide +kernel
theorem dX7_follows_2 : decode cX7_follows 2 = .ok (.invokevirtual 41, 3) := by decide +kernel
theorem dX7_follows_5 : decode cX7_follows 5 = .ok (.ifCond .eq 7, 3) := by decide +kernel
theorem dX7_follows_8 : decode cX7_follows 8 = .ok (.iload_n 1, 1) := by decide +kernel
theorem dX7_follows_9 : decode cX7_follows 9 = .ok (.goto 4, 3) := by decide +kernel
theorem dX7_follows_12 : decode cX7_follows 12 = .ok (.iconst 0, 1) := by decide +kernel
theorem dX7_follows_13 : decode cX7_follows 13 = .ok (.putfield 45, 3) := by decide +kernel
theorem dX7_follows_16 : decode cX7_follows 16 = .ok (.aload_n 0, 1) := by decide +kernel
theorem dX7_follows_17 : decode cX7_follows 17 = .ok (.aload_n 0, 1) := by decide +kernel
theorem dX7_follows_18 : decode cX7_follows 18 = .ok (.getfield 45, 3) := by decide +kernel
theorem dX7_follows_21 : decode cX7_follows 21 = .ok (.aload_n 0, 1) := by decide +kernel
theorem dX7_follows_22 : decode cX7_follows 22 = .ok (.getfield 7, 3) := by decide +kernel
theorem dX7_follows_25 : decode cX7_follows 25 = .ok (.iconst 0, 1) := by decide +kernel
theorem dX7_follows_26 : decode cX7_follows 26 = .ok (.iaload, 1) := by decide +kernel
theorem dX7_follows_27 : decode cX7_follows 27 = .ok (.iand, 1) := by decide +kernel
theorem dX7_follows_28 : decode cX7_follows 28 = .ok (.putfield 48, 3) := by decide +kernel
theorem dX7_follows_31 : decode cX7_follows 31 = .ok (.aload_n 0, 1) := by decide +kernel
theorem dX7_follows_32 : decode cX7_follows 32 = .ok (.invokevirtual 41, 3) := by decide +kernel
theorem dX7_follows_35 : decode cX7_follows 35 = .ok (.istore_n 2, 1) := by decide +kernel
theorem dX7_follows_36 : decode cX7_follows 36 = .ok (.iload_n 2, 1) := by decide +kernel
theorem dX7_follows_37 : decode cX7_follows 37 = .ok (.ifCond .eq 125, 3) := by decide +kernel
theorem dX7_follows_40 : decode cX7_follows 40 = .ok (.iconst 0, 1) := by decide +kernel
theorem dX7_follows_41 : decode cX7_follows 41 = .ok (.istore_n 2, 1) := by decide +kernel
theorem dX7_follows_42 : decode cX7_follows 42 = .ok (.iconst 0, 1) := by decide +kernel
theorem dX7_follows_43 : decode cX7_follows 43 = .ok (.istore_n 3, 1) := by decide +kernel
theorem dX7_follows_44 : decode cX7_follows 44 = .ok (.iload_n 3, 1) := by decide +kernel
theorem dX7_follows_45 : decode cX7_follows 45 = .ok (.bipush 8, 2) := by decide +kernel
theorem dX7_follows_47 : decode cX7_follows 47 = .ok (.if_icmp .ge 112, 3) := by decide +kernel
theorem dX7_follows_50 : decode cX7_follows 50 = .ok (.iload_n 3, 1) := by decide +kernel
theorem dX7_follows_51 : decode cX7_follows 51 = .ok (.invokestatic 51, 3) := by decide +kernel
theorem dX7_follows_54 : decode cX7_follows 54 = .ok (.istore 4, 2) := by decide +kernel
theorem dX7_follows_56 : decode cX7_follows 56 = .ok (.iload 4, 2) := by decide +kernel
theorem dX7_follows_58 : decode cX7_follows 58 = .ok (.aload_n 0, 1) := by decide +kernel
theorem dX7_follows_59 : decode cX7_follows 59 = .ok (.getfield 45, 3) := by decide +kernel
theorem dX7_follows_62 : decode cX7_follows 62 = .ok (.iconst (-1), 1) := by decide +kernel
theorem dX7_follows_63 : decode cX7_follows 63 = .ok (.ixor, 1) := by decide +kernel
theorem dX7_follows_64 : decode cX7_follows 64 = .ok (.iand, 1) := by decide +kernel
theorem dX7_follows_65 : decode cX7_follows 65 = .ok (.istore 5, 2) := by decide +kernel
theorem dX7_follows_67 : decode cX7_follows 67 = .ok (.iload 4, 2) := by decide +kernel
theorem dX7_follows_69 : decode cX7_follows 69 = .ok (.aload_n 0, 1) := by decide +kernel
theorem dX7_follows_70 : decode cX7_follows 70 = .ok (.getfield 7, 3) := by decide +kernel
theorem dX7_follows_73 : decode cX7_follows 73 = .ok (.iconst 0, 1) := by decide +kernel
theorem dX7_follows_74 : decode cX7_follows 74 = .ok (.iaload, 1) := by decide +kernel
theorem dX7_follows_75 : decode cX7_follows 75 = .ok (.iand, 1) := by decide +kernel
theorem dX7_follows_76 : decode cX7_follows 76 = .ok (.invokestatic 55, 3) := by decide +kernel
theorem dX7_follows_79 : decode cX7_follows 79 = .ok (.istore 6, 2) := by decide +kernel
theorem dX7_follows_81 : decode cX7_follows 81 = .ok (.iload 4, 2) := by decide +kernel
theorem dX7_follows_83 : decode cX7_follows 83 = .ok (.aload_n 0, 1) := by decide +kernel
theorem dX7_follows_84 : decode cX7_follows 84 = .ok (.getfield 48, 3) := by decide +kernel
theorem dX7_follows_87 : decode cX7_follows 87 = .ok (.iand, 1) := by decide +kernel
theorem dX7_follows_88 : decode cX7_follows 88 = .ok (.invokestatic 55, 3) := by decide +kernel
theorem dX7_follows_91 : decode cX7_follows 91 = .ok (.istore 7, 2) := by decide +kernel
theorem dX7_follows_93 : decode cX7_follows 93 = .ok (.iload 5, 2) := by decide +kernel
theorem dX7_follows_95 : decode cX7_follows 95 = .ok (.ifCond .eq 58, 3) := by decide +kernel
theorem dX7_follows_98 : decode cX7_follows 98 = .ok (.iload 7, 2) := by decide +kernel
theorem dX7_follows_100 : decode cX7_follows 100 = .ok (.iload 6, 2) := by decide +kernel
theorem dX7_follows_102 : decode cX7_follows 102 = .ok (.if_icmp .eq 16, 3) := by decide +kernel
theorem dX7_follows_105 : decode cX7_follows 105 = .ok (.iload 7, 2) := by decide +kernel
theorem dX7_follows_107 : decode cX7_follows 107 = .ok (.iload 5, 2) := by decide +kernel
theorem dX7_follows_109 : decode cX7_follows 109 = .ok (.invokestatic 55, 3) := by decide +kernel
theorem dX7_follows_112 : decode cX7_follows 112 = .ok (.iadd, 1) := by decide +kernel
theorem dX7_follows_113 : decode cX7_follows 113 = .ok (.iload 6, 2) := by decide +kernel
theorem dX7_follows_115 : decode cX7_follows 115 = .ok (.if_icmp .ne 38, 3) := by decide +kernel
theorem dX7_follows_118 : decode cX7_follows 118 = .ok (.aload_n 0, 1) := by decide +kernel
theorem dX7_follows_119 : decode cX7_follows 119 = .ok (.dup, 1) := by decide +kernel
theorem dX7_follows_120 : decode cX7_follows 120 = .ok (.getfield 48, 3) := by decide +kernel
theorem dX7_follows_123 : decode cX7_follows 123 = .ok (.iload 7, 2) := by decide +kernel
theorem dX7_follows_125 : decode cX7_follows 125 = .ok (.iload 6, 2) := by decide +kernel
theorem dX7_follows_127 : decode cX7_follows 127 = .ok (.if_icmp .ne 7, 3) := by decide +kernel
theorem dX7_follows_130 : decode cX7_follows 130 = .ok (.iconst 0, 1) := by decide +kernel
theorem dX7_follows_131 : decode cX7_follows 131 = .ok (.goto 5, 3) := by decide +kernel
theorem dX7_follows_134 : decode cX7_follows 134 = .ok (.iload 5, 2) := by decide +kernel
theorem dX7_follows_136 : decode cX7_follows 136 = .ok (.ior, 1) := by decide +kernel
theorem dX7_follows_137 : decode cX7_follows 137 = .ok (.putfield 48, 3) := by decide +kernel
theorem dX7_follows_140 : decode cX7_follows 140 = .ok (.aload_n 0, 1) := by decide +kernel
theorem dX7_follows_141 : decode cX7_follows 141 = .ok (.dup, 1) := by decide +kernel
theorem dX7_follows_142 : decode cX7_follows 142 = .ok (.getfield 45, 3) := by decide +kernel
theorem dX7_follows_145 : decode cX7_follows 145 = .ok (.iload 5, 2) := by decide +kernel
theorem dX7_follows_147 : decode cX7_follows 147 = .ok (.ior, 1) := by decide +kernel
theorem dX7_follows_148 : decode cX7_follows 148 = .ok (.putfield 45, 3) := by decide +kernel
theorem dX7_follows_151 : decode cX7_follows 151 = .ok (.iconst 1, 1) := by decide +kernel
theorem dX7_follows_152 : decode cX7_follows 152 = .ok (.istore_n 2, 1) := by decide +kernel
theorem dX7_follows_153 : decode cX7_follows 153 = .ok (.iinc 3 1, 3) := by decide +kernel
theorem dX7_follows_156 : decode cX7_follows 156 = .ok (.goto (-112), 3) := by decide +kernel
theorem dX7_follows_159 : decode cX7_follows 159 = .ok (.goto (-123), 3) := by decide +kernel
theorem dX7_follows_162 : decode cX7_follows 162 = .ok (.return_, 1) := by decide +kernel
theorem dX7_least_0 : decode cX7_least 0 = .ok (.iload_n 0, 1) := by decide +kernel
theorem dX7_least_1 : decode cX7_least 1 = .ok (.iconst 1, 1) := by decide +kernel
theorem dX7_least_2 : decode cX7_least 2 = .ok (.if_icmp .eq 8, 3) := by decide +kernel
theorem dX7_least_5 : decode cX7_least 5 = .ok (.iload_n 0, 1) := by decide +kernel
theorem dX7_least_6 : decode cX7_least 6 = .ok (.iconst 3, 1) := by decide +kernel
theorem dX7_least_7 : decode cX7_least 7 = .ok (.if_icmp .ne 7, 3) := by decide +kernel
theorem dX7_least_10 : decode cX7_least 10 = .ok (.iconst 1, 1) := by decide +kernel
theorem dX7_least_11 : decode cX7_least 11 = .ok (.goto 4, 3) := by decide +kernel
theorem dX7_least_14 : decode cX7_least 14 = .ok (.iconst 0, 1) := by decide +kernel
theorem dX7_least_15 : decode cX7_least 15 = .ok (.ireturn, 1) := by decide +kernel
theorem dX7_most_0 : decode cX7_most 0 = .ok (.iload_n 0, 1) := by decide +kernel
theorem dX7_most_1 : decode cX7_most 1 = .ok (.ifCond .ne 8, 3) := by decide +kernel
theorem dX7_most_4 : decode cX7_most 4 = .ok (.bipush 20, 2) := by decide +kernel
theorem dX7_most_6 : decode cX7_most 6 = .ok (.goto 16, 3) := by decide +kernel
theorem dX7_most_9 : decode cX7_most 9 = .ok (.iload_n 0, 1) := by decide +kernel
theorem dX7_most_10 : decode cX7_most 10 = .ok (.iconst 3, 1) := by decide +kernel
theorem dX7_most_11 : decode cX7_most 11 = .ok (.if_icmp .ne 9, 3) := by decide +kernel
theorem dX7_most_14 : decode cX7_most 14 = .ok (.sipush 200, 3) := by decide +kernel
theorem dX7_most_17 : decode cX7_most 17 = .ok (.goto 5, 3) := by decide +kernel
theorem dX7_most_20 : decode cX7_most 20 = .ok (.bipush 50, 2) := by decide +kernel
theorem dX7_most_22 : decode cX7_most 22 = .ok (.ireturn, 1) := by decide +kernel
theorem dX7_set_0 : decode cX7_set 0 = .ok (.iload_n 1, 1) := by decide +kernel
theorem dX7_set_1 : decode cX7_set 1 = .ok (.iconst 0, 1) := by decide +kernel
theorem dX7_set_2 : decode cX7_set 2 = .ok (.iconst 3, 1) := by decide +kernel
theorem dX7_set_3 : decode cX7_set 3 = .ok (.invokestatic 29, 3) := by decide +kernel
theorem dX7_set_6 : decode cX7_set 6 = .ok (.ifCond .eq 18, 3) := by decide +kernel
theorem dX7_set_9 : decode cX7_set 9 = .ok (.iload_n 2, 1) := by decide +kernel
theorem dX7_set_10 : decode cX7_set 10 = .ok (.iload_n 1, 1) := by decide +kernel
theorem dX7_set_11 : decode cX7_set 11 = .ok (.invokestatic 58, 3) := by decide +kernel
theorem dX7_set_14 : decode cX7_set 14 = .ok (.iload_n 1, 1) := by decide +kernel
theorem dX7_set_15 : decode cX7_set 15 = .ok (.invokestatic 61, 3) := by decide +kernel
theorem dX7_set_18 : decode cX7_set 18 = .ok (.invokestatic 29, 3) := by decide +kernel
theorem dX7_set_21 : decode cX7_set 21 = .ok (.ifCond .ne 6, 3) := by decide +kernel
theorem dX7_set_24 : decode cX7_set 24 = .ok (.bipush (-2), 2) := by decide +kernel
theorem dX7_set_26 : decode cX7_set 26 = .ok (.ireturn, 1) := by decide +kernel
theorem dX7_set_27 : decode cX7_set 27 = .ok (.aload_n 0, 1) := by decide +kernel
theorem dX7_set_28 : decode cX7_set 28 = .ok (.invokevirtual 64, 3) := by decide +kernel
theorem dX7_set_31 : decode cX7_set 31 = .ok (.aload_n 0, 1) := by decide +kernel
theorem dX7_set_32 : decode cX7_set 32 = .ok (.getfield 7, 3) := by decide +kernel
theorem dX7_set_35 : decode cX7_set 35 = .ok (.iconst 2, 1) := by decide +kernel
theorem dX7_set_36 : decode cX7_set 36 = .ok (.iload_n 1, 1) := by decide +kernel
theorem dX7_set_37 : decode cX7_set 37 = .ok (.iadd, 1) := by decide +kernel
theorem dX7_set_38 : decode cX7_set 38 = .ok (.iaload, 1) := by decide +kernel
theorem dX7_set_39 : decode cX7_set 39 = .ok (.istore_n 3, 1) := by decide +kernel
theorem dX7_set_40 : decode cX7_set 40 = .ok (.aload_n 0, 1) := by decide +kernel
theorem dX7_set_41 : decode cX7_set 41 = .ok (.getfield 7, 3) := by decide +kernel
theorem dX7_set_44 : decode cX7_set 44 = .ok (.iconst 2, 1) := by decide +kernel
theorem dX7_set_45 : decode cX7_set 45 = .ok (.iload_n 1, 1) := by decide +kernel
theorem dX7_set_46 : decode cX7_set 46 = .ok (.iadd, 1) := by decide +kernel
theorem dX7_set_47 : decode cX7_set 47 = .ok (.iload_n 2, 1) := by decide +kernel
theorem dX7_set_48 : decode cX7_set 48 = .ok (.iastore, 1) := by decide +kernel
theorem dX7_set_49 : decode cX7_set 49 = .ok (.iload_n 3, 1) := by decide +kernel
theorem dX7_set_50 : decode cX7_set 50 = .ok (.ireturn, 1) := by decide +kernel
theorem dX7_barRoad_0 : decode cX7_barRoad 0 = .ok (.iload_n 1, 1) := by decide +kernel
theorem dX7_barRoad_1 : decode cX7_barRoad 1 = .ok (.invokestatic 67, 3) := by decide +kernel
theorem dX7_barRoad_4 : decode cX7_barRoad 4 = .ok (.ifCond .eq 10, 3) := by decide +kernel
theorem dX7_barRoad_7 : decode cX7_barRoad 7 = .ok (.iload_n 2, 1) := by decide +kernel
theorem dX7_barRoad_8 : decode cX7_barRoad 8 = .ok (.invokestatic 67, 3) := by decide +kernel
theorem dX7_barRoad_11 : decode cX7_barRoad 11 = .ok (.ifCond .ne 7, 3) := by decide +kernel
theorem dX7_barRoad_14 : decode cX7_barRoad 14 = .ok (.iconst (-1), 1) := by decide +kernel
theorem dX7_barRoad_15 : decode cX7_barRoad 15 = .ok (.goto 26, 3) := by decide +kernel
theorem dX7_barRoad_18 : decode cX7_barRoad 18 = .ok (.iload_n 1, 1) := by decide +kernel
theorem dX7_barRoad_19 : decode cX7_barRoad 19 = .ok (.iload_n 2, 1) := by decide +kernel
theorem dX7_barRoad_20 : decode cX7_barRoad 20 = .ok (.if_icmp .ne 8, 3) := by decide +kernel
theorem dX7_barRoad_23 : decode cX7_barRoad 23 = .ok (.bipush (-2), 2) := by decide +kernel
theorem dX7_barRoad_25 : decode cX7_barRoad 25 = .ok (.goto 16, 3) := by decide +kernel
theorem dX7_barRoad_28 : decode cX7_barRoad 28 = .ok (.aload_n 0, 1) := by decide +kernel
theorem dX7_barRoad_29 : decode cX7_barRoad 29 = .ok (.invokevirtual 41, 3) := by decide +kernel
theorem dX7_barRoad_32 : decode cX7_barRoad 32 = .ok (.ifCond .eq 8, 3) := by decide +kernel
theorem dX7_barRoad_35 : decode cX7_barRoad 35 = .ok (.bipush (-5), 2) := by decide +kernel
theorem dX7_barRoad_37 : decode cX7_barRoad 37 = .ok (.goto 4, 3) := by decide +kernel
theorem dX7_barRoad_40 : decode cX7_barRoad 40 = .ok (.iconst 0, 1) := by decide +kernel
theorem dX7_barRoad_41 : decode cX7_barRoad 41 = .ok (.ireturn, 1) := by decide +kernel
theorem dX7_lays_0 : decode cX7_lays 0 = .ok (.aload_n 0, 1) := by decide +kernel
theorem dX7_lays_1 : decode cX7_lays 1 = .ok (.getfield 7, 3) := by decide +kernel
theorem dX7_lays_4 : decode cX7_lays 4 = .ok (.iconst 0, 1) := by decide +kernel
theorem dX7_lays_5 : decode cX7_lays 5 = .ok (.dup2, 1) := by decide +kernel
theorem dX7_lays_6 : decode cX7_lays 6 = .ok (.iaload, 1) := by decide +kernel
theorem dX7_lays_7 : decode cX7_lays 7 = .ok (.iconst 1, 1) := by decide +kernel
theorem dX7_lays_8 : decode cX7_lays 8 = .ok (.iload_n 1, 1) := by decide +kernel
theorem dX7_lays_9 : decode cX7_lays 9 = .ok (.iload_n 2, 1) := by decide +kernel
theorem dX7_lays_10 : decode cX7_lays 10 = .ok (.invokestatic 37, 3) := by decide +kernel
theorem dX7_lays_13 : decode cX7_lays 13 = .ok (.ishl, 1) := by decide +kernel
theorem dX7_lays_14 : decode cX7_lays 14 = .ok (.ixor, 1) := by decide +kernel
theorem dX7_lays_15 : decode cX7_lays 15 = .ok (.iastore, 1) := by decide +kernel
theorem dX7_lays_16 : decode cX7_lays 16 = .ok (.aload_n 0, 1) := by decide +kernel
theorem dX7_lays_17 : decode cX7_lays 17 = .ok (.getfield 7, 3) := by decide +kernel
theorem dX7_lays_20 : decode cX7_lays 20 = .ok (.iconst 0, 1) := by decide +kernel
theorem dX7_lays_21 : decode cX7_lays 21 = .ok (.iaload, 1) := by decide +kernel
theorem dX7_lays_22 : decode cX7_lays 22 = .ok (.invokestatic 55, 3) := by decide +kernel
theorem dX7_lays_25 : decode cX7_lays 25 = .ok (.ireturn, 1) := by decide +kernel
theorem dX7_road_0 : decode cX7_road 0 = .ok (.aload_n 0, 1) := by decide +kernel
theorem dX7_road_1 : decode cX7_road 1 = .ok (.iload_n 1, 1) := by decide +kernel
theorem dX7_road_2 : decode cX7_road 2 = .ok (.iload_n 2, 1) := by decide +kernel
theorem dX7_road_3 : decode cX7_road 3 = .ok (.invokevirtual 71, 3) := by decide +kernel
theorem dX7_road_6 : decode cX7_road 6 = .ok (.istore_n 3, 1) := by decide +kernel
theorem dX7_road_7 : decode cX7_road 7 = .ok (.iload_n 3, 1) := by decide +kernel
theorem dX7_road_8 : decode cX7_road 8 = .ok (.ifCond .ge 5, 3) := by decide +kernel
theorem dX7_road_11 : decode cX7_road 11 = .ok (.iload_n 3, 1) := by decide +kernel
theorem dX7_road_12 : decode cX7_road 12 = .ok (.ireturn, 1) := by decide +kernel
theorem dX7_road_13 : decode cX7_road 13 = .ok (.aload_n 0, 1) := by decide +kernel
theorem dX7_road_14 : decode cX7_road 14 = .ok (.invokevirtual 64, 3) := by decide +kernel
theorem dX7_road_17 : decode cX7_road 17 = .ok (.aload_n 0, 1) := by decide +kernel
theorem dX7_road_18 : decode cX7_road 18 = .ok (.iload_n 1, 1) := by decide +kernel
theorem dX7_road_19 : decode cX7_road 19 = .ok (.iload_n 2, 1) := by decide +kernel
theorem dX7_road_20 : decode cX7_road 20 = .ok (.invokevirtual 74, 3) := by decide +kernel
theorem dX7_road_23 : decode cX7_road 23 = .ok (.ireturn, 1) := by decide +kernel
theorem dX7_barTreasure_0 : decode cX7_barTreasure 0 = .ok (.iload_n 1, 1) := by decide +kernel
theorem dX7_barTreasure_1 : decode cX7_barTreasure 1 = .ok (.invokestatic 67, 3) := by decide +kernel
theorem dX7_barTreasure_4 : decode cX7_barTreasure 4 = .ok (.ifCond .ne 7, 3) := by decide +kernel
theorem dX7_barTreasure_7 : decode cX7_barTreasure 7 = .ok (.iconst (-1), 1) := by decide +kernel
theorem dX7_barTreasure_8 : decode cX7_barTreasure 8 = .ok (.goto 16, 3) := by decide +kernel
theorem dX7_barTreasure_11 : decode cX7_barTreasure 11 = .ok (.aload_n 0, 1) := by decide +kernel
theorem dX7_barTreasure_12 : decode cX7_barTreasure 12 = .ok (.invokevirtual 41, 3) := by decide +kernel
theorem dX7_barTreasure_15 : decode cX7_barTreasure 15 = .ok (.ifCond .eq 8, 3) := by decide +kernel
theorem dX7_barTreasure_18 : decode cX7_barTreasure 18 = .ok (.bipush (-5), 2) := by decide +kernel
theorem dX7_barTreasure_20 : decode cX7_barTreasure 20 = .ok (.goto 4, 3) := by decide +kernel
theorem dX7_barTreasure_23 : decode cX7_barTreasure 23 = .ok (.iconst 0, 1) := by decide +kernel
theorem dX7_barTreasure_24 : decode cX7_barTreasure 24 = .ok (.ireturn, 1) := by decide +kernel
theorem dX7_treasure_0 : decode cX7_treasure 0 = .ok (.aload_n 0, 1) := by decide +kernel
theorem dX7_treasure_1 : decode cX7_treasure 1 = .ok (.iload_n 1, 1) := by decide +kernel
theorem dX7_treasure_2 : decode cX7_treasure 2 = .ok (.invokevirtual 77, 3) := by decide +kernel
theorem dX7_treasure_5 : decode cX7_treasure 5 = .ok (.istore_n 2, 1) := by decide +kernel
theorem dX7_treasure_6 : decode cX7_treasure 6 = .ok (.iload_n 2, 1) := by decide +kernel
theorem dX7_treasure_7 : decode cX7_treasure 7 = .ok (.ifCond .ge 5, 3) := by decide +kernel
theorem dX7_treasure_10 : decode cX7_treasure 10 = .ok (.iload_n 2, 1) := by decide +kernel
theorem dX7_treasure_11 : decode cX7_treasure 11 = .ok (.ireturn, 1) := by decide +kernel
theorem dX7_treasure_12 : decode cX7_treasure 12 = .ok (.aload_n 0, 1) := by decide +kernel
theorem dX7_treasure_13 : decode cX7_treasure 13 = .ok (.invokevirtual 64, 3) := by decide +kernel
theorem dX7_treasure_16 : decode cX7_treasure 16 = .ok (.aload_n 0, 1) := by decide +kernel
theorem dX7_treasure_17 : decode cX7_treasure 17 = .ok (.getfield 7, 3) := by decide +kernel
theorem dX7_treasure_20 : decode cX7_treasure 20 = .ok (.iconst 1, 1) := by decide +kernel
theorem dX7_treasure_21 : decode cX7_treasure 21 = .ok (.iaload, 1) := by decide +kernel
theorem dX7_treasure_22 : decode cX7_treasure 22 = .ok (.istore_n 3, 1) := by decide +kernel
theorem dX7_treasure_23 : decode cX7_treasure 23 = .ok (.aload_n 0, 1) := by decide +kernel
theorem dX7_treasure_24 : decode cX7_treasure 24 = .ok (.getfield 7, 3) := by decide +kernel
theorem dX7_treasure_27 : decode cX7_treasure 27 = .ok (.iconst 1, 1) := by decide +kernel
theorem dX7_treasure_28 : decode cX7_treasure 28 = .ok (.iload_n 1, 1) := by decide +kernel
theorem dX7_treasure_29 : decode cX7_treasure 29 = .ok (.iastore, 1) := by decide +kernel
theorem dX7_treasure_30 : decode cX7_treasure 30 = .ok (.iload_n 3, 1) := by decide +kernel
theorem dX7_treasure_31 : decode cX7_treasure 31 = .ok (.ireturn, 1) := by decide +kernel
theorem dX7_begin_0 : decode cX7_begin 0 = .ok (.aload_n 0, 1) := by decide +kernel
theorem dX7_begin_1 : decode cX7_begin 1 = .ok (.invokevirtual 41, 3) := by decide +kernel
theorem dX7_begin_4 : decode cX7_begin 4 = .ok (.ifCond .eq 6, 3) := by decide +kernel
theorem dX7_begin_7 : decode cX7_begin 7 = .ok (.bipush (-5), 2) := by decide +kernel
theorem dX7_begin_9 : decode cX7_begin 9 = .ok (.ireturn, 1) := by decide +kernel
theorem dX7_begin_10 : decode cX7_begin 10 = .ok (.aload_n 0, 1) := by decide +kernel
theorem dX7_begin_11 : decode cX7_begin 11 = .ok (.invokevirtual 64, 3) := by decide +kernel
theorem dX7_begin_14 : decode cX7_begin 14 = .ok (.aload_n 0, 1) := by decide +kernel
theorem dX7_begin_15 : decode cX7_begin 15 = .ok (.getfield 7, 3) := by decide +kernel
theorem dX7_begin_18 : decode cX7_begin 18 = .ok (.bipush 6, 2) := by decide +kernel
theorem dX7_begin_20 : decode cX7_begin 20 = .ok (.iconst 1, 1) := by decide +kernel
theorem dX7_begin_21 : decode cX7_begin 21 = .ok (.iastore, 1) := by decide +kernel
theorem dX7_begin_22 : decode cX7_begin 22 = .ok (.aload_n 0, 1) := by decide +kernel
theorem dX7_begin_23 : decode cX7_begin 23 = .ok (.aload_n 0, 1) := by decide +kernel
theorem dX7_begin_24 : decode cX7_begin 24 = .ok (.getfield 7, 3) := by decide +kernel
theorem dX7_begin_27 : decode cX7_begin 27 = .ok (.bipush 17, 2) := by decide +kernel
theorem dX7_begin_29 : decode cX7_begin 29 = .ok (.iaload, 1) := by decide +kernel
theorem dX7_begin_30 : decode cX7_begin 30 = .ok (.invokevirtual 80, 3) := by decide +kernel
theorem dX7_begin_33 : decode cX7_begin 33 = .ok (.aload_n 0, 1) := by decide +kernel
theorem dX7_begin_34 : decode cX7_begin 34 = .ok (.getfield 45, 3) := by decide +kernel
theorem dX7_begin_37 : decode cX7_begin 37 = .ok (.invokestatic 55, 3) := by decide +kernel
theorem dX7_begin_40 : decode cX7_begin 40 = .ok (.ireturn, 1) := by decide +kernel
theorem dX7_goes_0 : decode cX7_goes 0 = .ok (.aload_n 0, 1) := by decide +kernel
theorem dX7_goes_1 : decode cX7_goes 1 = .ok (.getfield 7, 3) := by decide +kernel
theorem dX7_goes_4 : decode cX7_goes 4 = .ok (.bipush 6, 2) := by decide +kernel
theorem dX7_goes_6 : decode cX7_goes 6 = .ok (.iaload, 1) := by decide +kernel
theorem dX7_goes_7 : decode cX7_goes 7 = .ok (.iconst 1, 1) := by decide +kernel
theorem dX7_goes_8 : decode cX7_goes 8 = .ok (.if_icmp .ne 7, 3) := by decide +kernel
theorem dX7_goes_11 : decode cX7_goes 11 = .ok (.iconst 1, 1) := by decide +kernel
theorem dX7_goes_12 : decode cX7_goes 12 = .ok (.goto 4, 3) := by decide +kernel
theorem dX7_goes_15 : decode cX7_goes 15 = .ok (.iconst 0, 1) := by decide +kernel
theorem dX7_goes_16 : decode cX7_goes 16 = .ok (.ireturn, 1) := by decide +kernel
theorem dX7_turn_0 : decode cX7_turn 0 = .ok (.aload_n 0, 1) := by decide +kernel
theorem dX7_turn_1 : decode cX7_turn 1 = .ok (.getfield 7, 3) := by decide +kernel
theorem dX7_turn_4 : decode cX7_turn 4 = .ok (.bipush 7, 2) := by decide +kernel
theorem dX7_turn_6 : decode cX7_turn 6 = .ok (.iaload, 1) := by decide +kernel
theorem dX7_turn_7 : decode cX7_turn 7 = .ok (.iconst 3, 1) := by decide +kernel
theorem dX7_turn_8 : decode cX7_turn 8 = .ok (.irem, 1) := by decide +kernel
theorem dX7_turn_9 : decode cX7_turn 9 = .ok (.ireturn, 1) := by decide +kernel
theorem dX7_ends_0 : decode cX7_ends 0 = .ok (.aload_n 0, 1) := by decide +kernel
theorem dX7_ends_1 : decode cX7_ends 1 = .ok (.getfield 7, 3) := by decide +kernel
theorem dX7_ends_4 : decode cX7_ends 4 = .ok (.bipush 7, 2) := by decide +kernel
theorem dX7_ends_6 : decode cX7_ends 6 = .ok (.dup2, 1) := by decide +kernel
theorem dX7_ends_7 : decode cX7_ends 7 = .ok (.iaload, 1) := by decide +kernel
theorem dX7_ends_8 : decode cX7_ends 8 = .ok (.iconst 1, 1) := by decide +kernel
theorem dX7_ends_9 : decode cX7_ends 9 = .ok (.iadd, 1) := by decide +kernel
theorem dX7_ends_10 : decode cX7_ends 10 = .ok (.iastore, 1) := by decide +kernel
theorem dX7_ends_11 : decode cX7_ends 11 = .ok (.aload_n 0, 1) := by decide +kernel
theorem dX7_ends_12 : decode cX7_ends 12 = .ok (.getfield 7, 3) := by decide +kernel
theorem dX7_ends_15 : decode cX7_ends 15 = .ok (.bipush 6, 2) := by decide +kernel
theorem dX7_ends_17 : decode cX7_ends 17 = .ok (.aload_n 0, 1) := by decide +kernel
theorem dX7_ends_18 : decode cX7_ends 18 = .ok (.getfield 7, 3) := by decide +kernel
theorem dX7_ends_21 : decode cX7_ends 21 = .ok (.bipush 7, 2) := by decide +kernel
theorem dX7_ends_23 : decode cX7_ends 23 = .ok (.iaload, 1) := by decide +kernel
theorem dX7_ends_24 : decode cX7_ends 24 = .ok (.sipush 150, 3) := by decide +kernel
theorem dX7_ends_27 : decode cX7_ends 27 = .ok (.if_icmp .ne 7, 3) := by decide +kernel
theorem dX7_ends_30 : decode cX7_ends 30 = .ok (.iconst 2, 1) := by decide +kernel
theorem dX7_ends_31 : decode cX7_ends 31 = .ok (.goto 10, 3) := by decide +kernel
theorem dX7_ends_34 : decode cX7_ends 34 = .ok (.aload_n 0, 1) := by decide +kernel
theorem dX7_ends_35 : decode cX7_ends 35 = .ok (.getfield 7, 3) := by decide +kernel
theorem dX7_ends_38 : decode cX7_ends 38 = .ok (.bipush 6, 2) := by decide +kernel
theorem dX7_ends_40 : decode cX7_ends 40 = .ok (.iaload, 1) := by decide +kernel
theorem dX7_ends_41 : decode cX7_ends 41 = .ok (.iastore, 1) := by decide +kernel
theorem dX7_ends_42 : decode cX7_ends 42 = .ok (.return_, 1) := by decide +kernel
theorem dX7_gets_0 : decode cX7_gets 0 = .ok (.aload_n 0, 1) := by decide +kernel
theorem dX7_gets_1 : decode cX7_gets 1 = .ok (.getfield 7, 3) := by decide +kernel
theorem dX7_gets_4 : decode cX7_gets 4 = .ok (.bipush 8, 2) := by decide +kernel
theorem dX7_gets_6 : decode cX7_gets 6 = .ok (.iload_n 1, 1) := by decide +kernel
theorem dX7_gets_7 : decode cX7_gets 7 = .ok (.iadd, 1) := by decide +kernel
theorem dX7_gets_8 : decode cX7_gets 8 = .ok (.aload_n 0, 1) := by decide +kernel
theorem dX7_gets_9 : decode cX7_gets 9 = .ok (.getfield 7, 3) := by decide +kernel
theorem dX7_gets_12 : decode cX7_gets 12 = .ok (.bipush 8, 2) := by decide +kernel
theorem dX7_gets_14 : decode cX7_gets 14 = .ok (.iload_n 1, 1) := by decide +kernel
theorem dX7_gets_15 : decode cX7_gets 15 = .ok (.iadd, 1) := by decide +kernel
theorem dX7_gets_16 : decode cX7_gets 16 = .ok (.iaload, 1) := by decide +kernel
theorem dX7_gets_17 : decode cX7_gets 17 = .ok (.iload_n 2, 1) := by decide +kernel
theorem dX7_gets_18 : decode cX7_gets 18 = .ok (.iadd, 1) := by decide +kernel
theorem dX7_gets_19 : decode cX7_gets 19 = .ok (.sipush 9999, 3) := by decide +kernel
theorem dX7_gets_22 : decode cX7_gets 22 = .ok (.if_icmp .le 9, 3) := by decide +kernel
theorem dX7_gets_25 : decode cX7_gets 25 = .ok (.sipush 9999, 3) := by decide +kernel
theorem dX7_gets_28 : decode cX7_gets 28 = .ok (.goto 14, 3) := by decide +kernel
theorem dX7_gets_31 : decode cX7_gets 31 = .ok (.aload_n 0, 1) := by decide +kernel
theorem dX7_gets_32 : decode cX7_gets 32 = .ok (.getfield 7, 3) := by decide +kernel
theorem dX7_gets_35 : decode cX7_gets 35 = .ok (.bipush 8, 2) := by decide +kernel
theorem dX7_gets_37 : decode cX7_gets 37 = .ok (.iload_n 1, 1) := by decide +kernel
theorem dX7_gets_38 : decode cX7_gets 38 = .ok (.iadd, 1) := by decide +kernel
theorem dX7_gets_39 : decode cX7_gets 39 = .ok (.iaload, 1) := by decide +kernel
theorem dX7_gets_40 : decode cX7_gets 40 = .ok (.iload_n 2, 1) := by decide +kernel
theorem dX7_gets_41 : decode cX7_gets 41 = .ok (.iadd, 1) := by decide +kernel
theorem dX7_gets_42 : decode cX7_gets 42 = .ok (.iastore, 1) := by decide +kernel
theorem dX7_gets_43 : decode cX7_gets 43 = .ok (.return_, 1) := by decide +kernel
theorem dX7_claims_0 : decode cX7_claims 0 = .ok (.aload_n 0, 1) := by decide +kernel
theorem dX7_claims_1 : decode cX7_claims 1 = .ok (.getfield 7, 3) := by decide +kernel
theorem dX7_claims_4 : decode cX7_claims 4 = .ok (.bipush 11, 2) := by decide +kernel
theorem dX7_claims_6 : decode cX7_claims 6 = .ok (.iload_n 1, 1) := by decide +kernel
theorem dX7_claims_7 : decode cX7_claims 7 = .ok (.iadd, 1) := by decide +kernel
theorem dX7_claims_8 : decode cX7_claims 8 = .ok (.iaload, 1) := by decide +kernel
theorem dX7_claims_9 : decode cX7_claims 9 = .ok (.aload_n 0, 1) := by decide +kernel
theorem dX7_claims_10 : decode cX7_claims 10 = .ok (.getfield 7, 3) := by decide +kernel
theorem dX7_claims_13 : decode cX7_claims 13 = .ok (.bipush 14, 2) := by decide +kernel
theorem dX7_claims_15 : decode cX7_claims 15 = .ok (.iload_n 1, 1) := by decide +kernel
theorem dX7_claims_16 : decode cX7_claims 16 = .ok (.iadd, 1) := by decide +kernel
theorem dX7_claims_17 : decode cX7_claims 17 = .ok (.iaload, 1) := by decide +kernel
theorem dX7_claims_18 : decode cX7_claims 18 = .ok (.ior, 1) := by decide +kernel
theorem dX7_claims_19 : decode cX7_claims 19 = .ok (.invokestatic 55, 3) := by decide +kernel
theorem dX7_claims_22 : decode cX7_claims 22 = .ok (.ireturn, 1) := by decide +kernel
theorem dX7_barClaim_0 : decode cX7_barClaim 0 = .ok (.iload_n 1, 1) := by decide +kernel
theorem dX7_barClaim_1 : decode cX7_barClaim 1 = .ok (.invokestatic 67, 3) := by decide +kernel
theorem dX7_barClaim_4 : decode cX7_barClaim 4 = .ok (.ifCond .eq 10, 3) := by decide +kernel
theorem dX7_barClaim_7 : decode cX7_barClaim 7 = .ok (.iload_n 2, 1) := by decide +kernel
theorem dX7_barClaim_8 : decode cX7_barClaim 8 = .ok (.invokestatic 67, 3) := by decide +kernel
theorem dX7_barClaim_11 : decode cX7_barClaim 11 = .ok (.ifCond .ne 7, 3) := by decide +kernel
theorem dX7_barClaim_14 : decode cX7_barClaim 14 = .ok (.iconst (-1), 1) := by decide +kernel
theorem dX7_barClaim_15 : decode cX7_barClaim 15 = .ok (.goto 35, 3) := by decide +kernel
theorem dX7_barClaim_18 : decode cX7_barClaim 18 = .ok (.iload_n 1, 1) := by decide +kernel
theorem dX7_barClaim_19 : decode cX7_barClaim 19 = .ok (.iload_n 2, 1) := by decide +kernel
theorem dX7_barClaim_20 : decode cX7_barClaim 20 = .ok (.if_icmp .eq 12, 3) := by decide +kernel
theorem dX7_barClaim_23 : decode cX7_barClaim 23 = .ok (.iload_n 3, 1) := by decide +kernel
theorem dX7_barClaim_24 : decode cX7_barClaim 24 = .ok (.iconst 0, 1) := by decide +kernel
theorem dX7_barClaim_25 : decode cX7_barClaim 25 = .ok (.iconst 1, 1) := by decide +kernel
theorem dX7_barClaim_26 : decode cX7_barClaim 26 = .ok (.invokestatic 29, 3) := by decide +kernel
theorem dX7_barClaim_29 : decode cX7_barClaim 29 = .ok (.ifCond .ne 8, 3) := by decide +kernel
theorem dX7_barClaim_32 : decode cX7_barClaim 32 = .ok (.bipush (-2), 2) := by decide +kernel
theorem dX7_barClaim_34 : decode cX7_barClaim 34 = .ok (.goto 16, 3) := by decide +kernel
theorem dX7_barClaim_37 : decode cX7_barClaim 37 = .ok (.aload_n 0, 1) := by decide +kernel
theorem dX7_barClaim_38 : decode cX7_barClaim 38 = .ok (.invokevirtual 84, 3) := by decide +kernel
theorem dX7_barClaim_41 : decode cX7_barClaim 41 = .ok (.ifCond .eq 7, 3) := by decide +kernel
theorem dX7_barClaim_44 : decode cX7_barClaim 44 = .ok (.iconst 0, 1) := by decide +kernel
theorem dX7_barClaim_45 : decode cX7_barClaim 45 = .ok (.goto 5, 3) := by decide +kernel
theorem dX7_barClaim_48 : decode cX7_barClaim 48 = .ok (.bipush (-5), 2) := by decide +kernel
theorem dX7_barClaim_50 : decode cX7_barClaim 50 = .ok (.ireturn, 1) := by decide +kernel
theorem dX7_says_0 : decode cX7_says 0 = .ok (.iconst 1, 1) := by decide +kernel
theorem dX7_says_1 : decode cX7_says 1 = .ok (.iload_n 1, 1) := by decide +kernel
theorem dX7_says_2 : decode cX7_says 2 = .ok (.iload_n 2, 1) := by decide +kernel
theorem dX7_says_3 : decode cX7_says 3 = .ok (.invokestatic 37, 3) := by decide +kernel
theorem dX7_says_6 : decode cX7_says 6 = .ok (.ishl, 1) := by decide +kernel
theorem dX7_says_7 : decode cX7_says 7 = .ok (.istore 4, 2) := by decide +kernel
theorem dX7_says_9 : decode cX7_says 9 = .ok (.aload_n 0, 1) := by decide +kernel
theorem dX7_says_10 : decode cX7_says 10 = .ok (.invokevirtual 87, 3) := by decide +kernel
theorem dX7_says_13 : decode cX7_says 13 = .ok (.istore 5, 2) := by decide +kernel
theorem dX7_says_15 : decode cX7_says 15 = .ok (.aload_n 0, 1) := by decide +kernel
theorem dX7_says_16 : decode cX7_says 16 = .ok (.getfield 7, 3) := by decide +kernel
theorem dX7_says_19 : decode cX7_says 19 = .ok (.bipush 11, 2) := by decide +kernel
theorem dX7_says_21 : decode cX7_says 21 = .ok (.iload 5, 2) := by decide +kernel
theorem dX7_says_23 : decode cX7_says 23 = .ok (.iadd, 1) := by decide +kernel
theorem dX7_says_24 : decode cX7_says 24 = .ok (.iload_n 3, 1) := by decide +kernel
theorem dX7_says_25 : decode cX7_says 25 = .ok (.iconst 1, 1) := by decide +kernel
theorem dX7_says_26 : decode cX7_says 26 = .ok (.if_icmp .ne 19, 3) := by decide +kernel
theorem dX7_says_29 : decode cX7_says 29 = .ok (.aload_n 0, 1) := by decide +kernel
theorem dX7_says_30 : decode cX7_says 30 = .ok (.getfield 7, 3) := by decide +kernel
theorem dX7_says_33 : decode cX7_says 33 = .ok (.bipush 11, 2) := by decide +kernel
theorem dX7_says_35 : decode cX7_says 35 = .ok (.iload 5, 2) := by decide +kernel
theorem dX7_says_37 : decode cX7_says 37 = .ok (.iadd, 1) := by decide +kernel
theorem dX7_says_38 : decode cX7_says 38 = .ok (.iaload, 1) := by decide +kernel
theorem dX7_says_39 : decode cX7_says 39 = .ok (.iload 4, 2) := by decide +kernel
theorem dX7_says_41 : decode cX7_says 41 = .ok (.ior, 1) := by decide +kernel
theorem dX7_says_42 : decode cX7_says 42 = .ok (.goto 18, 3) := by decide +kernel
theorem dX7_says_45 : decode cX7_says 45 = .ok (.aload_n 0, 1) := by decide +kernel
theorem dX7_says_46 : decode cX7_says 46 = .ok (.getfield 7, 3) := by decide +kernel
theorem dX7_says_49 : decode cX7_says 49 = .ok (.bipush 11, 2) := by decide +kernel
theorem dX7_says_51 : decode cX7_says 51 = .ok (.iload 5, 2) := by decide +kernel
theorem dX7_says_53 : decode cX7_says 53 = .ok (.iadd, 1) := by decide +kernel
theorem dX7_says_54 : decode cX7_says 54 = .ok (.iaload, 1) := by decide +kernel
theorem dX7_says_55 : decode cX7_says 55 = .ok (.iload 4, 2) := by decide +kernel
theorem dX7_says_57 : decode cX7_says 57 = .ok (.iconst (-1), 1) := by decide +kernel
theorem dX7_says_58 : decode cX7_says 58 = .ok (.ixor, 1) := by decide +kernel
theorem dX7_says_59 : decode cX7_says 59 = .ok (.iand, 1) := by decide +kernel
theorem dX7_says_60 : decode cX7_says 60 = .ok (.iastore, 1) := by decide +kernel
theorem dX7_says_61 : decode cX7_says 61 = .ok (.aload_n 0, 1) := by decide +kernel
theorem dX7_says_62 : decode cX7_says 62 = .ok (.getfield 7, 3) := by decide +kernel
theorem dX7_says_65 : decode cX7_says 65 = .ok (.bipush 14, 2) := by decide +kernel
theorem dX7_says_67 : decode cX7_says 67 = .ok (.iload 5, 2) := by decide +kernel
theorem dX7_says_69 : decode cX7_says 69 = .ok (.iadd, 1) := by decide +kernel
theorem dX7_says_70 : decode cX7_says 70 = .ok (.iload_n 3, 1) := by decide +kernel
theorem dX7_says_71 : decode cX7_says 71 = .ok (.ifCond .ne 19, 3) := by decide +kernel
theorem dX7_says_74 : decode cX7_says 74 = .ok (.aload_n 0, 1) := by decide +kernel
theorem dX7_says_75 : decode cX7_says 75 = .ok (.getfield 7, 3) := by decide +kernel
theorem dX7_says_78 : decode cX7_says 78 = .ok (.bipush 14, 2) := by decide +kernel
theorem dX7_says_80 : decode cX7_says 80 = .ok (.iload 5, 2) := by decide +kernel
theorem dX7_says_82 : decode cX7_says 82 = .ok (.iadd, 1) := by decide +kernel
theorem dX7_says_83 : decode cX7_says 83 = .ok (.iaload, 1) := by decide +kernel
theorem dX7_says_84 : decode cX7_says 84 = .ok (.iload 4, 2) := by decide +kernel
theorem dX7_says_86 : decode cX7_says 86 = .ok (.ior, 1) := by decide +kernel
theorem dX7_says_87 : decode cX7_says 87 = .ok (.goto 18, 3) := by decide +kernel
theorem dX7_says_90 : decode cX7_says 90 = .ok (.aload_n 0, 1) := by decide +kernel
theorem dX7_says_91 : decode cX7_says 91 = .ok (.getfield 7, 3) := by decide +kernel
theorem dX7_says_94 : decode cX7_says 94 = .ok (.bipush 14, 2) := by decide +kernel
theorem dX7_says_96 : decode cX7_says 96 = .ok (.iload 5, 2) := by decide +kernel
theorem dX7_says_98 : decode cX7_says 98 = .ok (.iadd, 1) := by decide +kernel
theorem dX7_says_99 : decode cX7_says 99 = .ok (.iaload, 1) := by decide +kernel
theorem dX7_says_100 : decode cX7_says 100 = .ok (.iload 4, 2) := by decide +kernel
theorem dX7_says_102 : decode cX7_says 102 = .ok (.iconst (-1), 1) := by decide +kernel
theorem dX7_says_103 : decode cX7_says 103 = .ok (.ixor, 1) := by decide +kernel
theorem dX7_says_104 : decode cX7_says 104 = .ok (.iand, 1) := by decide +kernel
theorem dX7_says_105 : decode cX7_says 105 = .ok (.iastore, 1) := by decide +kernel
theorem dX7_says_106 : decode cX7_says 106 = .ok (.aload_n 0, 1) := by decide +kernel
theorem dX7_says_107 : decode cX7_says 107 = .ok (.invokevirtual 91, 3) := by decide +kernel
theorem dX7_says_110 : decode cX7_says 110 = .ok (.aload_n 0, 1) := by decide +kernel
theorem dX7_says_111 : decode cX7_says 111 = .ok (.iload 5, 2) := by decide +kernel
theorem dX7_says_113 : decode cX7_says 113 = .ok (.invokevirtual 94, 3) := by decide +kernel
theorem dX7_says_116 : decode cX7_says 116 = .ok (.ireturn, 1) := by decide +kernel
theorem dX7_claim_0 : decode cX7_claim 0 = .ok (.aload_n 0, 1) := by decide +kernel
theorem dX7_claim_1 : decode cX7_claim 1 = .ok (.iload_n 1, 1) := by decide +kernel
theorem dX7_claim_2 : decode cX7_claim 2 = .ok (.iload_n 2, 1) := by decide +kernel
theorem dX7_claim_3 : decode cX7_claim 3 = .ok (.iload_n 3, 1) := by decide +kernel
theorem dX7_claim_4 : decode cX7_claim 4 = .ok (.invokevirtual 97, 3) := by decide +kernel
theorem dX7_claim_7 : decode cX7_claim 7 = .ok (.istore 4, 2) := by decide +kernel
theorem dX7_claim_9 : decode cX7_claim 9 = .ok (.iload 4, 2) := by decide +kernel
theorem dX7_claim_11 : decode cX7_claim 11 = .ok (.ifCond .ge 6, 3) := by decide +kernel
theorem dX7_claim_14 : decode cX7_claim 14 = .ok (.iload 4, 2) := by decide +kernel
theorem dX7_claim_16 : decode cX7_claim 16 = .ok (.ireturn, 1) := by decide +kernel
theorem dX7_claim_17 : decode cX7_claim 17 = .ok (.aload_n 0, 1) := by decide +kernel
theorem dX7_claim_18 : decode cX7_claim 18 = .ok (.invokevirtual 64, 3) := by decide +kernel
theorem dX7_claim_21 : decode cX7_claim 21 = .ok (.aload_n 0, 1) := by decide +kernel
theorem dX7_claim_22 : decode cX7_claim 22 = .ok (.iload_n 1, 1) := by decide +kernel
theorem dX7_claim_23 : decode cX7_claim 23 = .ok (.iload_n 2, 1) := by decide +kernel
theorem dX7_claim_24 : decode cX7_claim 24 = .ok (.iload_n 3, 1) := by decide +kernel
theorem dX7_claim_25 : decode cX7_claim 25 = .ok (.invokevirtual 101, 3) := by decide +kernel
theorem dX7_claim_28 : decode cX7_claim 28 = .ok (.ireturn, 1) := by decide +kernel
theorem dX7_barCheck_0 : decode cX7_barCheck 0 = .ok (.iload_n 1, 1) := by decide +kernel
theorem dX7_barCheck_1 : decode cX7_barCheck 1 = .ok (.invokestatic 104, 3) := by decide +kernel
theorem dX7_barCheck_4 : decode cX7_barCheck 4 = .ok (.ifCond .eq 17, 3) := by decide +kernel
theorem dX7_barCheck_7 : decode cX7_barCheck 7 = .ok (.iload_n 2, 1) := by decide +kernel
theorem dX7_barCheck_8 : decode cX7_barCheck 8 = .ok (.invokestatic 67, 3) := by decide +kernel
theorem dX7_barCheck_11 : decode cX7_barCheck 11 = .ok (.ifCond .eq 10, 3) := by decide +kernel
theorem dX7_barCheck_14 : decode cX7_barCheck 14 = .ok (.iload_n 3, 1) := by decide +kernel
theorem dX7_barCheck_15 : decode cX7_barCheck 15 = .ok (.invokestatic 67, 3) := by decide +kernel
theorem dX7_barCheck_18 : decode cX7_barCheck 18 = .ok (.ifCond .ne 5, 3) := by decide +kernel
theorem dX7_barCheck_21 : decode cX7_barCheck 21 = .ok (.iconst (-1), 1) := by decide +kernel
theorem dX7_barCheck_22 : decode cX7_barCheck 22 = .ok (.ireturn, 1) := by decide +kernel
theorem dX7_barCheck_23 : decode cX7_barCheck 23 = .ok (.iload_n 1, 1) := by decide +kernel
theorem dX7_barCheck_24 : decode cX7_barCheck 24 = .ok (.aload_n 0, 1) := by decide +kernel
theorem dX7_barCheck_25 : decode cX7_barCheck 25 = .ok (.invokevirtual 87, 3) := by decide +kernel
theorem dX7_barCheck_28 : decode cX7_barCheck 28 = .ok (.if_icmp .eq 8, 3) := by decide +kernel
theorem dX7_barCheck_31 : decode cX7_barCheck 31 = .ok (.iload_n 2, 1) := by decide +kernel
theorem dX7_barCheck_32 : decode cX7_barCheck 32 = .ok (.iload_n 3, 1) := by decide +kernel
theorem dX7_barCheck_33 : decode cX7_barCheck 33 = .ok (.if_icmp .ne 6, 3) := by decide +kernel
theorem dX7_barCheck_36 : decode cX7_barCheck 36 = .ok (.bipush (-2), 2) := by decide +kernel
theorem dX7_barCheck_38 : decode cX7_barCheck 38 = .ok (.ireturn, 1) := by decide +kernel
theorem dX7_barCheck_39 : decode cX7_barCheck 39 = .ok (.iconst 1, 1) := by decide +kernel
theorem dX7_barCheck_40 : decode cX7_barCheck 40 = .ok (.iload_n 2, 1) := by decide +kernel
theorem dX7_barCheck_41 : decode cX7_barCheck 41 = .ok (.iload_n 3, 1) := by decide +kernel
theorem dX7_barCheck_42 : decode cX7_barCheck 42 = .ok (.invokestatic 37, 3) := by decide +kernel
theorem dX7_barCheck_45 : decode cX7_barCheck 45 = .ok (.ishl, 1) := by decide +kernel
theorem dX7_barCheck_46 : decode cX7_barCheck 46 = .ok (.istore 4, 2) := by decide +kernel
theorem dX7_barCheck_48 : decode cX7_barCheck 48 = .ok (.aload_n 0, 1) := by decide +kernel
theorem dX7_barCheck_49 : decode cX7_barCheck 49 = .ok (.invokevirtual 84, 3) := by decide +kernel
theorem dX7_barCheck_52 : decode cX7_barCheck 52 = .ok (.ifCond .eq 41, 3) := by decide +kernel
theorem dX7_barCheck_55 : decode cX7_barCheck 55 = .ok (.aload_n 0, 1) := by decide +kernel
theorem dX7_barCheck_56 : decode cX7_barCheck 56 = .ok (.getfield 7, 3) := by decide +kernel
theorem dX7_barCheck_59 : decode cX7_barCheck 59 = .ok (.bipush 11, 2) := by decide +kernel
theorem dX7_barCheck_61 : decode cX7_barCheck 61 = .ok (.iload_n 1, 1) := by decide +kernel
theorem dX7_barCheck_62 : decode cX7_barCheck 62 = .ok (.iadd, 1) := by decide +kernel
theorem dX7_barCheck_63 : decode cX7_barCheck 63 = .ok (.iaload, 1) := by decide +kernel
theorem dX7_barCheck_64 : decode cX7_barCheck 64 = .ok (.aload_n 0, 1) := by decide +kernel
theorem dX7_barCheck_65 : decode cX7_barCheck 65 = .ok (.getfield 7, 3) := by decide +kernel
theorem dX7_barCheck_68 : decode cX7_barCheck 68 = .ok (.bipush 14, 2) := by decide +kernel
theorem dX7_barCheck_70 : decode cX7_barCheck 70 = .ok (.iload_n 1, 1) := by decide +kernel
theorem dX7_barCheck_71 : decode cX7_barCheck 71 = .ok (.iadd, 1) := by decide +kernel
theorem dX7_barCheck_72 : decode cX7_barCheck 72 = .ok (.iaload, 1) := by decide +kernel
theorem dX7_barCheck_73 : decode cX7_barCheck 73 = .ok (.ior, 1) := by decide +kernel
theorem dX7_barCheck_74 : decode cX7_barCheck 74 = .ok (.iload 4, 2) := by decide +kernel
theorem dX7_barCheck_76 : decode cX7_barCheck 76 = .ok (.iand, 1) := by decide +kernel
theorem dX7_barCheck_77 : decode cX7_barCheck 77 = .ok (.ifCond .eq 16, 3) := by decide +kernel
theorem dX7_barCheck_80 : decode cX7_barCheck 80 = .ok (.aload_n 0, 1) := by decide +kernel
theorem dX7_barCheck_81 : decode cX7_barCheck 81 = .ok (.getfield 7, 3) := by decide +kernel
theorem dX7_barCheck_84 : decode cX7_barCheck 84 = .ok (.bipush 17, 2) := by decide +kernel
theorem dX7_barCheck_86 : decode cX7_barCheck 86 = .ok (.iaload, 1) := by decide +kernel
theorem dX7_barCheck_87 : decode cX7_barCheck 87 = .ok (.iload 4, 2) := by decide +kernel
theorem dX7_barCheck_89 : decode cX7_barCheck 89 = .ok (.iand, 1) := by decide +kernel
theorem dX7_barCheck_90 : decode cX7_barCheck 90 = .ok (.ifCond .eq 8, 3) := by decide +kernel
theorem dX7_barCheck_93 : decode cX7_barCheck 93 = .ok (.bipush (-5), 2) := by decide +kernel
theorem dX7_barCheck_95 : decode cX7_barCheck 95 = .ok (.goto 4, 3) := by decide +kernel
theorem dX7_barCheck_98 : decode cX7_barCheck 98 = .ok (.iconst 0, 1) := by decide +kernel
theorem dX7_barCheck_99 : decode cX7_barCheck 99 = .ok (.ireturn, 1) := by decide +kernel
theorem dX7_pays_0 : decode cX7_pays 0 = .ok (.aload_n 0, 1) := by decide +kernel
theorem dX7_pays_1 : decode cX7_pays 1 = .ok (.getfield 7, 3) := by decide +kernel
theorem dX7_pays_4 : decode cX7_pays 4 = .ok (.bipush 8, 2) := by decide +kernel
theorem dX7_pays_6 : decode cX7_pays 6 = .ok (.iload_n 1, 1) := by decide +kernel
theorem dX7_pays_7 : decode cX7_pays 7 = .ok (.iadd, 1) := by decide +kernel
theorem dX7_pays_8 : decode cX7_pays 8 = .ok (.iaload, 1) := by decide +kernel
theorem dX7_pays_9 : decode cX7_pays 9 = .ok (.iload_n 3, 1) := by decide +kernel
theorem dX7_pays_10 : decode cX7_pays 10 = .ok (.if_icmp .ge 15, 3) := by decide +kernel
theorem dX7_pays_13 : decode cX7_pays 13 = .ok (.aload_n 0, 1) := by decide +kernel
theorem dX7_pays_14 : decode cX7_pays 14 = .ok (.getfield 7, 3) := by decide +kernel
theorem dX7_pays_17 : decode cX7_pays 17 = .ok (.bipush 8, 2) := by decide +kernel
theorem dX7_pays_19 : decode cX7_pays 19 = .ok (.iload_n 1, 1) := by decide +kernel
theorem dX7_pays_20 : decode cX7_pays 20 = .ok (.iadd, 1) := by decide +kernel
theorem dX7_pays_21 : decode cX7_pays 21 = .ok (.iaload, 1) := by decide +kernel
theorem dX7_pays_22 : decode cX7_pays 22 = .ok (.goto 4, 3) := by decide +kernel
theorem dX7_pays_25 : decode cX7_pays 25 = .ok (.iload_n 3, 1) := by decide +kernel
theorem dX7_pays_26 : decode cX7_pays 26 = .ok (.istore 4, 2) := by decide +kernel
theorem dX7_pays_28 : decode cX7_pays 28 = .ok (.aload_n 0, 1) := by decide +kernel
theorem dX7_pays_29 : decode cX7_pays 29 = .ok (.getfield 7, 3) := by decide +kernel
theorem dX7_pays_32 : decode cX7_pays 32 = .ok (.bipush 8, 2) := by decide +kernel
theorem dX7_pays_34 : decode cX7_pays 34 = .ok (.iload_n 1, 1) := by decide +kernel
theorem dX7_pays_35 : decode cX7_pays 35 = .ok (.iadd, 1) := by decide +kernel
theorem dX7_pays_36 : decode cX7_pays 36 = .ok (.dup2, 1) := by decide +kernel
theorem dX7_pays_37 : decode cX7_pays 37 = .ok (.iaload, 1) := by decide +kernel
theorem dX7_pays_38 : decode cX7_pays 38 = .ok (.iload 4, 2) := by decide +kernel
theorem dX7_pays_40 : decode cX7_pays 40 = .ok (.isub, 1) := by decide +kernel
theorem dX7_pays_41 : decode cX7_pays 41 = .ok (.iastore, 1) := by decide +kernel
theorem dX7_pays_42 : decode cX7_pays 42 = .ok (.aload_n 0, 1) := by decide +kernel
theorem dX7_pays_43 : decode cX7_pays 43 = .ok (.iload_n 2, 1) := by decide +kernel
theorem dX7_pays_44 : decode cX7_pays 44 = .ok (.iload 4, 2) := by decide +kernel
theorem dX7_pays_46 : decode cX7_pays 46 = .ok (.invokevirtual 107, 3) := by decide +kernel
theorem dX7_pays_49 : decode cX7_pays 49 = .ok (.return_, 1) := by decide +kernel
theorem dX7_checks_0 : decode cX7_checks 0 = .ok (.iconst 1, 1) := by decide +kernel
theorem dX7_checks_1 : decode cX7_checks 1 = .ok (.iload_n 2, 1) := by decide +kernel
theorem dX7_checks_2 : decode cX7_checks 2 = .ok (.iload_n 3, 1) := by decide +kernel
theorem dX7_checks_3 : decode cX7_checks 3 = .ok (.invokestatic 37, 3) := by decide +kernel
theorem dX7_checks_6 : decode cX7_checks 6 = .ok (.ishl, 1) := by decide +kernel
theorem dX7_checks_7 : decode cX7_checks 7 = .ok (.istore 4, 2) := by decide +kernel
theorem dX7_checks_9 : decode cX7_checks 9 = .ok (.aload_n 0, 1) := by decide +kernel
theorem dX7_checks_10 : decode cX7_checks 10 = .ok (.invokevirtual 87, 3) := by decide +kernel
theorem dX7_checks_13 : decode cX7_checks 13 = .ok (.istore 5, 2) := by decide +kernel
theorem dX7_checks_15 : decode cX7_checks 15 = .ok (.aload_n 0, 1) := by decide +kernel
theorem dX7_checks_16 : decode cX7_checks 16 = .ok (.getfield 7, 3) := by decide +kernel
theorem dX7_checks_19 : decode cX7_checks 19 = .ok (.bipush 11, 2) := by decide +kernel
theorem dX7_checks_21 : decode cX7_checks 21 = .ok (.iload_n 1, 1) := by decide +kernel
theorem dX7_checks_22 : decode cX7_checks 22 = .ok (.iadd, 1) := by decide +kernel
theorem dX7_checks_23 : decode cX7_checks 23 = .ok (.iaload, 1) := by decide +kernel
theorem dX7_checks_24 : decode cX7_checks 24 = .ok (.iload 4, 2) := by decide +kernel
theorem dX7_checks_26 : decode cX7_checks 26 = .ok (.iand, 1) := by decide +kernel
theorem dX7_checks_27 : decode cX7_checks 27 = .ok (.ifCond .eq 7, 3) := by decide +kernel
theorem dX7_checks_30 : decode cX7_checks 30 = .ok (.iconst 1, 1) := by decide +kernel
theorem dX7_checks_31 : decode cX7_checks 31 = .ok (.goto 4, 3) := by decide +kernel
theorem dX7_checks_34 : decode cX7_checks 34 = .ok (.iconst 0, 1) := by decide +kernel
theorem dX7_checks_35 : decode cX7_checks 35 = .ok (.aload_n 0, 1) := by decide +kernel
theorem dX7_checks_36 : decode cX7_checks 36 = .ok (.getfield 7, 3) := by decide +kernel
theorem dX7_checks_39 : decode cX7_checks 39 = .ok (.iconst 0, 1) := by decide +kernel
theorem dX7_checks_40 : decode cX7_checks 40 = .ok (.iaload, 1) := by decide +kernel
theorem dX7_checks_41 : decode cX7_checks 41 = .ok (.iload 4, 2) := by decide +kernel
theorem dX7_checks_43 : decode cX7_checks 43 = .ok (.iand, 1) := by decide +kernel
theorem dX7_checks_44 : decode cX7_checks 44 = .ok (.ifCond .eq 7, 3) := by decide +kernel
theorem dX7_checks_47 : decode cX7_checks 47 = .ok (.iconst 1, 1) := by decide +kernel
theorem dX7_checks_48 : decode cX7_checks 48 = .ok (.goto 4, 3) := by decide +kernel
theorem dX7_checks_51 : decode cX7_checks 51 = .ok (.iconst 0, 1) := by decide +kernel
theorem dX7_checks_52 : decode cX7_checks 52 = .ok (.if_icmp .eq 7, 3) := by decide +kernel
theorem dX7_checks_55 : decode cX7_checks 55 = .ok (.iconst 1, 1) := by decide +kernel
theorem dX7_checks_56 : decode cX7_checks 56 = .ok (.goto 4, 3) := by decide +kernel
theorem dX7_checks_59 : decode cX7_checks 59 = .ok (.iconst 0, 1) := by decide +kernel
theorem dX7_checks_60 : decode cX7_checks 60 = .ok (.istore 6, 2) := by decide +kernel
theorem dX7_checks_62 : decode cX7_checks 62 = .ok (.aload_n 0, 1) := by decide +kernel
theorem dX7_checks_63 : decode cX7_checks 63 = .ok (.iload 5, 2) := by decide +kernel
theorem dX7_checks_65 : decode cX7_checks 65 = .ok (.iload_n 1, 1) := by decide +kernel
theorem dX7_checks_66 : decode cX7_checks 66 = .ok (.aload_n 0, 1) := by decide +kernel
theorem dX7_checks_67 : decode cX7_checks 67 = .ok (.getfield 7, 3) := by decide +kernel
theorem dX7_checks_70 : decode cX7_checks 70 = .ok (.iconst 2, 1) := by decide +kernel
theorem dX7_checks_71 : decode cX7_checks 71 = .ok (.iaload, 1) := by decide +kernel
theorem dX7_checks_72 : decode cX7_checks 72 = .ok (.invokevirtual 111, 3) := by decide +kernel
theorem dX7_checks_75 : decode cX7_checks 75 = .ok (.aload_n 0, 1) := by decide +kernel
theorem dX7_checks_76 : decode cX7_checks 76 = .ok (.getfield 7, 3) := by decide +kernel
theorem dX7_checks_79 : decode cX7_checks 79 = .ok (.bipush 17, 2) := by decide +kernel
theorem dX7_checks_81 : decode cX7_checks 81 = .ok (.dup2, 1) := by decide +kernel
theorem dX7_checks_82 : decode cX7_checks 82 = .ok (.iaload, 1) := by decide +kernel
theorem dX7_checks_83 : decode cX7_checks 83 = .ok (.iload 4, 2) := by decide +kernel
theorem dX7_checks_85 : decode cX7_checks 85 = .ok (.ior, 1) := by decide +kernel
theorem dX7_checks_86 : decode cX7_checks 86 = .ok (.iastore, 1) := by decide +kernel
theorem dX7_checks_87 : decode cX7_checks 87 = .ok (.aload_n 0, 1) := by decide +kernel
theorem dX7_checks_88 : decode cX7_checks 88 = .ok (.getfield 7, 3) := by decide +kernel
theorem dX7_checks_91 : decode cX7_checks 91 = .ok (.bipush 21, 2) := by decide +kernel
theorem dX7_checks_93 : decode cX7_checks 93 = .ok (.iload 5, 2) := by decide +kernel
theorem dX7_checks_95 : decode cX7_checks 95 = .ok (.iadd, 1) := by decide +kernel
theorem dX7_checks_96 : decode cX7_checks 96 = .ok (.dup2, 1) := by decide +kernel
theorem dX7_checks_97 : decode cX7_checks 97 = .ok (.iaload, 1) := by decide +kernel
theorem dX7_checks_98 : decode cX7_checks 98 = .ok (.iconst 1, 1) := by decide +kernel
theorem dX7_checks_99 : decode cX7_checks 99 = .ok (.iadd, 1) := by decide +kernel
theorem dX7_checks_100 : decode cX7_checks 100 = .ok (.iastore, 1) := by decide +kernel
theorem dX7_checks_101 : decode cX7_checks 101 = .ok (.iload 6, 2) := by decide +kernel
theorem dX7_checks_103 : decode cX7_checks 103 = .ok (.ifCond .eq 43, 3) := by decide +kernel
theorem dX7_checks_106 : decode cX7_checks 106 = .ok (.aload_n 0, 1) := by decide +kernel
theorem dX7_checks_107 : decode cX7_checks 107 = .ok (.iload_n 1, 1) := by decide +kernel
theorem dX7_checks_108 : decode cX7_checks 108 = .ok (.iload 5, 2) := by decide +kernel
theorem dX7_checks_110 : decode cX7_checks 110 = .ok (.aload_n 0, 1) := by decide +kernel
theorem dX7_checks_111 : decode cX7_checks 111 = .ok (.getfield 7, 3) := by decide +kernel
theorem dX7_checks_114 : decode cX7_checks 114 = .ok (.iconst 3, 1) := by decide +kernel
theorem dX7_checks_115 : decode cX7_checks 115 = .ok (.iaload, 1) := by decide +kernel
theorem dX7_checks_116 : decode cX7_checks 116 = .ok (.invokevirtual 111, 3) := by decide +kernel
theorem dX7_checks_119 : decode cX7_checks 119 = .ok (.aload_n 0, 1) := by decide +kernel
theorem dX7_checks_120 : decode cX7_checks 120 = .ok (.getfield 7, 3) := by decide +kernel
theorem dX7_checks_123 : decode cX7_checks 123 = .ok (.bipush 18, 2) := by decide +kernel
theorem dX7_checks_125 : decode cX7_checks 125 = .ok (.iload_n 1, 1) := by decide +kernel
theorem dX7_checks_126 : decode cX7_checks 126 = .ok (.iadd, 1) := by decide +kernel
theorem dX7_checks_127 : decode cX7_checks 127 = .ok (.dup2, 1) := by decide +kernel
theorem dX7_checks_128 : decode cX7_checks 128 = .ok (.iaload, 1) := by decide +kernel
theorem dX7_checks_129 : decode cX7_checks 129 = .ok (.iconst 1, 1) := by decide +kernel
theorem dX7_checks_130 : decode cX7_checks 130 = .ok (.iadd, 1) := by decide +kernel
theorem dX7_checks_131 : decode cX7_checks 131 = .ok (.iastore, 1) := by decide +kernel
theorem dX7_checks_132 : decode cX7_checks 132 = .ok (.aload_n 0, 1) := by decide +kernel
theorem dX7_checks_133 : decode cX7_checks 133 = .ok (.getfield 7, 3) := by decide +kernel
theorem dX7_checks_136 : decode cX7_checks 136 = .ok (.bipush 24, 2) := by decide +kernel
theorem dX7_checks_138 : decode cX7_checks 138 = .ok (.iload 5, 2) := by decide +kernel
theorem dX7_checks_140 : decode cX7_checks 140 = .ok (.iadd, 1) := by decide +kernel
theorem dX7_checks_141 : decode cX7_checks 141 = .ok (.dup2, 1) := by decide +kernel
theorem dX7_checks_142 : decode cX7_checks 142 = .ok (.iaload, 1) := by decide +kernel
theorem dX7_checks_143 : decode cX7_checks 143 = .ok (.iconst 1, 1) := by decide +kernel
theorem dX7_checks_144 : decode cX7_checks 144 = .ok (.iadd, 1) := by decide +kernel
theorem dX7_checks_145 : decode cX7_checks 145 = .ok (.iastore, 1) := by decide +kernel
theorem dX7_checks_146 : decode cX7_checks 146 = .ok (.aload_n 0, 1) := by decide +kernel
theorem dX7_checks_147 : decode cX7_checks 147 = .ok (.invokevirtual 91, 3) := by decide +kernel
theorem dX7_checks_150 : decode cX7_checks 150 = .ok (.iload 6, 2) := by decide +kernel
theorem dX7_checks_152 : decode cX7_checks 152 = .ok (.ifCond .eq 7, 3) := by decide +kernel
theorem dX7_checks_155 : decode cX7_checks 155 = .ok (.iconst 1, 1) := by decide +kernel
theorem dX7_checks_156 : decode cX7_checks 156 = .ok (.goto 4, 3) := by decide +kernel
theorem dX7_checks_159 : decode cX7_checks 159 = .ok (.iconst 0, 1) := by decide +kernel
theorem dX7_checks_160 : decode cX7_checks 160 = .ok (.ireturn, 1) := by decide +kernel
theorem dX7_check_0 : decode cX7_check 0 = .ok (.aload_n 0, 1) := by decide +kernel
theorem dX7_check_1 : decode cX7_check 1 = .ok (.iload_n 1, 1) := by decide +kernel
theorem dX7_check_2 : decode cX7_check 2 = .ok (.iload_n 2, 1) := by decide +kernel
theorem dX7_check_3 : decode cX7_check 3 = .ok (.iload_n 3, 1) := by decide +kernel
theorem dX7_check_4 : decode cX7_check 4 = .ok (.invokevirtual 115, 3) := by decide +kernel
theorem dX7_check_7 : decode cX7_check 7 = .ok (.istore 4, 2) := by decide +kernel
theorem dX7_check_9 : decode cX7_check 9 = .ok (.iload 4, 2) := by decide +kernel
theorem dX7_check_11 : decode cX7_check 11 = .ok (.ifCond .ge 6, 3) := by decide +kernel
theorem dX7_check_14 : decode cX7_check 14 = .ok (.iload 4, 2) := by decide +kernel
theorem dX7_check_16 : decode cX7_check 16 = .ok (.ireturn, 1) := by decide +kernel
theorem dX7_check_17 : decode cX7_check 17 = .ok (.aload_n 0, 1) := by decide +kernel
theorem dX7_check_18 : decode cX7_check 18 = .ok (.invokevirtual 64, 3) := by decide +kernel
theorem dX7_check_21 : decode cX7_check 21 = .ok (.aload_n 0, 1) := by decide +kernel
theorem dX7_check_22 : decode cX7_check 22 = .ok (.iload_n 1, 1) := by decide +kernel
theorem dX7_check_23 : decode cX7_check 23 = .ok (.iload_n 2, 1) := by decide +kernel
theorem dX7_check_24 : decode cX7_check 24 = .ok (.iload_n 3, 1) := by decide +kernel
theorem dX7_check_25 : decode cX7_check 25 = .ok (.invokevirtual 118, 3) := by decide +kernel
theorem dX7_check_28 : decode cX7_check 28 = .ok (.ireturn, 1) := by decide +kernel
theorem dX7_barDig_0 : decode cX7_barDig 0 = .ok (.iload_n 1, 1) := by decide +kernel
theorem dX7_barDig_1 : decode cX7_barDig 1 = .ok (.invokestatic 67, 3) := by decide +kernel
theorem dX7_barDig_4 : decode cX7_barDig 4 = .ok (.ifCond .ne 7, 3) := by decide +kernel
theorem dX7_barDig_7 : decode cX7_barDig 7 = .ok (.iconst (-1), 1) := by decide +kernel
theorem dX7_barDig_8 : decode cX7_barDig 8 = .ok (.goto 37, 3) := by decide +kernel
theorem dX7_barDig_11 : decode cX7_barDig 11 = .ok (.aload_n 0, 1) := by decide +kernel
theorem dX7_barDig_12 : decode cX7_barDig 12 = .ok (.invokevirtual 84, 3) := by decide +kernel
theorem dX7_barDig_15 : decode cX7_barDig 15 = .ok (.ifCond .eq 24, 3) := by decide +kernel
theorem dX7_barDig_18 : decode cX7_barDig 18 = .ok (.aload_n 0, 1) := by decide +kernel
theorem dX7_barDig_19 : decode cX7_barDig 19 = .ok (.getfield 7, 3) := by decide +kernel
theorem dX7_barDig_22 : decode cX7_barDig 22 = .ok (.bipush 8, 2) := by decide +kernel
theorem dX7_barDig_24 : decode cX7_barDig 24 = .ok (.aload_n 0, 1) := by decide +kernel
theorem dX7_barDig_25 : decode cX7_barDig 25 = .ok (.invokevirtual 87, 3) := by decide +kernel
theorem dX7_barDig_28 : decode cX7_barDig 28 = .ok (.iadd, 1) := by decide +kernel
theorem dX7_barDig_29 : decode cX7_barDig 29 = .ok (.iaload, 1) := by decide +kernel
theorem dX7_barDig_30 : decode cX7_barDig 30 = .ok (.aload_n 0, 1) := by decide +kernel
theorem dX7_barDig_31 : decode cX7_barDig 31 = .ok (.getfield 7, 3) := by decide +kernel
theorem dX7_barDig_34 : decode cX7_barDig 34 = .ok (.iconst 4, 1) := by decide +kernel
theorem dX7_barDig_35 : decode cX7_barDig 35 = .ok (.iaload, 1) := by decide +kernel
theorem dX7_barDig_36 : decode cX7_barDig 36 = .ok (.if_icmp .ge 8, 3) := by decide +kernel
theorem dX7_barDig_39 : decode cX7_barDig 39 = .ok (.bipush (-5), 2) := by decide +kernel
theorem dX7_barDig_41 : decode cX7_barDig 41 = .ok (.goto 4, 3) := by decide +kernel
theorem dX7_barDig_44 : decode cX7_barDig 44 = .ok (.iconst 0, 1) := by decide +kernel
theorem dX7_barDig_45 : decode cX7_barDig 45 = .ok (.ireturn, 1) := by decide +kernel
theorem dX7_digs_0 : decode cX7_digs 0 = .ok (.aload_n 0, 1) := by decide +kernel
theorem dX7_digs_1 : decode cX7_digs 1 = .ok (.invokevirtual 87, 3) := by decide +kernel
theorem dX7_digs_4 : decode cX7_digs 4 = .ok (.istore_n 2, 1) := by decide +kernel
theorem dX7_digs_5 : decode cX7_digs 5 = .ok (.aload_n 0, 1) := by decide +kernel
theorem dX7_digs_6 : decode cX7_digs 6 = .ok (.getfield 7, 3) := by decide +kernel
theorem dX7_digs_9 : decode cX7_digs 9 = .ok (.bipush 8, 2) := by decide +kernel
theorem dX7_digs_11 : decode cX7_digs 11 = .ok (.iload_n 2, 1) := by decide +kernel
theorem dX7_digs_12 : decode cX7_digs 12 = .ok (.iadd, 1) := by decide +kernel
theorem dX7_digs_13 : decode cX7_digs 13 = .ok (.dup2, 1) := by decide +kernel
theorem dX7_digs_14 : decode cX7_digs 14 = .ok (.iaload, 1) := by decide +kernel
theorem dX7_digs_15 : decode cX7_digs 15 = .ok (.aload_n 0, 1) := by decide +kernel
theorem dX7_digs_16 : decode cX7_digs 16 = .ok (.getfield 7, 3) := by decide +kernel
theorem dX7_digs_19 : decode cX7_digs 19 = .ok (.iconst 4, 1) := by decide +kernel
theorem dX7_digs_20 : decode cX7_digs 20 = .ok (.iaload, 1) := by decide +kernel
theorem dX7_digs_21 : decode cX7_digs 21 = .ok (.isub, 1) := by decide +kernel
theorem dX7_digs_22 : decode cX7_digs 22 = .ok (.iastore, 1) := by decide +kernel
theorem dX7_digs_23 : decode cX7_digs 23 = .ok (.aload_n 0, 1) := by decide +kernel
theorem dX7_digs_24 : decode cX7_digs 24 = .ok (.getfield 7, 3) := by decide +kernel
theorem dX7_digs_27 : decode cX7_digs 27 = .ok (.bipush 27, 2) := by decide +kernel
theorem dX7_digs_29 : decode cX7_digs 29 = .ok (.iload_n 2, 1) := by decide +kernel
theorem dX7_digs_30 : decode cX7_digs 30 = .ok (.iadd, 1) := by decide +kernel
theorem dX7_digs_31 : decode cX7_digs 31 = .ok (.dup2, 1) := by decide +kernel
theorem dX7_digs_32 : decode cX7_digs 32 = .ok (.iaload, 1) := by decide +kernel
theorem dX7_digs_33 : decode cX7_digs 33 = .ok (.iconst 1, 1) := by decide +kernel
theorem dX7_digs_34 : decode cX7_digs 34 = .ok (.iadd, 1) := by decide +kernel
theorem dX7_digs_35 : decode cX7_digs 35 = .ok (.iastore, 1) := by decide +kernel
theorem dX7_digs_36 : decode cX7_digs 36 = .ok (.aload_n 0, 1) := by decide +kernel
theorem dX7_digs_37 : decode cX7_digs 37 = .ok (.getfield 7, 3) := by decide +kernel
theorem dX7_digs_40 : decode cX7_digs 40 = .ok (.bipush 32, 2) := by decide +kernel
theorem dX7_digs_42 : decode cX7_digs 42 = .ok (.aload_n 0, 1) := by decide +kernel
theorem dX7_digs_43 : decode cX7_digs 43 = .ok (.getfield 7, 3) := by decide +kernel
theorem dX7_digs_46 : decode cX7_digs 46 = .ok (.bipush 31, 2) := by decide +kernel
theorem dX7_digs_48 : decode cX7_digs 48 = .ok (.iaload, 1) := by decide +kernel
theorem dX7_digs_49 : decode cX7_digs 49 = .ok (.iadd, 1) := by decide +kernel
theorem dX7_digs_50 : decode cX7_digs 50 = .ok (.iload_n 1, 1) := by decide +kernel
theorem dX7_digs_51 : decode cX7_digs 51 = .ok (.iastore, 1) := by decide +kernel
theorem dX7_digs_52 : decode cX7_digs 52 = .ok (.aload_n 0, 1) := by decide +kernel
theorem dX7_digs_53 : decode cX7_digs 53 = .ok (.getfield 7, 3) := by decide +kernel
theorem dX7_digs_56 : decode cX7_digs 56 = .ok (.bipush 31, 2) := by decide +kernel
theorem dX7_digs_58 : decode cX7_digs 58 = .ok (.dup2, 1) := by decide +kernel
theorem dX7_digs_59 : decode cX7_digs 59 = .ok (.iaload, 1) := by decide +kernel
theorem dX7_digs_60 : decode cX7_digs 60 = .ok (.iconst 1, 1) := by decide +kernel
theorem dX7_digs_61 : decode cX7_digs 61 = .ok (.iadd, 1) := by decide +kernel
theorem dX7_digs_62 : decode cX7_digs 62 = .ok (.iastore, 1) := by decide +kernel
theorem dX7_digs_63 : decode cX7_digs 63 = .ok (.aload_n 0, 1) := by decide +kernel
theorem dX7_digs_64 : decode cX7_digs 64 = .ok (.iload_n 1, 1) := by decide +kernel
theorem dX7_digs_65 : decode cX7_digs 65 = .ok (.aload_n 0, 1) := by decide +kernel
theorem dX7_digs_66 : decode cX7_digs 66 = .ok (.getfield 7, 3) := by decide +kernel
theorem dX7_digs_69 : decode cX7_digs 69 = .ok (.iconst 0, 1) := by decide +kernel
theorem dX7_digs_70 : decode cX7_digs 70 = .ok (.iaload, 1) := by decide +kernel
theorem dX7_digs_71 : decode cX7_digs 71 = .ok (.invokevirtual 121, 3) := by decide +kernel
theorem dX7_digs_74 : decode cX7_digs 74 = .ok (.aload_n 0, 1) := by decide +kernel
theorem dX7_digs_75 : decode cX7_digs 75 = .ok (.getfield 26, 3) := by decide +kernel
theorem dX7_digs_78 : decode cX7_digs 78 = .ok (.aload_n 0, 1) := by decide +kernel
theorem dX7_digs_79 : decode cX7_digs 79 = .ok (.getfield 7, 3) := by decide +kernel
theorem dX7_digs_82 : decode cX7_digs 82 = .ok (.iconst 1, 1) := by decide +kernel
theorem dX7_digs_83 : decode cX7_digs 83 = .ok (.iaload, 1) := by decide +kernel
theorem dX7_digs_84 : decode cX7_digs 84 = .ok (.iaload, 1) := by decide +kernel
theorem dX7_digs_85 : decode cX7_digs 85 = .ok (.istore_n 3, 1) := by decide +kernel
theorem dX7_digs_86 : decode cX7_digs 86 = .ok (.aload_n 0, 1) := by decide +kernel
theorem dX7_digs_87 : decode cX7_digs 87 = .ok (.invokevirtual 91, 3) := by decide +kernel
theorem dX7_digs_90 : decode cX7_digs 90 = .ok (.iload_n 3, 1) := by decide +kernel
theorem dX7_digs_91 : decode cX7_digs 91 = .ok (.ifCond .ne 30, 3) := by decide +kernel
theorem dX7_digs_94 : decode cX7_digs 94 = .ok (.aload_n 0, 1) := by decide +kernel
theorem dX7_digs_95 : decode cX7_digs 95 = .ok (.iload_n 2, 1) := by decide +kernel
theorem dX7_digs_96 : decode cX7_digs 96 = .ok (.aload_n 0, 1) := by decide +kernel
theorem dX7_digs_97 : decode cX7_digs 97 = .ok (.getfield 7, 3) := by decide +kernel
theorem dX7_digs_100 : decode cX7_digs 100 = .ok (.iconst 5, 1) := by decide +kernel
theorem dX7_digs_101 : decode cX7_digs 101 = .ok (.iaload, 1) := by decide +kernel
theorem dX7_digs_102 : decode cX7_digs 102 = .ok (.invokevirtual 107, 3) := by decide +kernel
theorem dX7_digs_105 : decode cX7_digs 105 = .ok (.aload_n 0, 1) := by decide +kernel
theorem dX7_digs_106 : decode cX7_digs 106 = .ok (.getfield 7, 3) := by decide +kernel
theorem dX7_digs_109 : decode cX7_digs 109 = .ok (.bipush 30, 2) := by decide +kernel
theorem dX7_digs_111 : decode cX7_digs 111 = .ok (.iload_n 2, 1) := by decide +kernel
theorem dX7_digs_112 : decode cX7_digs 112 = .ok (.iastore, 1) := by decide +kernel
theorem dX7_digs_113 : decode cX7_digs 113 = .ok (.aload_n 0, 1) := by decide +kernel
theorem dX7_digs_114 : decode cX7_digs 114 = .ok (.getfield 7, 3) := by decide +kernel
theorem dX7_digs_117 : decode cX7_digs 117 = .ok (.bipush 6, 2) := by decide +kernel
theorem dX7_digs_119 : decode cX7_digs 119 = .ok (.iconst 2, 1) := by decide +kernel
theorem dX7_digs_120 : decode cX7_digs 120 = .ok (.iastore, 1) := by decide +kernel
theorem dX7_digs_121 : decode cX7_digs 121 = .ok (.iload_n 3, 1) := by decide +kernel
theorem dX7_digs_122 : decode cX7_digs 122 = .ok (.ireturn, 1) := by decide +kernel
theorem dX7_dig_0 : decode cX7_dig 0 = .ok (.aload_n 0, 1) := by decide +kernel
theorem dX7_dig_1 : decode cX7_dig 1 = .ok (.iload_n 1, 1) := by decide +kernel
theorem dX7_dig_2 : decode cX7_dig 2 = .ok (.invokevirtual 124, 3) := by decide +kernel
theorem dX7_dig_5 : decode cX7_dig 5 = .ok (.istore_n 2, 1) := by decide +kernel
theorem dX7_dig_6 : decode cX7_dig 6 = .ok (.iload_n 2, 1) := by decide +kernel
theorem dX7_dig_7 : decode cX7_dig 7 = .ok (.ifCond .ge 5, 3) := by decide +kernel
theorem dX7_dig_10 : decode cX7_dig 10 = .ok (.iload_n 2, 1) := by decide +kernel
theorem dX7_dig_11 : decode cX7_dig 11 = .ok (.ireturn, 1) := by decide +kernel
theorem dX7_dig_12 : decode cX7_dig 12 = .ok (.aload_n 0, 1) := by decide +kernel
theorem dX7_dig_13 : decode cX7_dig 13 = .ok (.invokevirtual 64, 3) := by decide +kernel
theorem dX7_dig_16 : decode cX7_dig 16 = .ok (.aload_n 0, 1) := by decide +kernel
theorem dX7_dig_17 : decode cX7_dig 17 = .ok (.iload_n 1, 1) := by decide +kernel
theorem dX7_dig_18 : decode cX7_dig 18 = .ok (.invokevirtual 127, 3) := by decide +kernel
theorem dX7_dig_21 : decode cX7_dig 21 = .ok (.ireturn, 1) := by decide +kernel
theorem dX7_pass_0 : decode cX7_pass 0 = .ok (.aload_n 0, 1) := by decide +kernel
theorem dX7_pass_1 : decode cX7_pass 1 = .ok (.invokevirtual 84, 3) := by decide +kernel
theorem dX7_pass_4 : decode cX7_pass 4 = .ok (.ifCond .ne 6, 3) := by decide +kernel
theorem dX7_pass_7 : decode cX7_pass 7 = .ok (.bipush (-5), 2) := by decide +kernel
theorem dX7_pass_9 : decode cX7_pass 9 = .ok (.ireturn, 1) := by decide +kernel
theorem dX7_pass_10 : decode cX7_pass 10 = .ok (.aload_n 0, 1) := by decide +kernel
theorem dX7_pass_11 : decode cX7_pass 11 = .ok (.invokevirtual 64, 3) := by decide +kernel
theorem dX7_pass_14 : decode cX7_pass 14 = .ok (.aload_n 0, 1) := by decide +kernel
theorem dX7_pass_15 : decode cX7_pass 15 = .ok (.invokevirtual 91, 3) := by decide +kernel
theorem dX7_pass_18 : decode cX7_pass 18 = .ok (.aload_n 0, 1) := by decide +kernel
theorem dX7_pass_19 : decode cX7_pass 19 = .ok (.invokevirtual 87, 3) := by decide +kernel
theorem dX7_pass_22 : decode cX7_pass 22 = .ok (.ireturn, 1) := by decide +kernel
theorem dX7_barPair_0 : decode cX7_barPair 0 = .ok (.iload_n 0, 1) := by decide +kernel
theorem dX7_barPair_1 : decode cX7_barPair 1 = .ok (.invokestatic 67, 3) := by decide +kernel
theorem dX7_barPair_4 : decode cX7_barPair 4 = .ok (.ifCond .eq 10, 3) := by decide +kernel
theorem dX7_barPair_7 : decode cX7_barPair 7 = .ok (.iload_n 1, 1) := by decide +kernel
theorem dX7_barPair_8 : decode cX7_barPair 8 = .ok (.invokestatic 67, 3) := by decide +kernel
theorem dX7_barPair_11 : decode cX7_barPair 11 = .ok (.ifCond .ne 7, 3) := by decide +kernel
theorem dX7_barPair_14 : decode cX7_barPair 14 = .ok (.iconst (-1), 1) := by decide +kernel
theorem dX7_barPair_15 : decode cX7_barPair 15 = .ok (.goto 14, 3) := by decide +kernel
theorem dX7_barPair_18 : decode cX7_barPair 18 = .ok (.iload_n 0, 1) := by decide +kernel
theorem dX7_barPair_19 : decode cX7_barPair 19 = .ok (.iload_n 1, 1) := by decide +kernel
theorem dX7_barPair_20 : decode cX7_barPair 20 = .ok (.if_icmp .ne 8, 3) := by decide +kernel
theorem dX7_barPair_23 : decode cX7_barPair 23 = .ok (.bipush (-2), 2) := by decide +kernel
theorem dX7_barPair_25 : decode cX7_barPair 25 = .ok (.goto 4, 3) := by decide +kernel
theorem dX7_barPair_28 : decode cX7_barPair 28 = .ok (.iconst 0, 1) := by decide +kernel
theorem dX7_barPair_29 : decode cX7_barPair 29 = .ok (.ireturn, 1) := by decide +kernel
theorem dX7_seen_0 : decode cX7_seen 0 = .ok (.aload_n 0, 1) := by decide +kernel
theorem dX7_seen_1 : decode cX7_seen 1 = .ok (.getfield 45, 3) := by decide +kernel
theorem dX7_seen_4 : decode cX7_seen 4 = .ok (.iload_n 1, 1) := by decide +kernel
theorem dX7_seen_5 : decode cX7_seen 5 = .ok (.ishr, 1) := by decide +kernel
theorem dX7_seen_6 : decode cX7_seen 6 = .ok (.iconst 1, 1) := by decide +kernel
theorem dX7_seen_7 : decode cX7_seen 7 = .ok (.iand, 1) := by decide +kernel
theorem dX7_seen_8 : decode cX7_seen 8 = .ok (.ifCond .ne 8, 3) := by decide +kernel
theorem dX7_seen_11 : decode cX7_seen 11 = .ok (.bipush (-6), 2) := by decide +kernel
theorem dX7_seen_13 : decode cX7_seen 13 = .ok (.goto 11, 3) := by decide +kernel
theorem dX7_seen_16 : decode cX7_seen 16 = .ok (.aload_n 0, 1) := by decide +kernel
theorem dX7_seen_17 : decode cX7_seen 17 = .ok (.getfield 48, 3) := by decide +kernel
theorem dX7_seen_20 : decode cX7_seen 20 = .ok (.iload_n 1, 1) := by decide +kernel
theorem dX7_seen_21 : decode cX7_seen 21 = .ok (.ishr, 1) := by decide +kernel
theorem dX7_seen_22 : decode cX7_seen 22 = .ok (.iconst 1, 1) := by decide +kernel
theorem dX7_seen_23 : decode cX7_seen 23 = .ok (.iand, 1) := by decide +kernel
theorem dX7_seen_24 : decode cX7_seen 24 = .ok (.ireturn, 1) := by decide +kernel
theorem dX7_claimers_0 : decode cX7_claimers 0 = .ok (.iconst 0, 1) := by decide +kernel
theorem dX7_claimers_1 : decode cX7_claimers 1 = .ok (.istore_n 3, 1) := by decide +kernel
theorem dX7_claimers_2 : decode cX7_claimers 2 = .ok (.iconst 0, 1) := by decide +kernel
theorem dX7_claimers_3 : decode cX7_claimers 3 = .ok (.istore 4, 2) := by decide +kernel
theorem dX7_claimers_5 : decode cX7_claimers 5 = .ok (.iload 4, 2) := by decide +kernel
theorem dX7_claimers_7 : decode cX7_claimers 7 = .ok (.iconst 3, 1) := by decide +kernel
theorem dX7_claimers_8 : decode cX7_claimers 8 = .ok (.if_icmp .ge 28, 3) := by decide +kernel
theorem dX7_claimers_11 : decode cX7_claimers 11 = .ok (.iload_n 3, 1) := by decide +kernel
theorem dX7_claimers_12 : decode cX7_claimers 12 = .ok (.aload_n 0, 1) := by decide +kernel
theorem dX7_claimers_13 : decode cX7_claimers 13 = .ok (.getfield 7, 3) := by decide +kernel
theorem dX7_claimers_16 : decode cX7_claimers 16 = .ok (.iload_n 1, 1) := by decide +kernel
theorem dX7_claimers_17 : decode cX7_claimers 17 = .ok (.iload 4, 2) := by decide +kernel
theorem dX7_claimers_19 : decode cX7_claimers 19 = .ok (.iadd, 1) := by decide +kernel
theorem dX7_claimers_20 : decode cX7_claimers 20 = .ok (.iaload, 1) := by decide +kernel
theorem dX7_claimers_21 : decode cX7_claimers 21 = .ok (.iload_n 2, 1) := by decide +kernel
theorem dX7_claimers_22 : decode cX7_claimers 22 = .ok (.ishr, 1) := by decide +kernel
theorem dX7_claimers_23 : decode cX7_claimers 23 = .ok (.iconst 1, 1) := by decide +kernel
theorem dX7_claimers_24 : decode cX7_claimers 24 = .ok (.iand, 1) := by decide +kernel
theorem dX7_claimers_25 : decode cX7_claimers 25 = .ok (.iload 4, 2) := by decide +kernel
theorem dX7_claimers_27 : decode cX7_claimers 27 = .ok (.ishl, 1) := by decide +kernel
theorem dX7_claimers_28 : decode cX7_claimers 28 = .ok (.ior, 1) := by decide +kernel
theorem dX7_claimers_29 : decode cX7_claimers 29 = .ok (.istore_n 3, 1) := by decide +kernel
theorem dX7_claimers_30 : decode cX7_claimers 30 = .ok (.iinc 4 1, 3) := by decide +kernel
theorem dX7_claimers_33 : decode cX7_claimers 33 = .ok (.goto (-28), 3) := by decide +kernel
theorem dX7_claimers_36 : decode cX7_claimers 36 = .ok (.iload_n 3, 1) := by decide +kernel
theorem dX7_claimers_37 : decode cX7_claimers 37 = .ok (.ireturn, 1) := by decide +kernel
theorem dX7_ofRoad_0 : decode cX7_ofRoad 0 = .ok (.iload_n 1, 1) := by decide +kernel
theorem dX7_ofRoad_1 : decode cX7_ofRoad 1 = .ok (.iload_n 2, 1) := by decide +kernel
theorem dX7_ofRoad_2 : decode cX7_ofRoad 2 = .ok (.invokestatic 130, 3) := by decide +kernel
theorem dX7_ofRoad_5 : decode cX7_ofRoad 5 = .ok (.istore 4, 2) := by decide +kernel
theorem dX7_ofRoad_7 : decode cX7_ofRoad 7 = .ok (.iload 4, 2) := by decide +kernel
theorem dX7_ofRoad_9 : decode cX7_ofRoad 9 = .ok (.ifCond .ge 6, 3) := by decide +kernel
theorem dX7_ofRoad_12 : decode cX7_ofRoad 12 = .ok (.iload 4, 2) := by decide +kernel
theorem dX7_ofRoad_14 : decode cX7_ofRoad 14 = .ok (.ireturn, 1) := by decide +kernel
theorem dX7_ofRoad_15 : decode cX7_ofRoad 15 = .ok (.iload_n 1, 1) := by decide +kernel
theorem dX7_ofRoad_16 : decode cX7_ofRoad 16 = .ok (.iload_n 2, 1) := by decide +kernel
theorem dX7_ofRoad_17 : decode cX7_ofRoad 17 = .ok (.invokestatic 37, 3) := by decide +kernel
theorem dX7_ofRoad_20 : decode cX7_ofRoad 20 = .ok (.istore 5, 2) := by decide +kernel
theorem dX7_ofRoad_22 : decode cX7_ofRoad 22 = .ok (.aload_n 0, 1) := by decide +kernel
theorem dX7_ofRoad_23 : decode cX7_ofRoad 23 = .ok (.aload_n 0, 1) := by decide +kernel
theorem dX7_ofRoad_24 : decode cX7_ofRoad 24 = .ok (.getfield 7, 3) := by decide +kernel
theorem dX7_ofRoad_27 : decode cX7_ofRoad 27 = .ok (.bipush 17, 2) := by decide +kernel
theorem dX7_ofRoad_29 : decode cX7_ofRoad 29 = .ok (.iaload, 1) := by decide +kernel
theorem dX7_ofRoad_30 : decode cX7_ofRoad 30 = .ok (.invokevirtual 80, 3) := by decide +kernel
theorem dX7_ofRoad_33 : decode cX7_ofRoad 33 = .ok (.iload_n 3, 1) := by decide +kernel
theorem dX7_ofRoad_34 : decode cX7_ofRoad 34 = .ok (.tableswitch 84 0 5 #[38, 41, 46, 59, 66, 75], 38) := by decide +kernel
theorem dX7_ofRoad_72 : decode cX7_ofRoad 72 = .ok (.iload 5, 2) := by decide +kernel
theorem dX7_ofRoad_74 : decode cX7_ofRoad 74 = .ok (.ireturn, 1) := by decide +kernel
theorem dX7_ofRoad_75 : decode cX7_ofRoad 75 = .ok (.iload 5, 2) := by decide +kernel
theorem dX7_ofRoad_77 : decode cX7_ofRoad 77 = .ok (.iconst 3, 1) := by decide +kernel
theorem dX7_ofRoad_78 : decode cX7_ofRoad 78 = .ok (.irem, 1) := by decide +kernel
theorem dX7_ofRoad_79 : decode cX7_ofRoad 79 = .ok (.ireturn, 1) := by decide +kernel
theorem dX7_ofRoad_80 : decode cX7_ofRoad 80 = .ok (.aload_n 0, 1) := by decide +kernel
theorem dX7_ofRoad_81 : decode cX7_ofRoad 81 = .ok (.getfield 7, 3) := by decide +kernel
theorem dX7_ofRoad_84 : decode cX7_ofRoad 84 = .ok (.bipush 17, 2) := by decide +kernel
theorem dX7_ofRoad_86 : decode cX7_ofRoad 86 = .ok (.iaload, 1) := by decide +kernel
theorem dX7_ofRoad_87 : decode cX7_ofRoad 87 = .ok (.iload 5, 2) := by decide +kernel
theorem dX7_ofRoad_89 : decode cX7_ofRoad 89 = .ok (.ishr, 1) := by decide +kernel
theorem dX7_ofRoad_90 : decode cX7_ofRoad 90 = .ok (.iconst 1, 1) := by decide +kernel
theorem dX7_ofRoad_91 : decode cX7_ofRoad 91 = .ok (.iand, 1) := by decide +kernel
theorem dX7_ofRoad_92 : decode cX7_ofRoad 92 = .ok (.ireturn, 1) := by decide +kernel
theorem dX7_ofRoad_93 : decode cX7_ofRoad 93 = .ok (.aload_n 0, 1) := by decide +kernel
theorem dX7_ofRoad_94 : decode cX7_ofRoad 94 = .ok (.iload 5, 2) := by decide +kernel
theorem dX7_ofRoad_96 : decode cX7_ofRoad 96 = .ok (.invokevirtual 133, 3) := by decide +kernel
theorem dX7_ofRoad_99 : decode cX7_ofRoad 99 = .ok (.ireturn, 1) := by decide +kernel
theorem dX7_ofRoad_100 : decode cX7_ofRoad 100 = .ok (.aload_n 0, 1) := by decide +kernel
theorem dX7_ofRoad_101 : decode cX7_ofRoad 101 = .ok (.bipush 11, 2) := by decide +kernel
theorem dX7_ofRoad_103 : decode cX7_ofRoad 103 = .ok (.iload 5, 2) := by decide +kernel
theorem dX7_ofRoad_105 : decode cX7_ofRoad 105 = .ok (.invokevirtual 136, 3) := by decide +kernel
theorem dX7_ofRoad_108 : decode cX7_ofRoad 108 = .ok (.ireturn, 1) := by decide +kernel
theorem dX7_ofRoad_109 : decode cX7_ofRoad 109 = .ok (.aload_n 0, 1) := by decide +kernel
theorem dX7_ofRoad_110 : decode cX7_ofRoad 110 = .ok (.bipush 14, 2) := by decide +kernel
theorem dX7_ofRoad_112 : decode cX7_ofRoad 112 = .ok (.iload 5, 2) := by decide +kernel
theorem dX7_ofRoad_114 : decode cX7_ofRoad 114 = .ok (.invokevirtual 136, 3) := by decide +kernel
theorem dX7_ofRoad_117 : decode cX7_ofRoad 117 = .ok (.ireturn, 1) := by decide +kernel
theorem dX7_ofRoad_118 : decode cX7_ofRoad 118 = .ok (.bipush (-2), 2) := by decide +kernel
theorem dX7_ofRoad_120 : decode cX7_ofRoad 120 = .ok (.ireturn, 1) := by decide +kernel
theorem dX7_knows_0 : decode cX7_knows 0 = .ok (.iload_n 1, 1) := by decide +kernel
theorem dX7_knows_1 : decode cX7_knows 1 = .ok (.invokestatic 104, 3) := by decide +kernel
theorem dX7_knows_4 : decode cX7_knows 4 = .ok (.ifCond .ne 5, 3) := by decide +kernel
theorem dX7_knows_7 : decode cX7_knows 7 = .ok (.iconst (-1), 1) := by decide +kernel
theorem dX7_knows_8 : decode cX7_knows 8 = .ok (.ireturn, 1) := by decide +kernel
theorem dX7_knows_9 : decode cX7_knows 9 = .ok (.iload_n 2, 1) := by decide +kernel
theorem dX7_knows_10 : decode cX7_knows 10 = .ok (.iload_n 3, 1) := by decide +kernel
theorem dX7_knows_11 : decode cX7_knows 11 = .ok (.invokestatic 130, 3) := by decide +kernel
theorem dX7_knows_14 : decode cX7_knows 14 = .ok (.istore 4, 2) := by decide +kernel
theorem dX7_knows_16 : decode cX7_knows 16 = .ok (.iload 4, 2) := by decide +kernel
theorem dX7_knows_18 : decode cX7_knows 18 = .ok (.ifCond .ge 6, 3) := by decide +kernel
theorem dX7_knows_21 : decode cX7_knows 21 = .ok (.iload 4, 2) := by decide +kernel
theorem dX7_knows_23 : decode cX7_knows 23 = .ok (.ireturn, 1) := by decide +kernel
theorem dX7_knows_24 : decode cX7_knows 24 = .ok (.iload_n 2, 1) := by decide +kernel
theorem dX7_knows_25 : decode cX7_knows 25 = .ok (.iload_n 3, 1) := by decide +kernel
theorem dX7_knows_26 : decode cX7_knows 26 = .ok (.invokestatic 37, 3) := by decide +kernel
theorem dX7_knows_29 : decode cX7_knows 29 = .ok (.istore 5, 2) := by decide +kernel
theorem dX7_knows_31 : decode cX7_knows 31 = .ok (.aload_n 0, 1) := by decide +kernel
theorem dX7_knows_32 : decode cX7_knows 32 = .ok (.aload_n 0, 1) := by decide +kernel
theorem dX7_knows_33 : decode cX7_knows 33 = .ok (.getfield 7, 3) := by decide +kernel
theorem dX7_knows_36 : decode cX7_knows 36 = .ok (.bipush 17, 2) := by decide +kernel
theorem dX7_knows_38 : decode cX7_knows 38 = .ok (.iaload, 1) := by decide +kernel
theorem dX7_knows_39 : decode cX7_knows 39 = .ok (.invokevirtual 80, 3) := by decide +kernel
theorem dX7_knows_42 : decode cX7_knows 42 = .ok (.iload 5, 2) := by decide +kernel
theorem dX7_knows_44 : decode cX7_knows 44 = .ok (.iconst 3, 1) := by decide +kernel
theorem dX7_knows_45 : decode cX7_knows 45 = .ok (.irem, 1) := by decide +kernel
theorem dX7_knows_46 : decode cX7_knows 46 = .ok (.iload_n 1, 1) := by decide +kernel
theorem dX7_knows_47 : decode cX7_knows 47 = .ok (.if_icmp .ne 17, 3) := by decide +kernel
theorem dX7_knows_50 : decode cX7_knows 50 = .ok (.aload_n 0, 1) := by decide +kernel
theorem dX7_knows_51 : decode cX7_knows 51 = .ok (.getfield 7, 3) := by decide +kernel
theorem dX7_knows_54 : decode cX7_knows 54 = .ok (.iconst 0, 1) := by decide +kernel
theorem dX7_knows_55 : decode cX7_knows 55 = .ok (.iaload, 1) := by decide +kernel
theorem dX7_knows_56 : decode cX7_knows 56 = .ok (.iload 5, 2) := by decide +kernel
theorem dX7_knows_58 : decode cX7_knows 58 = .ok (.ishr, 1) := by decide +kernel
theorem dX7_knows_59 : decode cX7_knows 59 = .ok (.iconst 1, 1) := by decide +kernel
theorem dX7_knows_60 : decode cX7_knows 60 = .ok (.iand, 1) := by decide +kernel
theorem dX7_knows_61 : decode cX7_knows 61 = .ok (.goto 9, 3) := by decide +kernel
theorem dX7_knows_64 : decode cX7_knows 64 = .ok (.aload_n 0, 1) := by decide +kernel
theorem dX7_knows_65 : decode cX7_knows 65 = .ok (.iload 5, 2) := by decide +kernel
theorem dX7_knows_67 : decode cX7_knows 67 = .ok (.invokevirtual 133, 3) := by decide +kernel
theorem dX7_knows_70 : decode cX7_knows 70 = .ok (.ireturn, 1) := by decide +kernel
theorem dX7_third_0 : decode cX7_third 0 = .ok (.iconst 0, 1) := by decide +kernel
theorem dX7_third_1 : decode cX7_third 1 = .ok (.istore_n 1, 1) := by decide +kernel
theorem dX7_third_2 : decode cX7_third 2 = .ok (.iload_n 0, 1) := by decide +kernel
theorem dX7_third_3 : decode cX7_third 3 = .ok (.istore_n 2, 1) := by decide +kernel
theorem dX7_third_4 : decode cX7_third 4 = .ok (.iload_n 2, 1) := by decide +kernel
theorem dX7_third_5 : decode cX7_third 5 = .ok (.bipush 28, 2) := by decide +kernel
theorem dX7_third_7 : decode cX7_third 7 = .ok (.if_icmp .ge 15, 3) := by decide +kernel
theorem dX7_third_10 : decode cX7_third 10 = .ok (.iload_n 1, 1) := by decide +kernel
theorem dX7_third_11 : decode cX7_third 11 = .ok (.iconst 1, 1) := by decide +kernel
theorem dX7_third_12 : decode cX7_third 12 = .ok (.iload_n 2, 1) := by decide +kernel
theorem dX7_third_13 : decode cX7_third 13 = .ok (.ishl, 1) := by decide +kernel
theorem dX7_third_14 : decode cX7_third 14 = .ok (.ior, 1) := by decide +kernel
theorem dX7_third_15 : decode cX7_third 15 = .ok (.istore_n 1, 1) := by decide +kernel
theorem dX7_third_16 : decode cX7_third 16 = .ok (.iinc 2 3, 3) := by decide +kernel
theorem dX7_third_19 : decode cX7_third 19 = .ok (.goto (-15), 3) := by decide +kernel
theorem dX7_third_22 : decode cX7_third 22 = .ok (.iload_n 1, 1) := by decide +kernel
theorem dX7_third_23 : decode cX7_third 23 = .ok (.ireturn, 1) := by decide +kernel
theorem dX7_shown_0 : decode cX7_shown 0 = .ok (.aload_n 0, 1) := by decide +kernel
theorem dX7_shown_1 : decode cX7_shown 1 = .ok (.getfield 45, 3) := by decide +kernel
theorem dX7_shown_4 : decode cX7_shown 4 = .ok (.aload_n 0, 1) := by decide +kernel
theorem dX7_shown_5 : decode cX7_shown 5 = .ok (.getfield 7, 3) := by decide +kernel
theorem dX7_shown_8 : decode cX7_shown 8 = .ok (.bipush 11, 2) := by decide +kernel
theorem dX7_shown_10 : decode cX7_shown 10 = .ok (.iload_n 1, 1) := by decide +kernel
theorem dX7_shown_11 : decode cX7_shown 11 = .ok (.iadd, 1) := by decide +kernel
theorem dX7_shown_12 : decode cX7_shown 12 = .ok (.iaload, 1) := by decide +kernel
theorem dX7_shown_13 : decode cX7_shown 13 = .ok (.aload_n 0, 1) := by decide +kernel
theorem dX7_shown_14 : decode cX7_shown 14 = .ok (.getfield 48, 3) := by decide +kernel
theorem dX7_shown_17 : decode cX7_shown 17 = .ok (.iconst (-1), 1) := by decide +kernel
theorem dX7_shown_18 : decode cX7_shown 18 = .ok (.ixor, 1) := by decide +kernel
theorem dX7_shown_19 : decode cX7_shown 19 = .ok (.iand, 1) := by decide +kernel
theorem dX7_shown_20 : decode cX7_shown 20 = .ok (.aload_n 0, 1) := by decide +kernel
theorem dX7_shown_21 : decode cX7_shown 21 = .ok (.getfield 7, 3) := by decide +kernel
theorem dX7_shown_24 : decode cX7_shown 24 = .ok (.bipush 14, 2) := by decide +kernel
theorem dX7_shown_26 : decode cX7_shown 26 = .ok (.iload_n 1, 1) := by decide +kernel
theorem dX7_shown_27 : decode cX7_shown 27 = .ok (.iadd, 1) := by decide +kernel
theorem dX7_shown_28 : decode cX7_shown 28 = .ok (.iaload, 1) := by decide +kernel
theorem dX7_shown_29 : decode cX7_shown 29 = .ok (.aload_n 0, 1) := by decide +kernel
theorem dX7_shown_30 : decode cX7_shown 30 = .ok (.getfield 48, 3) := by decide +kernel
theorem dX7_shown_33 : decode cX7_shown 33 = .ok (.iand, 1) := by decide +kernel
theorem dX7_shown_34 : decode cX7_shown 34 = .ok (.ior, 1) := by decide +kernel
theorem dX7_shown_35 : decode cX7_shown 35 = .ok (.iand, 1) := by decide +kernel
theorem dX7_shown_36 : decode cX7_shown 36 = .ok (.invokestatic 55, 3) := by decide +kernel
theorem dX7_shown_39 : decode cX7_shown 39 = .ok (.ireturn, 1) := by decide +kernel
theorem dX7_player_0 : decode cX7_player 0 = .ok (.iload_n 1, 1) := by decide +kernel
theorem dX7_player_1 : decode cX7_player 1 = .ok (.invokestatic 104, 3) := by decide +kernel
theorem dX7_player_4 : decode cX7_player 4 = .ok (.ifCond .ne 5, 3) := by decide +kernel
theorem dX7_player_7 : decode cX7_player 7 = .ok (.iconst (-1), 1) := by decide +kernel
theorem dX7_player_8 : decode cX7_player 8 = .ok (.ireturn, 1) := by decide +kernel
theorem dX7_player_9 : decode cX7_player 9 = .ok (.aload_n 0, 1) := by decide +kernel
theorem dX7_player_10 : decode cX7_player 10 = .ok (.aload_n 0, 1) := by decide +kernel
theorem dX7_player_11 : decode cX7_player 11 = .ok (.getfield 7, 3) := by decide +kernel
theorem dX7_player_14 : decode cX7_player 14 = .ok (.bipush 17, 2) := by decide +kernel
theorem dX7_player_16 : decode cX7_player 16 = .ok (.iaload, 1) := by decide +kernel
theorem dX7_player_17 : decode cX7_player 17 = .ok (.invokevirtual 80, 3) := by decide +kernel
theorem dX7_player_20 : decode cX7_player 20 = .ok (.iload_n 2, 1) := by decide +kernel
theorem dX7_player_21 : decode cX7_player 21 = .ok (.tableswitch 122 0 7 #[47, 57, 63, 69, 79, 89, 99, 109], 47) := by decide +kernel
theorem dX7_player_68 : decode cX7_player 68 = .ok (.aload_n 0, 1) := by decide +kernel
theorem dX7_player_69 : decode cX7_player 69 = .ok (.getfield 7, 3) := by decide +kernel
theorem dX7_player_72 : decode cX7_player 72 = .ok (.bipush 8, 2) := by decide +kernel
theorem dX7_player_74 : decode cX7_player 74 = .ok (.iload_n 1, 1) := by decide +kernel
theorem dX7_player_75 : decode cX7_player 75 = .ok (.iadd, 1) := by decide +kernel
theorem dX7_player_76 : decode cX7_player 76 = .ok (.iaload, 1) := by decide +kernel
theorem dX7_player_77 : decode cX7_player 77 = .ok (.ireturn, 1) := by decide +kernel
theorem dX7_player_78 : decode cX7_player 78 = .ok (.aload_n 0, 1) := by decide +kernel
theorem dX7_player_79 : decode cX7_player 79 = .ok (.iload_n 1, 1) := by decide +kernel
theorem dX7_player_80 : decode cX7_player 80 = .ok (.invokevirtual 94, 3) := by decide +kernel
theorem dX7_player_83 : decode cX7_player 83 = .ok (.ireturn, 1) := by decide +kernel
theorem dX7_player_84 : decode cX7_player 84 = .ok (.aload_n 0, 1) := by decide +kernel
theorem dX7_player_85 : decode cX7_player 85 = .ok (.iload_n 1, 1) := by decide +kernel
theorem dX7_player_86 : decode cX7_player 86 = .ok (.invokevirtual 139, 3) := by decide +kernel
theorem dX7_player_89 : decode cX7_player 89 = .ok (.ireturn, 1) := by decide +kernel
theorem dX7_player_90 : decode cX7_player 90 = .ok (.aload_n 0, 1) := by decide +kernel
theorem dX7_player_91 : decode cX7_player 91 = .ok (.getfield 7, 3) := by decide +kernel
theorem dX7_player_94 : decode cX7_player 94 = .ok (.bipush 18, 2) := by decide +kernel
theorem dX7_player_96 : decode cX7_player 96 = .ok (.iload_n 1, 1) := by decide +kernel
theorem dX7_player_97 : decode cX7_player 97 = .ok (.iadd, 1) := by decide +kernel
theorem dX7_player_98 : decode cX7_player 98 = .ok (.iaload, 1) := by decide +kernel
theorem dX7_player_99 : decode cX7_player 99 = .ok (.ireturn, 1) := by decide +kernel
theorem dX7_player_100 : decode cX7_player 100 = .ok (.aload_n 0, 1) := by decide +kernel
theorem dX7_player_101 : decode cX7_player 101 = .ok (.getfield 7, 3) := by decide +kernel
theorem dX7_player_104 : decode cX7_player 104 = .ok (.bipush 21, 2) := by decide +kernel
theorem dX7_player_106 : decode cX7_player 106 = .ok (.iload_n 1, 1) := by decide +kernel
theorem dX7_player_107 : decode cX7_player 107 = .ok (.iadd, 1) := by decide +kernel
theorem dX7_player_108 : decode cX7_player 108 = .ok (.iaload, 1) := by decide +kernel
theorem dX7_player_109 : decode cX7_player 109 = .ok (.ireturn, 1) := by decide +kernel
theorem dX7_player_110 : decode cX7_player 110 = .ok (.aload_n 0, 1) := by decide +kernel
theorem dX7_player_111 : decode cX7_player 111 = .ok (.getfield 7, 3) := by decide +kernel
theorem dX7_player_114 : decode cX7_player 114 = .ok (.bipush 24, 2) := by decide +kernel
theorem dX7_player_116 : decode cX7_player 116 = .ok (.iload_n 1, 1) := by decide +kernel
theorem dX7_player_117 : decode cX7_player 117 = .ok (.iadd, 1) := by decide +kernel
theorem dX7_player_118 : decode cX7_player 118 = .ok (.iaload, 1) := by decide +kernel
theorem dX7_player_119 : decode cX7_player 119 = .ok (.ireturn, 1) := by decide +kernel
theorem dX7_player_120 : decode cX7_player 120 = .ok (.aload_n 0, 1) := by decide +kernel
theorem dX7_player_121 : decode cX7_player 121 = .ok (.getfield 7, 3) := by decide +kernel
theorem dX7_player_124 : decode cX7_player 124 = .ok (.bipush 27, 2) := by decide +kernel
theorem dX7_player_126 : decode cX7_player 126 = .ok (.iload_n 1, 1) := by decide +kernel
theorem dX7_player_127 : decode cX7_player 127 = .ok (.iadd, 1) := by decide +kernel
theorem dX7_player_128 : decode cX7_player 128 = .ok (.iaload, 1) := by decide +kernel
theorem dX7_player_129 : decode cX7_player 129 = .ok (.ireturn, 1) := by decide +kernel
theorem dX7_player_130 : decode cX7_player 130 = .ok (.iload_n 1, 1) := by decide +kernel
theorem dX7_player_131 : decode cX7_player 131 = .ok (.invokestatic 142, 3) := by decide +kernel
theorem dX7_player_134 : decode cX7_player 134 = .ok (.aload_n 0, 1) := by decide +kernel
theorem dX7_player_135 : decode cX7_player 135 = .ok (.getfield 45, 3) := by decide +kernel
theorem dX7_player_138 : decode cX7_player 138 = .ok (.ior, 1) := by decide +kernel
theorem dX7_player_139 : decode cX7_player 139 = .ok (.invokestatic 55, 3) := by decide +kernel
theorem dX7_player_142 : decode cX7_player 142 = .ok (.ireturn, 1) := by decide +kernel
theorem dX7_player_143 : decode cX7_player 143 = .ok (.bipush (-2), 2) := by decide +kernel
theorem dX7_player_145 : decode cX7_player 145 = .ok (.ireturn, 1) := by decide +kernel
theorem dX7_told_0 : decode cX7_told 0 = .ok (.iconst 0, 1) := by decide +kernel
theorem dX7_told_1 : decode cX7_told 1 = .ok (.istore_n 2, 1) := by decide +kernel
theorem dX7_told_2 : decode cX7_told 2 = .ok (.iload_n 2, 1) := by decide +kernel
theorem dX7_told_3 : decode cX7_told 3 = .ok (.aload_n 0, 1) := by decide +kernel
theorem dX7_told_4 : decode cX7_told 4 = .ok (.getfield 7, 3) := by decide +kernel
theorem dX7_told_7 : decode cX7_told 7 = .ok (.bipush 31, 2) := by decide +kernel
theorem dX7_told_9 : decode cX7_told 9 = .ok (.iaload, 1) := by decide +kernel
theorem dX7_told_10 : decode cX7_told 10 = .ok (.if_icmp .ge 45, 3) := by decide +kernel
theorem dX7_told_13 : decode cX7_told 13 = .ok (.aload_n 0, 1) := by decide +kernel
theorem dX7_told_14 : decode cX7_told 14 = .ok (.getfield 7, 3) := by decide +kernel
theorem dX7_told_17 : decode cX7_told 17 = .ok (.bipush 32, 2) := by decide +kernel
theorem dX7_told_19 : decode cX7_told 19 = .ok (.iload_n 2, 1) := by decide +kernel
theorem dX7_told_20 : decode cX7_told 20 = .ok (.iadd, 1) := by decide +kernel
theorem dX7_told_21 : decode cX7_told 21 = .ok (.iaload, 1) := by decide +kernel
theorem dX7_told_22 : decode cX7_told 22 = .ok (.iload_n 1, 1) := by decide +kernel
theorem dX7_told_23 : decode cX7_told 23 = .ok (.if_icmp .ne 26, 3) := by decide +kernel
theorem dX7_told_26 : decode cX7_told 26 = .ok (.aload_n 0, 1) := by decide +kernel
theorem dX7_told_27 : decode cX7_told 27 = .ok (.iload_n 1, 1) := by decide +kernel
theorem dX7_told_28 : decode cX7_told 28 = .ok (.aload_n 0, 1) := by decide +kernel
theorem dX7_told_29 : decode cX7_told 29 = .ok (.getfield 7, 3) := by decide +kernel
theorem dX7_told_32 : decode cX7_told 32 = .ok (.iconst 0, 1) := by decide +kernel
theorem dX7_told_33 : decode cX7_told 33 = .ok (.iaload, 1) := by decide +kernel
theorem dX7_told_34 : decode cX7_told 34 = .ok (.invokevirtual 121, 3) := by decide +kernel
theorem dX7_told_37 : decode cX7_told 37 = .ok (.aload_n 0, 1) := by decide +kernel
theorem dX7_told_38 : decode cX7_told 38 = .ok (.getfield 26, 3) := by decide +kernel
theorem dX7_told_41 : decode cX7_told 41 = .ok (.aload_n 0, 1) := by decide +kernel
theorem dX7_told_42 : decode cX7_told 42 = .ok (.getfield 7, 3) := by decide +kernel
theorem dX7_told_45 : decode cX7_told 45 = .ok (.iconst 1, 1) := by decide +kernel
theorem dX7_told_46 : decode cX7_told 46 = .ok (.iaload, 1) := by decide +kernel
theorem dX7_told_47 : decode cX7_told 47 = .ok (.iaload, 1) := by decide +kernel
theorem dX7_told_48 : decode cX7_told 48 = .ok (.ireturn, 1) := by decide +kernel
theorem dX7_told_49 : decode cX7_told 49 = .ok (.iinc 2 1, 3) := by decide +kernel
theorem dX7_told_52 : decode cX7_told 52 = .ok (.goto (-50), 3) := by decide +kernel
theorem dX7_told_55 : decode cX7_told 55 = .ok (.bipush (-6), 2) := by decide +kernel
theorem dX7_told_57 : decode cX7_told 57 = .ok (.ireturn, 1) := by decide +kernel
theorem dX7_neighbours_0 : decode cX7_neighbours 0 = .ok (.iconst 0, 1) := by decide +kernel
theorem dX7_neighbours_1 : decode cX7_neighbours 1 = .ok (.istore_n 2, 1) := by decide +kernel
theorem dX7_neighbours_2 : decode cX7_neighbours 2 = .ok (.iconst 0, 1) := by decide +kernel
theorem dX7_neighbours_3 : decode cX7_neighbours 3 = .ok (.istore_n 3, 1) := by decide +kernel
theorem dX7_neighbours_4 : decode cX7_neighbours 4 = .ok (.iload_n 3, 1) := by decide +kernel
theorem dX7_neighbours_5 : decode cX7_neighbours 5 = .ok (.bipush 8, 2) := by decide +kernel
theorem dX7_neighbours_7 : decode cX7_neighbours 7 = .ok (.if_icmp .ge 40, 3) := by decide +kernel
theorem dX7_neighbours_10 : decode cX7_neighbours 10 = .ok (.iload_n 2, 1) := by decide +kernel
theorem dX7_neighbours_11 : decode cX7_neighbours 11 = .ok (.iload_n 3, 1) := by decide +kernel
theorem dX7_neighbours_12 : decode cX7_neighbours 12 = .ok (.iload_n 1, 1) := by decide +kernel
theorem dX7_neighbours_13 : decode cX7_neighbours 13 = .ok (.if_icmp .eq 25, 3) := by decide +kernel
theorem dX7_neighbours_16 : decode cX7_neighbours 16 = .ok (.aload_n 0, 1) := by decide +kernel
theorem dX7_neighbours_17 : decode cX7_neighbours 17 = .ok (.getfield 48, 3) := by decide +kernel
theorem dX7_neighbours_20 : decode cX7_neighbours 20 = .ok (.iload_n 1, 1) := by decide +kernel
theorem dX7_neighbours_21 : decode cX7_neighbours 21 = .ok (.iload_n 3, 1) := by decide +kernel
theorem dX7_neighbours_22 : decode cX7_neighbours 22 = .ok (.invokestatic 37, 3) := by decide +kernel
theorem dX7_neighbours_25 : decode cX7_neighbours 25 = .ok (.ishr, 1) := by decide +kernel
theorem dX7_neighbours_26 : decode cX7_neighbours 26 = .ok (.iconst 1, 1) := by decide +kernel
theorem dX7_neighbours_27 : decode cX7_neighbours 27 = .ok (.iand, 1) := by decide +kernel
theorem dX7_neighbours_28 : decode cX7_neighbours 28 = .ok (.iconst 1, 1) := by decide +kernel
theorem dX7_neighbours_29 : decode cX7_neighbours 29 = .ok (.if_icmp .ne 9, 3) := by decide +kernel
theorem dX7_neighbours_32 : decode cX7_neighbours 32 = .ok (.iconst 1, 1) := by decide +kernel
theorem dX7_neighbours_33 : decode cX7_neighbours 33 = .ok (.iload_n 3, 1) := by decide +kernel
theorem dX7_neighbours_34 : decode cX7_neighbours 34 = .ok (.ishl, 1) := by decide +kernel
theorem dX7_neighbours_35 : decode cX7_neighbours 35 = .ok (.goto 4, 3) := by decide +kernel
theorem dX7_neighbours_38 : decode cX7_neighbours 38 = .ok (.iconst 0, 1) := by decide +kernel
theorem dX7_neighbours_39 : decode cX7_neighbours 39 = .ok (.ior, 1) := by decide +kernel
theorem dX7_neighbours_40 : decode cX7_neighbours 40 = .ok (.istore_n 2, 1) := by decide +kernel
theorem dX7_neighbours_41 : decode cX7_neighbours 41 = .ok (.iinc 3 1, 3) := by decide +kernel
theorem dX7_neighbours_44 : decode cX7_neighbours 44 = .ok (.goto (-40), 3) := by decide +kernel
theorem dX7_neighbours_47 : decode cX7_neighbours 47 = .ok (.iload_n 2, 1) := by decide +kernel
theorem dX7_neighbours_48 : decode cX7_neighbours 48 = .ok (.ireturn, 1) := by decide +kernel
theorem dX7_place_0 : decode cX7_place 0 = .ok (.iload_n 1, 1) := by decide +kernel
theorem dX7_place_1 : decode cX7_place 1 = .ok (.invokestatic 67, 3) := by decide +kernel
theorem dX7_place_4 : decode cX7_place 4 = .ok (.ifCond .ne 5, 3) := by decide +kernel
theorem dX7_place_7 : decode cX7_place 7 = .ok (.iconst (-1), 1) := by decide +kernel
theorem dX7_place_8 : decode cX7_place 8 = .ok (.ireturn, 1) := by decide +kernel
theorem dX7_place_9 : decode cX7_place 9 = .ok (.aload_n 0, 1) := by decide +kernel
theorem dX7_place_10 : decode cX7_place 10 = .ok (.aload_n 0, 1) := by decide +kernel
theorem dX7_place_11 : decode cX7_place 11 = .ok (.getfield 7, 3) := by decide +kernel
theorem dX7_place_14 : decode cX7_place 14 = .ok (.bipush 17, 2) := by decide +kernel
theorem dX7_place_16 : decode cX7_place 16 = .ok (.iaload, 1) := by decide +kernel
theorem dX7_place_17 : decode cX7_place 17 = .ok (.invokevirtual 80, 3) := by decide +kernel
theorem dX7_place_20 : decode cX7_place 20 = .ok (.iload_n 2, 1) := by decide +kernel
theorem dX7_place_21 : decode cX7_place 21 = .ok (.tableswitch 102 0 4 #[35, 62, 75, 90, 96], 35) := by decide +kernel
theorem dX7_place_56 : decode cX7_place 56 = .ok (.aload_n 0, 1) := by decide +kernel
theorem dX7_place_57 : decode cX7_place 57 = .ok (.invokevirtual 41, 3) := by decide +kernel
theorem dX7_place_60 : decode cX7_place 60 = .ok (.ifCond .eq 20, 3) := by decide +kernel
theorem dX7_place_63 : decode cX7_place 63 = .ok (.iload_n 1, 1) := by decide +kernel
theorem dX7_place_64 : decode cX7_place 64 = .ok (.invokestatic 51, 3) := by decide +kernel
theorem dX7_place_67 : decode cX7_place 67 = .ok (.aload_n 0, 1) := by decide +kernel
theorem dX7_place_68 : decode cX7_place 68 = .ok (.getfield 7, 3) := by decide +kernel
theorem dX7_place_71 : decode cX7_place 71 = .ok (.iconst 0, 1) := by decide +kernel
theorem dX7_place_72 : decode cX7_place 72 = .ok (.iaload, 1) := by decide +kernel
theorem dX7_place_73 : decode cX7_place 73 = .ok (.iand, 1) := by decide +kernel
theorem dX7_place_74 : decode cX7_place 74 = .ok (.invokestatic 55, 3) := by decide +kernel
theorem dX7_place_77 : decode cX7_place 77 = .ok (.goto 5, 3) := by decide +kernel
theorem dX7_place_80 : decode cX7_place 80 = .ok (.bipush (-6), 2) := by decide +kernel
theorem dX7_place_82 : decode cX7_place 82 = .ok (.ireturn, 1) := by decide +kernel
theorem dX7_place_83 : decode cX7_place 83 = .ok (.iload_n 1, 1) := by decide +kernel
theorem dX7_place_84 : decode cX7_place 84 = .ok (.invokestatic 51, 3) := by decide +kernel
theorem dX7_place_87 : decode cX7_place 87 = .ok (.aload_n 0, 1) := by decide +kernel
theorem dX7_place_88 : decode cX7_place 88 = .ok (.getfield 48, 3) := by decide +kernel
theorem dX7_place_91 : decode cX7_place 91 = .ok (.iand, 1) := by decide +kernel
theorem dX7_place_92 : decode cX7_place 92 = .ok (.invokestatic 55, 3) := by decide +kernel
theorem dX7_place_95 : decode cX7_place 95 = .ok (.ireturn, 1) := by decide +kernel
theorem dX7_place_96 : decode cX7_place 96 = .ok (.iload_n 1, 1) := by decide +kernel
theorem dX7_place_97 : decode cX7_place 97 = .ok (.invokestatic 51, 3) := by decide +kernel
theorem dX7_place_100 : decode cX7_place 100 = .ok (.aload_n 0, 1) := by decide +kernel
theorem dX7_place_101 : decode cX7_place 101 = .ok (.getfield 45, 3) := by decide +kernel
theorem dX7_place_104 : decode cX7_place 104 = .ok (.iconst (-1), 1) := by decide +kernel
theorem dX7_place_105 : decode cX7_place 105 = .ok (.ixor, 1) := by decide +kernel
theorem dX7_place_106 : decode cX7_place 106 = .ok (.iand, 1) := by decide +kernel
theorem dX7_place_107 : decode cX7_place 107 = .ok (.invokestatic 55, 3) := by decide +kernel
theorem dX7_place_110 : decode cX7_place 110 = .ok (.ireturn, 1) := by decide +kernel
theorem dX7_place_111 : decode cX7_place 111 = .ok (.aload_n 0, 1) := by decide +kernel
theorem dX7_place_112 : decode cX7_place 112 = .ok (.iload_n 1, 1) := by decide +kernel
theorem dX7_place_113 : decode cX7_place 113 = .ok (.invokevirtual 145, 3) := by decide +kernel
theorem dX7_place_116 : decode cX7_place 116 = .ok (.ireturn, 1) := by decide +kernel
theorem dX7_place_117 : decode cX7_place 117 = .ok (.aload_n 0, 1) := by decide +kernel
theorem dX7_place_118 : decode cX7_place 118 = .ok (.iload_n 1, 1) := by decide +kernel
theorem dX7_place_119 : decode cX7_place 119 = .ok (.invokevirtual 148, 3) := by decide +kernel
theorem dX7_place_122 : decode cX7_place 122 = .ok (.ireturn, 1) := by decide +kernel
theorem dX7_place_123 : decode cX7_place 123 = .ok (.bipush (-2), 2) := by decide +kernel
theorem dX7_place_125 : decode cX7_place 125 = .ok (.ireturn, 1) := by decide +kernel
theorem dX7_dug_0 : decode cX7_dug 0 = .ok (.iload_n 1, 1) := by decide +kernel
theorem dX7_dug_1 : decode cX7_dug 1 = .ok (.iconst 0, 1) := by decide +kernel
theorem dX7_dug_2 : decode cX7_dug 2 = .ok (.aload_n 0, 1) := by decide +kernel
theorem dX7_dug_3 : decode cX7_dug 3 = .ok (.getfield 7, 3) := by decide +kernel
theorem dX7_dug_6 : decode cX7_dug 6 = .ok (.bipush 31, 2) := by decide +kernel
theorem dX7_dug_8 : decode cX7_dug 8 = .ok (.iaload, 1) := by decide +kernel
theorem dX7_dug_9 : decode cX7_dug 9 = .ok (.iconst 1, 1) := by decide +kernel
theorem dX7_dug_10 : decode cX7_dug 10 = .ok (.isub, 1) := by decide +kernel
theorem dX7_dug_11 : decode cX7_dug 11 = .ok (.invokestatic 29, 3) := by decide +kernel
theorem dX7_dug_14 : decode cX7_dug 14 = .ok (.ifCond .eq 15, 3) := by decide +kernel
theorem dX7_dug_17 : decode cX7_dug 17 = .ok (.aload_n 0, 1) := by decide +kernel
theorem dX7_dug_18 : decode cX7_dug 18 = .ok (.getfield 7, 3) := by decide +kernel
theorem dX7_dug_21 : decode cX7_dug 21 = .ok (.bipush 32, 2) := by decide +kernel
theorem dX7_dug_23 : decode cX7_dug 23 = .ok (.iload_n 1, 1) := by decide +kernel
theorem dX7_dug_24 : decode cX7_dug 24 = .ok (.iadd, 1) := by decide +kernel
theorem dX7_dug_25 : decode cX7_dug 25 = .ok (.iaload, 1) := by decide +kernel
theorem dX7_dug_26 : decode cX7_dug 26 = .ok (.goto 4, 3) := by decide +kernel
theorem dX7_dug_29 : decode cX7_dug 29 = .ok (.iconst (-1), 1) := by decide +kernel
theorem dX7_dug_30 : decode cX7_dug 30 = .ok (.ireturn, 1) := by decide +kernel
theorem dX7_count_0 : decode cX7_count 0 = .ok (.aload_n 0, 1) := by decide +kernel
theorem dX7_count_1 : decode cX7_count 1 = .ok (.aload_n 0, 1) := by decide +kernel
theorem dX7_count_2 : decode cX7_count 2 = .ok (.getfield 7, 3) := by decide +kernel
theorem dX7_count_5 : decode cX7_count 5 = .ok (.bipush 17, 2) := by decide +kernel
theorem dX7_count_7 : decode cX7_count 7 = .ok (.iaload, 1) := by decide +kernel
theorem dX7_count_8 : decode cX7_count 8 = .ok (.invokevirtual 80, 3) := by decide +kernel
theorem dX7_count_11 : decode cX7_count 11 = .ok (.iload_n 1, 1) := by decide +kernel
theorem dX7_count_12 : decode cX7_count 12 = .ok (.tableswitch 168 0 13 #[72, 80, 85, 93, 101, 109, 117, 135, 146, 146, 146, 146, 158, 163], 72) := by decide +kernel
theorem dX7_count_84 : decode cX7_count 84 = .ok (.aload_n 0, 1) := by decide +kernel
theorem dX7_count_85 : decode cX7_count 85 = .ok (.getfield 7, 3) := by decide +kernel
theorem dX7_count_88 : decode cX7_count 88 = .ok (.bipush 7, 2) := by decide +kernel
theorem dX7_count_90 : decode cX7_count 90 = .ok (.iaload, 1) := by decide +kernel
theorem dX7_count_91 : decode cX7_count 91 = .ok (.ireturn, 1) := by decide +kernel
theorem dX7_count_92 : decode cX7_count 92 = .ok (.aload_n 0, 1) := by decide +kernel
theorem dX7_count_93 : decode cX7_count 93 = .ok (.invokevirtual 87, 3) := by decide +kernel
theorem dX7_count_96 : decode cX7_count 96 = .ok (.ireturn, 1) := by decide +kernel
theorem dX7_count_97 : decode cX7_count 97 = .ok (.aload_n 0, 1) := by decide +kernel
theorem dX7_count_98 : decode cX7_count 98 = .ok (.getfield 7, 3) := by decide +kernel
theorem dX7_count_101 : decode cX7_count 101 = .ok (.bipush 6, 2) := by decide +kernel
theorem dX7_count_103 : decode cX7_count 103 = .ok (.iaload, 1) := by decide +kernel
theorem dX7_count_104 : decode cX7_count 104 = .ok (.ireturn, 1) := by decide +kernel
theorem dX7_count_105 : decode cX7_count 105 = .ok (.aload_n 0, 1) := by decide +kernel
theorem dX7_count_106 : decode cX7_count 106 = .ok (.getfield 7, 3) := by decide +kernel
theorem dX7_count_109 : decode cX7_count 109 = .ok (.bipush 30, 2) := by decide +kernel
theorem dX7_count_111 : decode cX7_count 111 = .ok (.iaload, 1) := by decide +kernel
theorem dX7_count_112 : decode cX7_count 112 = .ok (.ireturn, 1) := by decide +kernel
theorem dX7_count_113 : decode cX7_count 113 = .ok (.aload_n 0, 1) := by decide +kernel
theorem dX7_count_114 : decode cX7_count 114 = .ok (.getfield 45, 3) := by decide +kernel
theorem dX7_count_117 : decode cX7_count 117 = .ok (.invokestatic 55, 3) := by decide +kernel
theorem dX7_count_120 : decode cX7_count 120 = .ok (.ireturn, 1) := by decide +kernel
theorem dX7_count_121 : decode cX7_count 121 = .ok (.aload_n 0, 1) := by decide +kernel
theorem dX7_count_122 : decode cX7_count 122 = .ok (.getfield 48, 3) := by decide +kernel
theorem dX7_count_125 : decode cX7_count 125 = .ok (.invokestatic 55, 3) := by decide +kernel
theorem dX7_count_128 : decode cX7_count 128 = .ok (.ireturn, 1) := by decide +kernel
theorem dX7_count_129 : decode cX7_count 129 = .ok (.aload_n 0, 1) := by decide +kernel
theorem dX7_count_130 : decode cX7_count 130 = .ok (.iconst 0, 1) := by decide +kernel
theorem dX7_count_131 : decode cX7_count 131 = .ok (.invokevirtual 139, 3) := by decide +kernel
theorem dX7_count_134 : decode cX7_count 134 = .ok (.aload_n 0, 1) := by decide +kernel
theorem dX7_count_135 : decode cX7_count 135 = .ok (.iconst 1, 1) := by decide +kernel
theorem dX7_count_136 : decode cX7_count 136 = .ok (.invokevirtual 139, 3) := by decide +kernel
theorem dX7_count_139 : decode cX7_count 139 = .ok (.iadd, 1) := by decide +kernel
theorem dX7_count_140 : decode cX7_count 140 = .ok (.aload_n 0, 1) := by decide +kernel
theorem dX7_count_141 : decode cX7_count 141 = .ok (.iconst 2, 1) := by decide +kernel
theorem dX7_count_142 : decode cX7_count 142 = .ok (.invokevirtual 139, 3) := by decide +kernel
theorem dX7_count_145 : decode cX7_count 145 = .ok (.iadd, 1) := by decide +kernel
theorem dX7_count_146 : decode cX7_count 146 = .ok (.ireturn, 1) := by decide +kernel
theorem dX7_count_147 : decode cX7_count 147 = .ok (.aload_n 0, 1) := by decide +kernel
theorem dX7_count_148 : decode cX7_count 148 = .ok (.getfield 7, 3) := by decide +kernel
theorem dX7_count_151 : decode cX7_count 151 = .ok (.bipush 17, 2) := by decide +kernel
theorem dX7_count_153 : decode cX7_count 153 = .ok (.iaload, 1) := by decide +kernel
theorem dX7_count_154 : decode cX7_count 154 = .ok (.invokestatic 55, 3) := by decide +kernel
theorem dX7_count_157 : decode cX7_count 157 = .ok (.ireturn, 1) := by decide +kernel
theorem dX7_count_158 : decode cX7_count 158 = .ok (.aload_n 0, 1) := by decide +kernel
theorem dX7_count_159 : decode cX7_count 159 = .ok (.getfield 7, 3) := by decide +kernel
theorem dX7_count_162 : decode cX7_count 162 = .ok (.iconst 2, 1) := by decide +kernel
theorem dX7_count_163 : decode cX7_count 163 = .ok (.iload_n 1, 1) := by decide +kernel
theorem dX7_count_164 : decode cX7_count 164 = .ok (.iadd, 1) := by decide +kernel
theorem dX7_count_165 : decode cX7_count 165 = .ok (.bipush 8, 2) := by decide +kernel
theorem dX7_count_167 : decode cX7_count 167 = .ok (.isub, 1) := by decide +kernel
theorem dX7_count_168 : decode cX7_count 168 = .ok (.iaload, 1) := by decide +kernel
theorem dX7_count_169 : decode cX7_count 169 = .ok (.ireturn, 1) := by decide +kernel
theorem dX7_count_170 : decode cX7_count 170 = .ok (.aload_n 0, 1) := by decide +kernel
theorem dX7_count_171 : decode cX7_count 171 = .ok (.getfield 151, 3) := by decide +kernel
theorem dX7_count_174 : decode cX7_count 174 = .ok (.ireturn, 1) := by decide +kernel
theorem dX7_count_175 : decode cX7_count 175 = .ok (.aload_n 0, 1) := by decide +kernel
theorem dX7_count_176 : decode cX7_count 176 = .ok (.getfield 33, 3) := by decide +kernel
theorem dX7_count_179 : decode cX7_count 179 = .ok (.ireturn, 1) := by decide +kernel
theorem dX7_count_180 : decode cX7_count 180 = .ok (.bipush (-2), 2) := by decide +kernel
theorem dX7_count_182 : decode cX7_count 182 = .ok (.ireturn, 1) := by decide +kernel
theorem dX7_canBe_0 : decode cX7_canBe 0 = .ok (.aload_n 0, 1) := by decide +kernel
theorem dX7_canBe_1 : decode cX7_canBe 1 = .ok (.invokevirtual 41, 3) := by decide +kernel
theorem dX7_canBe_4 : decode cX7_canBe 4 = .ok (.ifCond .eq 9, 3) := by decide +kernel
theorem dX7_canBe_7 : decode cX7_canBe 7 = .ok (.sipush 255, 3) := by decide +kernel
theorem dX7_canBe_10 : decode cX7_canBe 10 = .ok (.goto 4, 3) := by decide +kernel
theorem dX7_canBe_13 : decode cX7_canBe 13 = .ok (.iconst 0, 1) := by decide +kernel
theorem dX7_canBe_14 : decode cX7_canBe 14 = .ok (.istore_n 1, 1) := by decide +kernel
theorem dX7_canBe_15 : decode cX7_canBe 15 = .ok (.iconst 0, 1) := by decide +kernel
theorem dX7_canBe_16 : decode cX7_canBe 16 = .ok (.istore_n 2, 1) := by decide +kernel
theorem dX7_canBe_17 : decode cX7_canBe 17 = .ok (.iload_n 2, 1) := by decide +kernel
theorem dX7_canBe_18 : decode cX7_canBe 18 = .ok (.aload_n 0, 1) := by decide +kernel
theorem dX7_canBe_19 : decode cX7_canBe 19 = .ok (.getfield 7, 3) := by decide +kernel
theorem dX7_canBe_22 : decode cX7_canBe 22 = .ok (.bipush 31, 2) := by decide +kernel
theorem dX7_canBe_24 : decode cX7_canBe 24 = .ok (.iaload, 1) := by decide +kernel
theorem dX7_canBe_25 : decode cX7_canBe 25 = .ok (.if_icmp .ge 74, 3) := by decide +kernel
theorem dX7_canBe_28 : decode cX7_canBe 28 = .ok (.aload_n 0, 1) := by decide +kernel
theorem dX7_canBe_29 : decode cX7_canBe 29 = .ok (.aload_n 0, 1) := by decide +kernel
theorem dX7_canBe_30 : decode cX7_canBe 30 = .ok (.getfield 7, 3) := by decide +kernel
theorem dX7_canBe_33 : decode cX7_canBe 33 = .ok (.bipush 32, 2) := by decide +kernel
theorem dX7_canBe_35 : decode cX7_canBe 35 = .ok (.iload_n 2, 1) := by decide +kernel
theorem dX7_canBe_36 : decode cX7_canBe 36 = .ok (.iadd, 1) := by decide +kernel
theorem dX7_canBe_37 : decode cX7_canBe 37 = .ok (.iaload, 1) := by decide +kernel
theorem dX7_canBe_38 : decode cX7_canBe 38 = .ok (.aload_n 0, 1) := by decide +kernel
theorem dX7_canBe_39 : decode cX7_canBe 39 = .ok (.getfield 7, 3) := by decide +kernel
theorem dX7_canBe_42 : decode cX7_canBe 42 = .ok (.iconst 0, 1) := by decide +kernel
theorem dX7_canBe_43 : decode cX7_canBe 43 = .ok (.iaload, 1) := by decide +kernel
theorem dX7_canBe_44 : decode cX7_canBe 44 = .ok (.invokevirtual 121, 3) := by decide +kernel
theorem dX7_canBe_47 : decode cX7_canBe 47 = .ok (.iconst 0, 1) := by decide +kernel
theorem dX7_canBe_48 : decode cX7_canBe 48 = .ok (.istore_n 3, 1) := by decide +kernel
theorem dX7_canBe_49 : decode cX7_canBe 49 = .ok (.iload_n 3, 1) := by decide +kernel
theorem dX7_canBe_50 : decode cX7_canBe 50 = .ok (.bipush 8, 2) := by decide +kernel
theorem dX7_canBe_52 : decode cX7_canBe 52 = .ok (.if_icmp .ge 41, 3) := by decide +kernel
theorem dX7_canBe_55 : decode cX7_canBe 55 = .ok (.iload_n 1, 1) := by decide +kernel
theorem dX7_canBe_56 : decode cX7_canBe 56 = .ok (.aload_n 0, 1) := by decide +kernel
theorem dX7_canBe_57 : decode cX7_canBe 57 = .ok (.getfield 26, 3) := by decide +kernel
theorem dX7_canBe_60 : decode cX7_canBe 60 = .ok (.iload_n 3, 1) := by decide +kernel
theorem dX7_canBe_61 : decode cX7_canBe 61 = .ok (.iaload, 1) := by decide +kernel
theorem dX7_canBe_62 : decode cX7_canBe 62 = .ok (.aload_n 0, 1) := by decide +kernel
theorem dX7_canBe_63 : decode cX7_canBe 63 = .ok (.getfield 26, 3) := by decide +kernel
theorem dX7_canBe_66 : decode cX7_canBe 66 = .ok (.aload_n 0, 1) := by decide +kernel
theorem dX7_canBe_67 : decode cX7_canBe 67 = .ok (.getfield 7, 3) := by decide +kernel
theorem dX7_canBe_70 : decode cX7_canBe 70 = .ok (.iconst 1, 1) := by decide +kernel
theorem dX7_canBe_71 : decode cX7_canBe 71 = .ok (.iaload, 1) := by decide +kernel
theorem dX7_canBe_72 : decode cX7_canBe 72 = .ok (.iaload, 1) := by decide +kernel
theorem dX7_canBe_73 : decode cX7_canBe 73 = .ok (.if_icmp .ne 7, 3) := by decide +kernel
theorem dX7_canBe_76 : decode cX7_canBe 76 = .ok (.iconst (-1), 1) := by decide +kernel
theorem dX7_canBe_77 : decode cX7_canBe 77 = .ok (.goto 8, 3) := by decide +kernel
theorem dX7_canBe_80 : decode cX7_canBe 80 = .ok (.iconst 1, 1) := by decide +kernel
theorem dX7_canBe_81 : decode cX7_canBe 81 = .ok (.iload_n 3, 1) := by decide +kernel
theorem dX7_canBe_82 : decode cX7_canBe 82 = .ok (.ishl, 1) := by decide +kernel
theorem dX7_canBe_83 : decode cX7_canBe 83 = .ok (.iconst (-1), 1) := by decide +kernel
theorem dX7_canBe_84 : decode cX7_canBe 84 = .ok (.ixor, 1) := by decide +kernel
theorem dX7_canBe_85 : decode cX7_canBe 85 = .ok (.iand, 1) := by decide +kernel
theorem dX7_canBe_86 : decode cX7_canBe 86 = .ok (.istore_n 1, 1) := by decide +kernel
theorem dX7_canBe_87 : decode cX7_canBe 87 = .ok (.iinc 3 1, 3) := by decide +kernel
theorem dX7_canBe_90 : decode cX7_canBe 90 = .ok (.goto (-41), 3) := by decide +kernel
theorem dX7_canBe_93 : decode cX7_canBe 93 = .ok (.iinc 2 1, 3) := by decide +kernel
theorem dX7_canBe_96 : decode cX7_canBe 96 = .ok (.goto (-79), 3) := by decide +kernel
theorem dX7_canBe_99 : decode cX7_canBe 99 = .ok (.iload_n 1, 1) := by decide +kernel
theorem dX7_canBe_100 : decode cX7_canBe 100 = .ok (.ireturn, 1) := by decide +kernel
theorem dX7_more_0 : decode cX7_more 0 = .ok (.aload_n 0, 1) := by decide +kernel
theorem dX7_more_1 : decode cX7_more 1 = .ok (.aload_n 0, 1) := by decide +kernel
theorem dX7_more_2 : decode cX7_more 2 = .ok (.getfield 7, 3) := by decide +kernel
theorem dX7_more_5 : decode cX7_more 5 = .ok (.bipush 17, 2) := by decide +kernel
theorem dX7_more_7 : decode cX7_more 7 = .ok (.iaload, 1) := by decide +kernel
theorem dX7_more_8 : decode cX7_more 8 = .ok (.invokevirtual 80, 3) := by decide +kernel
theorem dX7_more_11 : decode cX7_more 11 = .ok (.aload_n 0, 1) := by decide +kernel
theorem dX7_more_12 : decode cX7_more 12 = .ok (.getfield 45, 3) := by decide +kernel
theorem dX7_more_15 : decode cX7_more 15 = .ok (.invokestatic 55, 3) := by decide +kernel
theorem dX7_more_18 : decode cX7_more 18 = .ok (.istore_n 2, 1) := by decide +kernel
theorem dX7_more_19 : decode cX7_more 19 = .ok (.aload_n 0, 1) := by decide +kernel
theorem dX7_more_20 : decode cX7_more 20 = .ok (.getfield 45, 3) := by decide +kernel
theorem dX7_more_23 : decode cX7_more 23 = .ok (.iload_n 1, 1) := by decide +kernel
theorem dX7_more_24 : decode cX7_more 24 = .ok (.ishr, 1) := by decide +kernel
theorem dX7_more_25 : decode cX7_more 25 = .ok (.iconst 1, 1) := by decide +kernel
theorem dX7_more_26 : decode cX7_more 26 = .ok (.iand, 1) := by decide +kernel
theorem dX7_more_27 : decode cX7_more 27 = .ok (.iconst 1, 1) := by decide +kernel
theorem dX7_more_28 : decode cX7_more 28 = .ok (.if_icmp .ne 5, 3) := by decide +kernel
theorem dX7_more_31 : decode cX7_more 31 = .ok (.iconst 0, 1) := by decide +kernel
theorem dX7_more_32 : decode cX7_more 32 = .ok (.ireturn, 1) := by decide +kernel
theorem dX7_more_33 : decode cX7_more 33 = .ok (.aload_n 0, 1) := by decide +kernel
theorem dX7_more_34 : decode cX7_more 34 = .ok (.aload_n 0, 1) := by decide +kernel
theorem dX7_more_35 : decode cX7_more 35 = .ok (.getfield 7, 3) := by decide +kernel
theorem dX7_more_38 : decode cX7_more 38 = .ok (.bipush 17, 2) := by decide +kernel
theorem dX7_more_40 : decode cX7_more 40 = .ok (.iaload, 1) := by decide +kernel
theorem dX7_more_41 : decode cX7_more 41 = .ok (.iconst 1, 1) := by decide +kernel
theorem dX7_more_42 : decode cX7_more 42 = .ok (.iload_n 1, 1) := by decide +kernel
theorem dX7_more_43 : decode cX7_more 43 = .ok (.ishl, 1) := by decide +kernel
theorem dX7_more_44 : decode cX7_more 44 = .ok (.ior, 1) := by decide +kernel
theorem dX7_more_45 : decode cX7_more 45 = .ok (.invokevirtual 80, 3) := by decide +kernel
theorem dX7_more_48 : decode cX7_more 48 = .ok (.aload_n 0, 1) := by decide +kernel
theorem dX7_more_49 : decode cX7_more 49 = .ok (.getfield 45, 3) := by decide +kernel
theorem dX7_more_52 : decode cX7_more 52 = .ok (.invokestatic 55, 3) := by decide +kernel
theorem dX7_more_55 : decode cX7_more 55 = .ok (.iload_n 2, 1) := by decide +kernel
theorem dX7_more_56 : decode cX7_more 56 = .ok (.isub, 1) := by decide +kernel
theorem dX7_more_57 : decode cX7_more 57 = .ok (.ireturn, 1) := by decide +kernel
theorem dX7_shows_0 : decode cX7_shows 0 = .ok (.iload_n 1, 1) := by decide +kernel
theorem dX7_shows_1 : decode cX7_shows 1 = .ok (.iload_n 2, 1) := by decide +kernel
theorem dX7_shows_2 : decode cX7_shows 2 = .ok (.invokestatic 130, 3) := by decide +kernel
theorem dX7_shows_5 : decode cX7_shows 5 = .ok (.istore_n 3, 1) := by decide +kernel
theorem dX7_shows_6 : decode cX7_shows 6 = .ok (.iload_n 3, 1) := by decide +kernel
theorem dX7_shows_7 : decode cX7_shows 7 = .ok (.ifCond .ge 7, 3) := by decide +kernel
theorem dX7_shows_10 : decode cX7_shows 10 = .ok (.iload_n 3, 1) := by decide +kernel
theorem dX7_shows_11 : decode cX7_shows 11 = .ok (.goto 24, 3) := by decide +kernel
theorem dX7_shows_14 : decode cX7_shows 14 = .ok (.aload_n 0, 1) := by decide +kernel
theorem dX7_shows_15 : decode cX7_shows 15 = .ok (.invokevirtual 41, 3) := by decide +kernel
theorem dX7_shows_18 : decode cX7_shows 18 = .ok (.ifCond .eq 15, 3) := by decide +kernel
theorem dX7_shows_21 : decode cX7_shows 21 = .ok (.aload_n 0, 1) := by decide +kernel
theorem dX7_shows_22 : decode cX7_shows 22 = .ok (.iload_n 1, 1) := by decide +kernel
theorem dX7_shows_23 : decode cX7_shows 23 = .ok (.iload_n 2, 1) := by decide +kernel
theorem dX7_shows_24 : decode cX7_shows 24 = .ok (.invokestatic 37, 3) := by decide +kernel
theorem dX7_shows_27 : decode cX7_shows 27 = .ok (.invokevirtual 154, 3) := by decide +kernel
theorem dX7_shows_30 : decode cX7_shows 30 = .ok (.goto 5, 3) := by decide +kernel
theorem dX7_shows_33 : decode cX7_shows 33 = .ok (.bipush (-5), 2) := by decide +kernel
theorem dX7_shows_35 : decode cX7_shows 35 = .ok (.ireturn, 1) := by decide +kernel
theorem dX7_bestShow_0 : decode cX7_bestShow 0 = .ok (.iload_n 1, 1) := by decide +kernel
theorem dX7_bestShow_1 : decode cX7_bestShow 1 = .ok (.iconst 0, 1) := by decide +kernel
theorem dX7_bestShow_2 : decode cX7_bestShow 2 = .ok (.iconst 1, 1) := by decide +kernel
theorem dX7_bestShow_3 : decode cX7_bestShow 3 = .ok (.invokestatic 29, 3) := by decide +kernel
theorem dX7_bestShow_6 : decode cX7_bestShow 6 = .ok (.ifCond .ne 6, 3) := by decide +kernel
theorem dX7_bestShow_9 : decode cX7_bestShow 9 = .ok (.bipush (-2), 2) := by decide +kernel
theorem dX7_bestShow_11 : decode cX7_bestShow 11 = .ok (.ireturn, 1) := by decide +kernel
theorem dX7_bestShow_12 : decode cX7_bestShow 12 = .ok (.aload_n 0, 1) := by decide +kernel
theorem dX7_bestShow_13 : decode cX7_bestShow 13 = .ok (.invokevirtual 41, 3) := by decide +kernel
theorem dX7_bestShow_16 : decode cX7_bestShow 16 = .ok (.ifCond .ne 6, 3) := by decide +kernel
theorem dX7_bestShow_19 : decode cX7_bestShow 19 = .ok (.bipush (-5), 2) := by decide +kernel
theorem dX7_bestShow_21 : decode cX7_bestShow 21 = .ok (.ireturn, 1) := by decide +kernel
theorem dX7_bestShow_22 : decode cX7_bestShow 22 = .ok (.bipush (-6), 2) := by decide +kernel
theorem dX7_bestShow_24 : decode cX7_bestShow 24 = .ok (.istore_n 2, 1) := by decide +kernel
theorem dX7_bestShow_25 : decode cX7_bestShow 25 = .ok (.iconst 0, 1) := by decide +kernel
theorem dX7_bestShow_26 : decode cX7_bestShow 26 = .ok (.istore_n 3, 1) := by decide +kernel
theorem dX7_bestShow_27 : decode cX7_bestShow 27 = .ok (.iconst 0, 1) := by decide +kernel
theorem dX7_bestShow_28 : decode cX7_bestShow 28 = .ok (.istore 4, 2) := by decide +kernel
theorem dX7_bestShow_30 : decode cX7_bestShow 30 = .ok (.iload 4, 2) := by decide +kernel
theorem dX7_bestShow_32 : decode cX7_bestShow 32 = .ok (.bipush 28, 2) := by decide +kernel
theorem dX7_bestShow_34 : decode cX7_bestShow 34 = .ok (.if_icmp .ge 43, 3) := by decide +kernel
theorem dX7_bestShow_37 : decode cX7_bestShow 37 = .ok (.aload_n 0, 1) := by decide +kernel
theorem dX7_bestShow_38 : decode cX7_bestShow 38 = .ok (.iload 4, 2) := by decide +kernel
theorem dX7_bestShow_40 : decode cX7_bestShow 40 = .ok (.invokevirtual 154, 3) := by decide +kernel
theorem dX7_bestShow_43 : decode cX7_bestShow 43 = .ok (.istore 5, 2) := by decide +kernel
theorem dX7_bestShow_45 : decode cX7_bestShow 45 = .ok (.iload 5, 2) := by decide +kernel
theorem dX7_bestShow_47 : decode cX7_bestShow 47 = .ok (.iload_n 3, 1) := by decide +kernel
theorem dX7_bestShow_48 : decode cX7_bestShow 48 = .ok (.if_icmp .le 8, 3) := by decide +kernel
theorem dX7_bestShow_51 : decode cX7_bestShow 51 = .ok (.iload 4, 2) := by decide +kernel
theorem dX7_bestShow_53 : decode cX7_bestShow 53 = .ok (.goto 4, 3) := by decide +kernel
theorem dX7_bestShow_56 : decode cX7_bestShow 56 = .ok (.iload_n 2, 1) := by decide +kernel
theorem dX7_bestShow_57 : decode cX7_bestShow 57 = .ok (.istore_n 2, 1) := by decide +kernel
theorem dX7_bestShow_58 : decode cX7_bestShow 58 = .ok (.iload 5, 2) := by decide +kernel
theorem dX7_bestShow_60 : decode cX7_bestShow 60 = .ok (.iload_n 3, 1) := by decide +kernel
theorem dX7_bestShow_61 : decode cX7_bestShow 61 = .ok (.if_icmp .le 8, 3) := by decide +kernel
theorem dX7_bestShow_64 : decode cX7_bestShow 64 = .ok (.iload 5, 2) := by decide +kernel
theorem dX7_bestShow_66 : decode cX7_bestShow 66 = .ok (.goto 4, 3) := by decide +kernel
theorem dX7_bestShow_69 : decode cX7_bestShow 69 = .ok (.iload_n 3, 1) := by decide +kernel
theorem dX7_bestShow_70 : decode cX7_bestShow 70 = .ok (.istore_n 3, 1) := by decide +kernel
theorem dX7_bestShow_71 : decode cX7_bestShow 71 = .ok (.iinc 4 1, 3) := by decide +kernel
theorem dX7_bestShow_74 : decode cX7_bestShow 74 = .ok (.goto (-44), 3) := by decide +kernel
theorem dX7_bestShow_77 : decode cX7_bestShow 77 = .ok (.iload_n 2, 1) := by decide +kernel
theorem dX7_bestShow_78 : decode cX7_bestShow 78 = .ok (.bipush (-6), 2) := by decide +kernel
theorem dX7_bestShow_80 : decode cX7_bestShow 80 = .ok (.if_icmp .eq 7, 3) := by decide +kernel
theorem dX7_bestShow_83 : decode cX7_bestShow 83 = .ok (.iload_n 1, 1) := by decide +kernel
theorem dX7_bestShow_84 : decode cX7_bestShow 84 = .ok (.ifCond .ne 7, 3) := by decide +kernel
theorem dX7_bestShow_87 : decode cX7_bestShow 87 = .ok (.iload_n 2, 1) := by decide +kernel
theorem dX7_bestShow_88 : decode cX7_bestShow 88 = .ok (.goto 4, 3) := by decide +kernel
theorem dX7_bestShow_91 : decode cX7_bestShow 91 = .ok (.iload_n 3, 1) := by decide +kernel
theorem dX7_bestShow_92 : decode cX7_bestShow 92 = .ok (.ireturn, 1) := by decide +kernel
theorem dX7_knownWay_0 : decode cX7_knownWay 0 = .ok (.iload_n 1, 1) := by decide +kernel
theorem dX7_knownWay_1 : decode cX7_knownWay 1 = .ok (.invokestatic 67, 3) := by decide +kernel
theorem dX7_knownWay_4 : decode cX7_knownWay 4 = .ok (.ifCond .eq 10, 3) := by decide +kernel
theorem dX7_knownWay_7 : decode cX7_knownWay 7 = .ok (.iload_n 2, 1) := by decide +kernel
theorem dX7_knownWay_8 : decode cX7_knownWay 8 = .ok (.invokestatic 67, 3) := by decide +kernel
theorem dX7_knownWay_11 : decode cX7_knownWay 11 = .ok (.ifCond .ne 5, 3) := by decide +kernel
theorem dX7_knownWay_14 : decode cX7_knownWay 14 = .ok (.iconst (-1), 1) := by decide +kernel
theorem dX7_knownWay_15 : decode cX7_knownWay 15 = .ok (.ireturn, 1) := by decide +kernel
theorem dX7_knownWay_16 : decode cX7_knownWay 16 = .ok (.aload_n 0, 1) := by decide +kernel
theorem dX7_knownWay_17 : decode cX7_knownWay 17 = .ok (.aload_n 0, 1) := by decide +kernel
theorem dX7_knownWay_18 : decode cX7_knownWay 18 = .ok (.getfield 7, 3) := by decide +kernel
theorem dX7_knownWay_21 : decode cX7_knownWay 21 = .ok (.bipush 17, 2) := by decide +kernel
theorem dX7_knownWay_23 : decode cX7_knownWay 23 = .ok (.iaload, 1) := by decide +kernel
theorem dX7_knownWay_24 : decode cX7_knownWay 24 = .ok (.invokevirtual 80, 3) := by decide +kernel
theorem dX7_knownWay_27 : decode cX7_knownWay 27 = .ok (.aload_n 0, 1) := by decide +kernel
theorem dX7_knownWay_28 : decode cX7_knownWay 28 = .ok (.iload_n 1, 1) := by decide +kernel
theorem dX7_knownWay_29 : decode cX7_knownWay 29 = .ok (.aload_n 0, 1) := by decide +kernel
theorem dX7_knownWay_30 : decode cX7_knownWay 30 = .ok (.getfield 48, 3) := by decide +kernel
theorem dX7_knownWay_33 : decode cX7_knownWay 33 = .ok (.invokevirtual 121, 3) := by decide +kernel
theorem dX7_knownWay_36 : decode cX7_knownWay 36 = .ok (.aload_n 0, 1) := by decide +kernel
theorem dX7_knownWay_37 : decode cX7_knownWay 37 = .ok (.getfield 26, 3) := by decide +kernel
theorem dX7_knownWay_40 : decode cX7_knownWay 40 = .ok (.iload_n 2, 1) := by decide +kernel
theorem dX7_knownWay_41 : decode cX7_knownWay 41 = .ok (.iaload, 1) := by decide +kernel
theorem dX7_knownWay_42 : decode cX7_knownWay 42 = .ok (.bipush 99, 2) := by decide +kernel
theorem dX7_knownWay_44 : decode cX7_knownWay 44 = .ok (.if_icmp .ne 8, 3) := by decide +kernel
theorem dX7_knownWay_47 : decode cX7_knownWay 47 = .ok (.bipush (-6), 2) := by decide +kernel
theorem dX7_knownWay_49 : decode cX7_knownWay 49 = .ok (.goto 9, 3) := by decide +kernel
theorem dX7_knownWay_52 : decode cX7_knownWay 52 = .ok (.aload_n 0, 1) := by decide +kernel
theorem dX7_knownWay_53 : decode cX7_knownWay 53 = .ok (.getfield 26, 3) := by decide +kernel
theorem dX7_knownWay_56 : decode cX7_knownWay 56 = .ok (.iload_n 2, 1) := by decide +kernel
theorem dX7_knownWay_57 : decode cX7_knownWay 57 = .ok (.iaload, 1) := by decide +kernel
theorem dX7_knownWay_58 : decode cX7_knownWay 58 = .ok (.ireturn, 1) := by decide +kernel
theorem dX7_put_0 : decode cX7_put 0 = .ok (.iconst 0, 1) := by decide +kernel
theorem dX7_put_1 : decode cX7_put 1 = .ok (.istore_n 3, 1) := by decide +kernel
theorem dX7_put_2 : decode cX7_put 2 = .ok (.iconst 1, 1) := by decide +kernel
theorem dX7_put_3 : decode cX7_put 3 = .ok (.istore 4, 2) := by decide +kernel
theorem dX7_put_5 : decode cX7_put 5 = .ok (.iconst 0, 1) := by decide +kernel
theorem dX7_put_6 : decode cX7_put 6 = .ok (.istore 5, 2) := by decide +kernel
theorem dX7_put_8 : decode cX7_put 8 = .ok (.iload 5, 2) := by decide +kernel
theorem dX7_put_10 : decode cX7_put 10 = .ok (.bipush 8, 2) := by decide +kernel
theorem dX7_put_12 : decode cX7_put 12 = .ok (.if_icmp .ge 71, 3) := by decide +kernel
theorem dX7_put_15 : decode cX7_put 15 = .ok (.lload_n 1, 1) := by decide +kernel
theorem dX7_put_16 : decode cX7_put 16 = .ok (.bipush 8, 2) := by decide +kernel
theorem dX7_put_18 : decode cX7_put 18 = .ok (.iload 5, 2) := by decide +kernel
theorem dX7_put_20 : decode cX7_put 20 = .ok (.imul, 1) := by decide +kernel
theorem dX7_put_21 : decode cX7_put 21 = .ok (.lushr, 1) := by decide +kernel
theorem dX7_put_22 : decode cX7_put 22 = .ok (.ldc2_w 157, 3) := by decide +kernel
theorem dX7_put_25 : decode cX7_put 25 = .ok (.land, 1) := by decide +kernel
theorem dX7_put_26 : decode cX7_put 26 = .ok (.l2i, 1) := by decide +kernel
theorem dX7_put_27 : decode cX7_put 27 = .ok (.istore 6, 2) := by decide +kernel
theorem dX7_put_29 : decode cX7_put 29 = .ok (.iload 4, 2) := by decide +kernel
theorem dX7_put_31 : decode cX7_put 31 = .ok (.ifCond .eq 30, 3) := by decide +kernel
theorem dX7_put_34 : decode cX7_put 34 = .ok (.iload 6, 2) := by decide +kernel
theorem dX7_put_36 : decode cX7_put 36 = .ok (.ifCond .eq 21, 3) := by decide +kernel
theorem dX7_put_39 : decode cX7_put 39 = .ok (.iload 6, 2) := by decide +kernel
theorem dX7_put_41 : decode cX7_put 41 = .ok (.bipush 33, 2) := by decide +kernel
theorem dX7_put_43 : decode cX7_put 43 = .ok (.bipush 126, 2) := by decide +kernel
theorem dX7_put_45 : decode cX7_put 45 = .ok (.invokestatic 29, 3) := by decide +kernel
theorem dX7_put_48 : decode cX7_put 48 = .ok (.ifCond .eq 13, 3) := by decide +kernel
theorem dX7_put_51 : decode cX7_put 51 = .ok (.iload_n 3, 1) := by decide +kernel
theorem dX7_put_52 : decode cX7_put 52 = .ok (.iload 5, 2) := by decide +kernel
theorem dX7_put_54 : decode cX7_put 54 = .ok (.if_icmp .ne 7, 3) := by decide +kernel
theorem dX7_put_57 : decode cX7_put 57 = .ok (.iconst 1, 1) := by decide +kernel
theorem dX7_put_58 : decode cX7_put 58 = .ok (.goto 4, 3) := by decide +kernel
theorem dX7_put_61 : decode cX7_put 61 = .ok (.iconst 0, 1) := by decide +kernel
theorem dX7_put_62 : decode cX7_put 62 = .ok (.istore 4, 2) := by decide +kernel
theorem dX7_put_64 : decode cX7_put 64 = .ok (.iload_n 3, 1) := by decide +kernel
theorem dX7_put_65 : decode cX7_put 65 = .ok (.iload 6, 2) := by decide +kernel
theorem dX7_put_67 : decode cX7_put 67 = .ok (.ifCond .ne 7, 3) := by decide +kernel
theorem dX7_put_70 : decode cX7_put 70 = .ok (.iconst 0, 1) := by decide +kernel
theorem dX7_put_71 : decode cX7_put 71 = .ok (.goto 4, 3) := by decide +kernel
theorem dX7_put_74 : decode cX7_put 74 = .ok (.iconst 1, 1) := by decide +kernel
theorem dX7_put_75 : decode cX7_put 75 = .ok (.iadd, 1) := by decide +kernel
theorem dX7_put_76 : decode cX7_put 76 = .ok (.istore_n 3, 1) := by decide +kernel
theorem dX7_put_77 : decode cX7_put 77 = .ok (.iinc 5 1, 3) := by decide +kernel
theorem dX7_put_80 : decode cX7_put 80 = .ok (.goto (-72), 3) := by decide +kernel
theorem dX7_put_83 : decode cX7_put 83 = .ok (.iload_n 3, 1) := by decide +kernel
theorem dX7_put_84 : decode cX7_put 84 = .ok (.ifCond .eq 8, 3) := by decide +kernel
theorem dX7_put_87 : decode cX7_put 87 = .ok (.iload 4, 2) := by decide +kernel
theorem dX7_put_89 : decode cX7_put 89 = .ok (.ifCond .ne 6, 3) := by decide +kernel
theorem dX7_put_92 : decode cX7_put 92 = .ok (.bipush (-2), 2) := by decide +kernel
theorem dX7_put_94 : decode cX7_put 94 = .ok (.ireturn, 1) := by decide +kernel
theorem dX7_put_95 : decode cX7_put 95 = .ok (.aload_n 0, 1) := by decide +kernel
theorem dX7_put_96 : decode cX7_put 96 = .ok (.getfield 151, 3) := by decide +kernel
theorem dX7_put_99 : decode cX7_put 99 = .ok (.iload_n 3, 1) := by decide +kernel
theorem dX7_put_100 : decode cX7_put 100 = .ok (.iadd, 1) := by decide +kernel
theorem dX7_put_101 : decode cX7_put 101 = .ok (.bipush 80, 2) := by decide +kernel
theorem dX7_put_103 : decode cX7_put 103 = .ok (.if_icmp .le 6, 3) := by decide +kernel
theorem dX7_put_106 : decode cX7_put 106 = .ok (.bipush (-4), 2) := by decide +kernel
theorem dX7_put_108 : decode cX7_put 108 = .ok (.ireturn, 1) := by decide +kernel
theorem dX7_put_109 : decode cX7_put 109 = .ok (.iload_n 3, 1) := by decide +kernel
theorem dX7_put_110 : decode cX7_put 110 = .ok (.iconst 1, 1) := by decide +kernel
theorem dX7_put_111 : decode cX7_put 111 = .ok (.isub, 1) := by decide +kernel
theorem dX7_put_112 : decode cX7_put 112 = .ok (.istore 5, 2) := by decide +kernel
theorem dX7_put_114 : decode cX7_put 114 = .ok (.iload 5, 2) := by decide +kernel
theorem dX7_put_116 : decode cX7_put 116 = .ok (.ifCond .lt 40, 3) := by decide +kernel
theorem dX7_put_119 : decode cX7_put 119 = .ok (.aload_n 0, 1) := by decide +kernel
theorem dX7_put_120 : decode cX7_put 120 = .ok (.getfield 23, 3) := by decide +kernel
theorem dX7_put_123 : decode cX7_put 123 = .ok (.aload_n 0, 1) := by decide +kernel
theorem dX7_put_124 : decode cX7_put 124 = .ok (.getfield 151, 3) := by decide +kernel
theorem dX7_put_127 : decode cX7_put 127 = .ok (.lload_n 1, 1) := by decide +kernel
theorem dX7_put_128 : decode cX7_put 128 = .ok (.bipush 8, 2) := by decide +kernel
theorem dX7_put_130 : decode cX7_put 130 = .ok (.iload 5, 2) := by decide +kernel
theorem dX7_put_132 : decode cX7_put 132 = .ok (.imul, 1) := by decide +kernel
theorem dX7_put_133 : decode cX7_put 133 = .ok (.lushr, 1) := by decide +kernel
theorem dX7_put_134 : decode cX7_put 134 = .ok (.ldc2_w 157, 3) := by decide +kernel
theorem dX7_put_137 : decode cX7_put 137 = .ok (.land, 1) := by decide +kernel
theorem dX7_put_138 : decode cX7_put 138 = .ok (.l2i, 1) := by decide +kernel
theorem dX7_put_139 : decode cX7_put 139 = .ok (.iastore, 1) := by decide +kernel
theorem dX7_put_140 : decode cX7_put 140 = .ok (.aload_n 0, 1) := by decide +kernel
theorem dX7_put_141 : decode cX7_put 141 = .ok (.dup, 1) := by decide +kernel
theorem dX7_put_142 : decode cX7_put 142 = .ok (.getfield 151, 3) := by decide +kernel
theorem dX7_put_145 : decode cX7_put 145 = .ok (.iconst 1, 1) := by decide +kernel
theorem dX7_put_146 : decode cX7_put 146 = .ok (.iadd, 1) := by decide +kernel
theorem dX7_put_147 : decode cX7_put 147 = .ok (.putfield 151, 3) := by decide +kernel
theorem dX7_put_150 : decode cX7_put 150 = .ok (.iinc 5 (-1), 3) := by decide +kernel
theorem dX7_put_153 : decode cX7_put 153 = .ok (.goto (-39), 3) := by decide +kernel
theorem dX7_put_156 : decode cX7_put 156 = .ok (.aload_n 0, 1) := by decide +kernel
theorem dX7_put_157 : decode cX7_put 157 = .ok (.getfield 151, 3) := by decide +kernel
theorem dX7_put_160 : decode cX7_put 160 = .ok (.ireturn, 1) := by decide +kernel
theorem dX7_wipe_0 : decode cX7_wipe 0 = .ok (.aload_n 0, 1) := by decide +kernel
theorem dX7_wipe_1 : decode cX7_wipe 1 = .ok (.getfield 151, 3) := by decide +kernel
theorem dX7_wipe_4 : decode cX7_wipe 4 = .ok (.istore_n 1, 1) := by decide +kernel
theorem dX7_wipe_5 : decode cX7_wipe 5 = .ok (.aload_n 0, 1) := by decide +kernel
theorem dX7_wipe_6 : decode cX7_wipe 6 = .ok (.iconst 0, 1) := by decide +kernel
theorem dX7_wipe_7 : decode cX7_wipe 7 = .ok (.putfield 151, 3) := by decide +kernel
theorem dX7_wipe_10 : decode cX7_wipe 10 = .ok (.iload_n 1, 1) := by decide +kernel
theorem dX7_wipe_11 : decode cX7_wipe 11 = .ok (.ireturn, 1) := by decide +kernel
theorem dX7_within_0 : decode cX7_within 0 = .ok (.aload_n 0, 1) := by decide +kernel
theorem dX7_within_1 : decode cX7_within 1 = .ok (.getfield 159, 3) := by decide +kernel
theorem dX7_within_4 : decode cX7_within 4 = .ok (.aload_n 0, 1) := by decide +kernel
theorem dX7_within_5 : decode cX7_within 5 = .ok (.getfield 151, 3) := by decide +kernel
theorem dX7_within_8 : decode cX7_within 8 = .ok (.if_icmp .ge 15, 3) := by decide +kernel
theorem dX7_within_11 : decode cX7_within 11 = .ok (.aload_n 0, 1) := by decide +kernel
theorem dX7_within_12 : decode cX7_within 12 = .ok (.getfield 23, 3) := by decide +kernel
theorem dX7_within_15 : decode cX7_within 15 = .ok (.aload_n 0, 1) := by decide +kernel
theorem dX7_within_16 : decode cX7_within 16 = .ok (.getfield 159, 3) := by decide +kernel
theorem dX7_within_19 : decode cX7_within 19 = .ok (.iaload, 1) := by decide +kernel
theorem dX7_within_20 : decode cX7_within 20 = .ok (.goto 4, 3) := by decide +kernel
theorem dX7_within_23 : decode cX7_within 23 = .ok (.iconst 0, 1) := by decide +kernel
theorem dX7_within_24 : decode cX7_within 24 = .ok (.istore_n 3, 1) := by decide +kernel
theorem dX7_within_25 : decode cX7_within 25 = .ok (.aload_n 0, 1) := by decide +kernel
theorem dX7_within_26 : decode cX7_within 26 = .ok (.aload_n 0, 1) := by decide +kernel
theorem dX7_within_27 : decode cX7_within 27 = .ok (.getfield 162, 3) := by decide +kernel
theorem dX7_within_30 : decode cX7_within 30 = .ok (.ifCond .ne 12, 3) := by decide +kernel
theorem dX7_within_33 : decode cX7_within 33 = .ok (.iload_n 3, 1) := by decide +kernel
theorem dX7_within_34 : decode cX7_within 34 = .ok (.iload_n 1, 1) := by decide +kernel
theorem dX7_within_35 : decode cX7_within 35 = .ok (.iload_n 2, 1) := by decide +kernel
theorem dX7_within_36 : decode cX7_within 36 = .ok (.invokestatic 29, 3) := by decide +kernel
theorem dX7_within_39 : decode cX7_within 39 = .ok (.ifCond .ne 7, 3) := by decide +kernel
theorem dX7_within_42 : decode cX7_within 42 = .ok (.iconst 1, 1) := by decide +kernel
theorem dX7_within_43 : decode cX7_within 43 = .ok (.goto 4, 3) := by decide +kernel
theorem dX7_within_46 : decode cX7_within 46 = .ok (.iconst 0, 1) := by decide +kernel
theorem dX7_within_47 : decode cX7_within 47 = .ok (.putfield 162, 3) := by decide +kernel
theorem dX7_within_50 : decode cX7_within 50 = .ok (.aload_n 0, 1) := by decide +kernel
theorem dX7_within_51 : decode cX7_within 51 = .ok (.dup, 1) := by decide +kernel
theorem dX7_within_52 : decode cX7_within 52 = .ok (.getfield 159, 3) := by decide +kernel
theorem dX7_within_55 : decode cX7_within 55 = .ok (.aload_n 0, 1) := by decide +kernel
theorem dX7_within_56 : decode cX7_within 56 = .ok (.getfield 162, 3) := by decide +kernel
theorem dX7_within_59 : decode cX7_within 59 = .ok (.ifCond .eq 7, 3) := by decide +kernel
theorem dX7_within_62 : decode cX7_within 62 = .ok (.iconst 0, 1) := by decide +kernel
theorem dX7_within_63 : decode cX7_within 63 = .ok (.goto 4, 3) := by decide +kernel
theorem dX7_within_66 : decode cX7_within 66 = .ok (.iconst 1, 1) := by decide +kernel
theorem dX7_within_67 : decode cX7_within 67 = .ok (.iadd, 1) := by decide +kernel
theorem dX7_within_68 : decode cX7_within 68 = .ok (.putfield 159, 3) := by decide +kernel
theorem dX7_within_71 : decode cX7_within 71 = .ok (.iload_n 3, 1) := by decide +kernel
theorem dX7_within_72 : decode cX7_within 72 = .ok (.iload_n 1, 1) := by decide +kernel
theorem dX7_within_73 : decode cX7_within 73 = .ok (.isub, 1) := by decide +kernel
theorem dX7_within_74 : decode cX7_within 74 = .ok (.ireturn, 1) := by decide +kernel
theorem dX7_order_0 : decode cX7_order 0 = .ok (.aload_n 0, 1) := by decide +kernel
theorem dX7_order_1 : decode cX7_order 1 = .ok (.aload_n 0, 1) := by decide +kernel
theorem dX7_order_2 : decode cX7_order 2 = .ok (.getfield 162, 3) := by decide +kernel
theorem dX7_order_5 : decode cX7_order 5 = .ok (.ifCond .ne 14, 3) := by decide +kernel
theorem dX7_order_8 : decode cX7_order 8 = .ok (.aload_n 0, 1) := by decide +kernel
theorem dX7_order_9 : decode cX7_order 9 = .ok (.getfield 159, 3) := by decide +kernel
theorem dX7_order_12 : decode cX7_order 12 = .ok (.aload_n 0, 1) := by decide +kernel
theorem dX7_order_13 : decode cX7_order 13 = .ok (.getfield 151, 3) := by decide +kernel
theorem dX7_order_16 : decode cX7_order 16 = .ok (.if_icmp .ne 7, 3) := by decide +kernel
theorem dX7_order_19 : decode cX7_order 19 = .ok (.iconst 0, 1) := by decide +kernel
theorem dX7_order_20 : decode cX7_order 20 = .ok (.goto 12, 3) := by decide +kernel
theorem dX7_order_23 : decode cX7_order 23 = .ok (.aload_n 0, 1) := by decide +kernel
theorem dX7_order_24 : decode cX7_order 24 = .ok (.getfield 23, 3) := by decide +kernel
theorem dX7_order_27 : decode cX7_order 27 = .ok (.aload_n 0, 1) := by decide +kernel
theorem dX7_order_28 : decode cX7_order 28 = .ok (.getfield 159, 3) := by decide +kernel
theorem dX7_order_31 : decode cX7_order 31 = .ok (.iaload, 1) := by decide +kernel
theorem dX7_order_32 : decode cX7_order 32 = .ok (.putfield 166, 3) := by decide +kernel
theorem dX7_order_35 : decode cX7_order 35 = .ok (.aload_n 0, 1) := by decide +kernel
theorem dX7_order_36 : decode cX7_order 36 = .ok (.getfield 166, 3) := by decide +kernel
theorem dX7_order_39 : decode cX7_order 39 = .ok (.bipush 114, 2) := by decide +kernel
theorem dX7_order_41 : decode cX7_order 41 = .ok (.if_icmp .eq 30, 3) := by decide +kernel
theorem dX7_order_44 : decode cX7_order 44 = .ok (.aload_n 0, 1) := by decide +kernel
theorem dX7_order_45 : decode cX7_order 45 = .ok (.getfield 166, 3) := by decide +kernel
theorem dX7_order_48 : decode cX7_order 48 = .ok (.bipush 43, 2) := by decide +kernel
theorem dX7_order_50 : decode cX7_order 50 = .ok (.if_icmp .eq 21, 3) := by decide +kernel
theorem dX7_order_53 : decode cX7_order 53 = .ok (.aload_n 0, 1) := by decide +kernel
theorem dX7_order_54 : decode cX7_order 54 = .ok (.getfield 166, 3) := by decide +kernel
theorem dX7_order_57 : decode cX7_order 57 = .ok (.bipush 45, 2) := by decide +kernel
theorem dX7_order_59 : decode cX7_order 59 = .ok (.if_icmp .eq 12, 3) := by decide +kernel
theorem dX7_order_62 : decode cX7_order 62 = .ok (.aload_n 0, 1) := by decide +kernel
theorem dX7_order_63 : decode cX7_order 63 = .ok (.getfield 166, 3) := by decide +kernel
theorem dX7_order_66 : decode cX7_order 66 = .ok (.bipush 99, 2) := by decide +kernel
theorem dX7_order_68 : decode cX7_order 68 = .ok (.if_icmp .ne 7, 3) := by decide +kernel
theorem dX7_order_71 : decode cX7_order 71 = .ok (.iconst 1, 1) := by decide +kernel
theorem dX7_order_72 : decode cX7_order 72 = .ok (.goto 4, 3) := by decide +kernel
theorem dX7_order_75 : decode cX7_order 75 = .ok (.iconst 0, 1) := by decide +kernel
theorem dX7_order_76 : decode cX7_order 76 = .ok (.istore_n 1, 1) := by decide +kernel
theorem dX7_order_77 : decode cX7_order 77 = .ok (.iload_n 1, 1) := by decide +kernel
theorem dX7_order_78 : decode cX7_order 78 = .ok (.ifCond .ne 21, 3) := by decide +kernel
theorem dX7_order_81 : decode cX7_order 81 = .ok (.aload_n 0, 1) := by decide +kernel
theorem dX7_order_82 : decode cX7_order 82 = .ok (.getfield 166, 3) := by decide +kernel
theorem dX7_order_85 : decode cX7_order 85 = .ok (.bipush 116, 2) := by decide +kernel
theorem dX7_order_87 : decode cX7_order 87 = .ok (.if_icmp .eq 12, 3) := by decide +kernel
theorem dX7_order_90 : decode cX7_order 90 = .ok (.aload_n 0, 1) := by decide +kernel
theorem dX7_order_91 : decode cX7_order 91 = .ok (.getfield 166, 3) := by decide +kernel
theorem dX7_order_94 : decode cX7_order 94 = .ok (.bipush 100, 2) := by decide +kernel
theorem dX7_order_96 : decode cX7_order 96 = .ok (.if_icmp .ne 7, 3) := by decide +kernel
theorem dX7_order_99 : decode cX7_order 99 = .ok (.iconst 1, 1) := by decide +kernel
theorem dX7_order_100 : decode cX7_order 100 = .ok (.goto 4, 3) := by decide +kernel
theorem dX7_order_103 : decode cX7_order 103 = .ok (.iconst 0, 1) := by decide +kernel
theorem dX7_order_104 : decode cX7_order 104 = .ok (.istore_n 2, 1) := by decide +kernel
theorem dX7_order_105 : decode cX7_order 105 = .ok (.aload_n 0, 1) := by decide +kernel
theorem dX7_order_106 : decode cX7_order 106 = .ok (.aload_n 0, 1) := by decide +kernel
theorem dX7_order_107 : decode cX7_order 107 = .ok (.getfield 162, 3) := by decide +kernel
theorem dX7_order_110 : decode cX7_order 110 = .ok (.ifCond .ne 25, 3) := by decide +kernel
theorem dX7_order_113 : decode cX7_order 113 = .ok (.iload_n 2, 1) := by decide +kernel
theorem dX7_order_114 : decode cX7_order 114 = .ok (.ifCond .ne 25, 3) := by decide +kernel
theorem dX7_order_117 : decode cX7_order 117 = .ok (.aload_n 0, 1) := by decide +kernel
theorem dX7_order_118 : decode cX7_order 118 = .ok (.getfield 166, 3) := by decide +kernel
theorem dX7_order_121 : decode cX7_order 121 = .ok (.bipush 98, 2) := by decide +kernel
theorem dX7_order_123 : decode cX7_order 123 = .ok (.if_icmp .eq 16, 3) := by decide +kernel
theorem dX7_order_126 : decode cX7_order 126 = .ok (.aload_n 0, 1) := by decide +kernel
theorem dX7_order_127 : decode cX7_order 127 = .ok (.getfield 166, 3) := by decide +kernel
theorem dX7_order_130 : decode cX7_order 130 = .ok (.bipush 112, 2) := by decide +kernel
theorem dX7_order_132 : decode cX7_order 132 = .ok (.if_icmp .eq 7, 3) := by decide +kernel
theorem dX7_order_135 : decode cX7_order 135 = .ok (.iconst 1, 1) := by decide +kernel
theorem dX7_order_136 : decode cX7_order 136 = .ok (.goto 4, 3) := by decide +kernel
theorem dX7_order_139 : decode cX7_order 139 = .ok (.iconst 0, 1) := by decide +kernel
theorem dX7_order_140 : decode cX7_order 140 = .ok (.putfield 162, 3) := by decide +kernel
theorem dX7_order_143 : decode cX7_order 143 = .ok (.aload_n 0, 1) := by decide +kernel
theorem dX7_order_144 : decode cX7_order 144 = .ok (.dup, 1) := by decide +kernel
theorem dX7_order_145 : decode cX7_order 145 = .ok (.getfield 159, 3) := by decide +kernel
theorem dX7_order_148 : decode cX7_order 148 = .ok (.aload_n 0, 1) := by decide +kernel
theorem dX7_order_149 : decode cX7_order 149 = .ok (.getfield 162, 3) := by decide +kernel
theorem dX7_order_152 : decode cX7_order 152 = .ok (.ifCond .eq 7, 3) := by decide +kernel
theorem dX7_order_155 : decode cX7_order 155 = .ok (.iconst 0, 1) := by decide +kernel
theorem dX7_order_156 : decode cX7_order 156 = .ok (.goto 4, 3) := by decide +kernel
theorem dX7_order_159 : decode cX7_order 159 = .ok (.iconst 1, 1) := by decide +kernel
theorem dX7_order_160 : decode cX7_order 160 = .ok (.iadd, 1) := by decide +kernel
theorem dX7_order_161 : decode cX7_order 161 = .ok (.putfield 159, 3) := by decide +kernel
theorem dX7_order_164 : decode cX7_order 164 = .ok (.aload_n 0, 1) := by decide +kernel
theorem dX7_order_165 : decode cX7_order 165 = .ok (.aload_n 0, 1) := by decide +kernel
theorem dX7_order_166 : decode cX7_order 166 = .ok (.getfield 166, 3) := by decide +kernel
theorem dX7_order_169 : decode cX7_order 169 = .ok (.bipush 99, 2) := by decide +kernel
theorem dX7_order_171 : decode cX7_order 171 = .ok (.if_icmp .ne 14, 3) := by decide +kernel
theorem dX7_order_174 : decode cX7_order 174 = .ok (.aload_n 0, 1) := by decide +kernel
theorem dX7_order_175 : decode cX7_order 175 = .ok (.bipush 48, 2) := by decide +kernel
theorem dX7_order_177 : decode cX7_order 177 = .ok (.bipush 57, 2) := by decide +kernel
theorem dX7_order_179 : decode cX7_order 179 = .ok (.invokevirtual 169, 3) := by decide +kernel
theorem dX7_order_182 : decode cX7_order 182 = .ok (.goto 4, 3) := by decide +kernel
theorem dX7_order_185 : decode cX7_order 185 = .ok (.iconst 0, 1) := by decide +kernel
theorem dX7_order_186 : decode cX7_order 186 = .ok (.putfield 172, 3) := by decide +kernel
theorem dX7_order_189 : decode cX7_order 189 = .ok (.aload_n 0, 1) := by decide +kernel
theorem dX7_order_190 : decode cX7_order 190 = .ok (.iload_n 2, 1) := by decide +kernel
theorem dX7_order_191 : decode cX7_order 191 = .ok (.ifCond .eq 14, 3) := by decide +kernel
theorem dX7_order_194 : decode cX7_order 194 = .ok (.aload_n 0, 1) := by decide +kernel
theorem dX7_order_195 : decode cX7_order 195 = .ok (.bipush 97, 2) := by decide +kernel
theorem dX7_order_197 : decode cX7_order 197 = .ok (.bipush 104, 2) := by decide +kernel
theorem dX7_order_199 : decode cX7_order 199 = .ok (.invokevirtual 169, 3) := by decide +kernel
theorem dX7_order_202 : decode cX7_order 202 = .ok (.goto 4, 3) := by decide +kernel
theorem dX7_order_205 : decode cX7_order 205 = .ok (.iconst 0, 1) := by decide +kernel
theorem dX7_order_206 : decode cX7_order 206 = .ok (.putfield 175, 3) := by decide +kernel
theorem dX7_order_209 : decode cX7_order 209 = .ok (.aload_n 0, 1) := by decide +kernel
theorem dX7_order_210 : decode cX7_order 210 = .ok (.iload_n 1, 1) := by decide +kernel
theorem dX7_order_211 : decode cX7_order 211 = .ok (.ifCond .eq 14, 3) := by decide +kernel
theorem dX7_order_214 : decode cX7_order 214 = .ok (.aload_n 0, 1) := by decide +kernel
theorem dX7_order_215 : decode cX7_order 215 = .ok (.bipush 97, 2) := by decide +kernel
theorem dX7_order_217 : decode cX7_order 217 = .ok (.bipush 104, 2) := by decide +kernel
theorem dX7_order_219 : decode cX7_order 219 = .ok (.invokevirtual 169, 3) := by decide +kernel
theorem dX7_order_222 : decode cX7_order 222 = .ok (.goto 4, 3) := by decide +kernel
theorem dX7_order_225 : decode cX7_order 225 = .ok (.iconst 0, 1) := by decide +kernel
theorem dX7_order_226 : decode cX7_order 226 = .ok (.putfield 178, 3) := by decide +kernel
theorem dX7_order_229 : decode cX7_order 229 = .ok (.return_, 1) := by decide +kernel
theorem dX7_isWhole_0 : decode cX7_isWhole 0 = .ok (.aload_n 0, 1) := by decide +kernel
theorem dX7_isWhole_1 : decode cX7_isWhole 1 = .ok (.iconst 0, 1) := by decide +kernel
theorem dX7_isWhole_2 : decode cX7_isWhole 2 = .ok (.putfield 159, 3) := by decide +kernel
theorem dX7_isWhole_5 : decode cX7_isWhole 5 = .ok (.aload_n 0, 1) := by decide +kernel
theorem dX7_isWhole_6 : decode cX7_isWhole 6 = .ok (.iconst 0, 1) := by decide +kernel
theorem dX7_isWhole_7 : decode cX7_isWhole 7 = .ok (.putfield 162, 3) := by decide +kernel
theorem dX7_isWhole_10 : decode cX7_isWhole 10 = .ok (.iconst 1, 1) := by decide +kernel
theorem dX7_isWhole_11 : decode cX7_isWhole 11 = .ok (.istore_n 1, 1) := by decide +kernel
theorem dX7_isWhole_12 : decode cX7_isWhole 12 = .ok (.iload_n 1, 1) := by decide +kernel
theorem dX7_isWhole_13 : decode cX7_isWhole 13 = .ok (.ifCond .eq 60, 3) := by decide +kernel
theorem dX7_isWhole_16 : decode cX7_isWhole 16 = .ok (.aload_n 0, 1) := by decide +kernel
theorem dX7_isWhole_17 : decode cX7_isWhole 17 = .ok (.invokevirtual 181, 3) := by decide +kernel
theorem dX7_isWhole_20 : decode cX7_isWhole 20 = .ok (.aload_n 0, 1) := by decide +kernel
theorem dX7_isWhole_21 : decode cX7_isWhole 21 = .ok (.getfield 162, 3) := by decide +kernel
theorem dX7_isWhole_24 : decode cX7_isWhole 24 = .ok (.ifCond .ne 18, 3) := by decide +kernel
theorem dX7_isWhole_27 : decode cX7_isWhole 27 = .ok (.aload_n 0, 1) := by decide +kernel
theorem dX7_isWhole_28 : decode cX7_isWhole 28 = .ok (.getfield 159, 3) := by decide +kernel
theorem dX7_isWhole_31 : decode cX7_isWhole 31 = .ok (.aload_n 0, 1) := by decide +kernel
theorem dX7_isWhole_32 : decode cX7_isWhole 32 = .ok (.getfield 151, 3) := by decide +kernel
theorem dX7_isWhole_35 : decode cX7_isWhole 35 = .ok (.if_icmp .ge 7, 3) := by decide +kernel
theorem dX7_isWhole_38 : decode cX7_isWhole 38 = .ok (.iconst 1, 1) := by decide +kernel
theorem dX7_isWhole_39 : decode cX7_isWhole 39 = .ok (.goto 4, 3) := by decide +kernel
theorem dX7_isWhole_42 : decode cX7_isWhole 42 = .ok (.iconst 0, 1) := by decide +kernel
theorem dX7_isWhole_43 : decode cX7_isWhole 43 = .ok (.istore_n 1, 1) := by decide +kernel
theorem dX7_isWhole_44 : decode cX7_isWhole 44 = .ok (.iload_n 1, 1) := by decide +kernel
theorem dX7_isWhole_45 : decode cX7_isWhole 45 = .ok (.ifCond .eq (-33), 3) := by decide +kernel
theorem dX7_isWhole_48 : decode cX7_isWhole 48 = .ok (.aload_n 0, 1) := by decide +kernel
theorem dX7_isWhole_49 : decode cX7_isWhole 49 = .ok (.bipush 59, 2) := by decide +kernel
theorem dX7_isWhole_51 : decode cX7_isWhole 51 = .ok (.bipush 59, 2) := by decide +kernel
theorem dX7_isWhole_53 : decode cX7_isWhole 53 = .ok (.invokevirtual 169, 3) := by decide +kernel
theorem dX7_isWhole_56 : decode cX7_isWhole 56 = .ok (.istore_n 2, 1) := by decide +kernel
theorem dX7_isWhole_57 : decode cX7_isWhole 57 = .ok (.aload_n 0, 1) := by decide +kernel
theorem dX7_isWhole_58 : decode cX7_isWhole 58 = .ok (.getfield 162, 3) := by decide +kernel
theorem dX7_isWhole_61 : decode cX7_isWhole 61 = .ok (.ifCond .ne 7, 3) := by decide +kernel
theorem dX7_isWhole_64 : decode cX7_isWhole 64 = .ok (.iconst 1, 1) := by decide +kernel
theorem dX7_isWhole_65 : decode cX7_isWhole 65 = .ok (.goto 4, 3) := by decide +kernel
theorem dX7_isWhole_68 : decode cX7_isWhole 68 = .ok (.iconst 0, 1) := by decide +kernel
theorem dX7_isWhole_69 : decode cX7_isWhole 69 = .ok (.istore_n 1, 1) := by decide +kernel
theorem dX7_isWhole_70 : decode cX7_isWhole 70 = .ok (.goto (-58), 3) := by decide +kernel
theorem dX7_isWhole_73 : decode cX7_isWhole 73 = .ok (.aload_n 0, 1) := by decide +kernel
theorem dX7_isWhole_74 : decode cX7_isWhole 74 = .ok (.getfield 162, 3) := by decide +kernel
theorem dX7_isWhole_77 : decode cX7_isWhole 77 = .ok (.ifCond .ne 7, 3) := by decide +kernel
theorem dX7_isWhole_80 : decode cX7_isWhole 80 = .ok (.iconst 1, 1) := by decide +kernel
theorem dX7_isWhole_81 : decode cX7_isWhole 81 = .ok (.goto 4, 3) := by decide +kernel
theorem dX7_isWhole_84 : decode cX7_isWhole 84 = .ok (.iconst 0, 1) := by decide +kernel
theorem dX7_isWhole_85 : decode cX7_isWhole 85 = .ok (.ireturn, 1) := by decide +kernel
theorem dX7_fault_0 : decode cX7_fault 0 = .ok (.aload_n 0, 1) := by decide +kernel
theorem dX7_fault_1 : decode cX7_fault 1 = .ok (.invokevirtual 184, 3) := by decide +kernel
theorem dX7_fault_4 : decode cX7_fault 4 = .ok (.ifCond .eq 8, 3) := by decide +kernel
theorem dX7_fault_7 : decode cX7_fault 7 = .ok (.bipush (-6), 2) := by decide +kernel
theorem dX7_fault_9 : decode cX7_fault 9 = .ok (.goto 7, 3) := by decide +kernel
theorem dX7_fault_12 : decode cX7_fault 12 = .ok (.aload_n 0, 1) := by decide +kernel
theorem dX7_fault_13 : decode cX7_fault 13 = .ok (.getfield 159, 3) := by decide +kernel
theorem dX7_fault_16 : decode cX7_fault 16 = .ok (.ireturn, 1) := by decide +kernel
theorem dX7_bar_0 : decode cX7_bar 0 = .ok (.aload_n 0, 1) := by decide +kernel
theorem dX7_bar_1 : decode cX7_bar 1 = .ok (.getfield 166, 3) := by decide +kernel
theorem dX7_bar_4 : decode cX7_bar 4 = .ok (.lookupswitch 144 #[(43, 104), (45, 104), (98, 90), (99, 118), (100, 135), (114, 68), (116, 81)], 68) := by decide +kernel
theorem dX7_bar_72 : decode cX7_bar 72 = .ok (.aload_n 0, 1) := by decide +kernel
theorem dX7_bar_73 : decode cX7_bar 73 = .ok (.aload_n 0, 1) := by decide +kernel
theorem dX7_bar_74 : decode cX7_bar 74 = .ok (.getfield 175, 3) := by decide +kernel
theorem dX7_bar_77 : decode cX7_bar 77 = .ok (.aload_n 0, 1) := by decide +kernel
theorem dX7_bar_78 : decode cX7_bar 78 = .ok (.getfield 178, 3) := by decide +kernel
theorem dX7_bar_81 : decode cX7_bar 81 = .ok (.invokevirtual 71, 3) := by decide +kernel
theorem dX7_bar_84 : decode cX7_bar 84 = .ok (.ireturn, 1) := by decide +kernel
theorem dX7_bar_85 : decode cX7_bar 85 = .ok (.aload_n 0, 1) := by decide +kernel
theorem dX7_bar_86 : decode cX7_bar 86 = .ok (.aload_n 0, 1) := by decide +kernel
theorem dX7_bar_87 : decode cX7_bar 87 = .ok (.getfield 175, 3) := by decide +kernel
theorem dX7_bar_90 : decode cX7_bar 90 = .ok (.invokevirtual 77, 3) := by decide +kernel
theorem dX7_bar_93 : decode cX7_bar 93 = .ok (.ireturn, 1) := by decide +kernel
theorem dX7_bar_94 : decode cX7_bar 94 = .ok (.aload_n 0, 1) := by decide +kernel
theorem dX7_bar_95 : decode cX7_bar 95 = .ok (.invokevirtual 41, 3) := by decide +kernel
theorem dX7_bar_98 : decode cX7_bar 98 = .ok (.ifCond .eq 8, 3) := by decide +kernel
theorem dX7_bar_101 : decode cX7_bar 101 = .ok (.bipush (-5), 2) := by decide +kernel
theorem dX7_bar_103 : decode cX7_bar 103 = .ok (.goto 4, 3) := by decide +kernel
theorem dX7_bar_106 : decode cX7_bar 106 = .ok (.iconst 0, 1) := by decide +kernel
theorem dX7_bar_107 : decode cX7_bar 107 = .ok (.ireturn, 1) := by decide +kernel
theorem dX7_bar_108 : decode cX7_bar 108 = .ok (.aload_n 0, 1) := by decide +kernel
theorem dX7_bar_109 : decode cX7_bar 109 = .ok (.aload_n 0, 1) := by decide +kernel
theorem dX7_bar_110 : decode cX7_bar 110 = .ok (.getfield 175, 3) := by decide +kernel
theorem dX7_bar_113 : decode cX7_bar 113 = .ok (.aload_n 0, 1) := by decide +kernel
theorem dX7_bar_114 : decode cX7_bar 114 = .ok (.getfield 178, 3) := by decide +kernel
theorem dX7_bar_117 : decode cX7_bar 117 = .ok (.iconst 1, 1) := by decide +kernel
theorem dX7_bar_118 : decode cX7_bar 118 = .ok (.invokevirtual 97, 3) := by decide +kernel
theorem dX7_bar_121 : decode cX7_bar 121 = .ok (.ireturn, 1) := by decide +kernel
theorem dX7_bar_122 : decode cX7_bar 122 = .ok (.aload_n 0, 1) := by decide +kernel
theorem dX7_bar_123 : decode cX7_bar 123 = .ok (.aload_n 0, 1) := by decide +kernel
theorem dX7_bar_124 : decode cX7_bar 124 = .ok (.getfield 172, 3) := by decide +kernel
theorem dX7_bar_127 : decode cX7_bar 127 = .ok (.aload_n 0, 1) := by decide +kernel
theorem dX7_bar_128 : decode cX7_bar 128 = .ok (.getfield 175, 3) := by decide +kernel
theorem dX7_bar_131 : decode cX7_bar 131 = .ok (.aload_n 0, 1) := by decide +kernel
theorem dX7_bar_132 : decode cX7_bar 132 = .ok (.getfield 178, 3) := by decide +kernel
theorem dX7_bar_135 : decode cX7_bar 135 = .ok (.invokevirtual 115, 3) := by decide +kernel
theorem dX7_bar_138 : decode cX7_bar 138 = .ok (.ireturn, 1) := by decide +kernel
theorem dX7_bar_139 : decode cX7_bar 139 = .ok (.aload_n 0, 1) := by decide +kernel
theorem dX7_bar_140 : decode cX7_bar 140 = .ok (.aload_n 0, 1) := by decide +kernel
theorem dX7_bar_141 : decode cX7_bar 141 = .ok (.getfield 175, 3) := by decide +kernel
theorem dX7_bar_144 : decode cX7_bar 144 = .ok (.invokevirtual 124, 3) := by decide +kernel
theorem dX7_bar_147 : decode cX7_bar 147 = .ok (.ireturn, 1) := by decide +kernel
theorem dX7_bar_148 : decode cX7_bar 148 = .ok (.aload_n 0, 1) := by decide +kernel
theorem dX7_bar_149 : decode cX7_bar 149 = .ok (.invokevirtual 84, 3) := by decide +kernel
theorem dX7_bar_152 : decode cX7_bar 152 = .ok (.ifCond .eq 7, 3) := by decide +kernel
theorem dX7_bar_155 : decode cX7_bar 155 = .ok (.iconst 0, 1) := by decide +kernel
theorem dX7_bar_156 : decode cX7_bar 156 = .ok (.goto 5, 3) := by decide +kernel
theorem dX7_bar_159 : decode cX7_bar 159 = .ok (.bipush (-5), 2) := by decide +kernel
theorem dX7_bar_161 : decode cX7_bar 161 = .ok (.ireturn, 1) := by decide +kernel
theorem dX7_does_0 : decode cX7_does 0 = .ok (.aload_n 0, 1) := by decide +kernel
theorem dX7_does_1 : decode cX7_does 1 = .ok (.getfield 166, 3) := by decide +kernel
theorem dX7_does_4 : decode cX7_does 4 = .ok (.lookupswitch 157 #[(43, 103), (45, 117), (98, 93), (99, 131), (100, 148), (114, 68), (116, 81)], 68) := by decide +kernel
theorem dX7_does_72 : decode cX7_does 72 = .ok (.aload_n 0, 1) := by decide +kernel
theorem dX7_does_73 : decode cX7_does 73 = .ok (.aload_n 0, 1) := by decide +kernel
theorem dX7_does_74 : decode cX7_does 74 = .ok (.getfield 175, 3) := by decide +kernel
theorem dX7_does_77 : decode cX7_does 77 = .ok (.aload_n 0, 1) := by decide +kernel
theorem dX7_does_78 : decode cX7_does 78 = .ok (.getfield 178, 3) := by decide +kernel
theorem dX7_does_81 : decode cX7_does 81 = .ok (.invokevirtual 74, 3) := by decide +kernel
theorem dX7_does_84 : decode cX7_does 84 = .ok (.ireturn, 1) := by decide +kernel
theorem dX7_does_85 : decode cX7_does 85 = .ok (.aload_n 0, 1) := by decide +kernel
theorem dX7_does_86 : decode cX7_does 86 = .ok (.getfield 7, 3) := by decide +kernel
theorem dX7_does_89 : decode cX7_does 89 = .ok (.iconst 1, 1) := by decide +kernel
theorem dX7_does_90 : decode cX7_does 90 = .ok (.aload_n 0, 1) := by decide +kernel
theorem dX7_does_91 : decode cX7_does 91 = .ok (.getfield 175, 3) := by decide +kernel
theorem dX7_does_94 : decode cX7_does 94 = .ok (.iastore, 1) := by decide +kernel
theorem dX7_does_95 : decode cX7_does 95 = .ok (.iconst 0, 1) := by decide +kernel
theorem dX7_does_96 : decode cX7_does 96 = .ok (.ireturn, 1) := by decide +kernel
theorem dX7_does_97 : decode cX7_does 97 = .ok (.aload_n 0, 1) := by decide +kernel
theorem dX7_does_98 : decode cX7_does 98 = .ok (.getfield 7, 3) := by decide +kernel
theorem dX7_does_101 : decode cX7_does 101 = .ok (.bipush 6, 2) := by decide +kernel
theorem dX7_does_103 : decode cX7_does 103 = .ok (.iconst 1, 1) := by decide +kernel
theorem dX7_does_104 : decode cX7_does 104 = .ok (.iastore, 1) := by decide +kernel
theorem dX7_does_105 : decode cX7_does 105 = .ok (.iconst 0, 1) := by decide +kernel
theorem dX7_does_106 : decode cX7_does 106 = .ok (.ireturn, 1) := by decide +kernel
theorem dX7_does_107 : decode cX7_does 107 = .ok (.aload_n 0, 1) := by decide +kernel
theorem dX7_does_108 : decode cX7_does 108 = .ok (.aload_n 0, 1) := by decide +kernel
theorem dX7_does_109 : decode cX7_does 109 = .ok (.getfield 175, 3) := by decide +kernel
theorem dX7_does_112 : decode cX7_does 112 = .ok (.aload_n 0, 1) := by decide +kernel
theorem dX7_does_113 : decode cX7_does 113 = .ok (.getfield 178, 3) := by decide +kernel
theorem dX7_does_116 : decode cX7_does 116 = .ok (.iconst 1, 1) := by decide +kernel
theorem dX7_does_117 : decode cX7_does 117 = .ok (.invokevirtual 101, 3) := by decide +kernel
theorem dX7_does_120 : decode cX7_does 120 = .ok (.ireturn, 1) := by decide +kernel
theorem dX7_does_121 : decode cX7_does 121 = .ok (.aload_n 0, 1) := by decide +kernel
theorem dX7_does_122 : decode cX7_does 122 = .ok (.aload_n 0, 1) := by decide +kernel
theorem dX7_does_123 : decode cX7_does 123 = .ok (.getfield 175, 3) := by decide +kernel
theorem dX7_does_126 : decode cX7_does 126 = .ok (.aload_n 0, 1) := by decide +kernel
theorem dX7_does_127 : decode cX7_does 127 = .ok (.getfield 178, 3) := by decide +kernel
theorem dX7_does_130 : decode cX7_does 130 = .ok (.iconst 0, 1) := by decide +kernel
theorem dX7_does_131 : decode cX7_does 131 = .ok (.invokevirtual 101, 3) := by decide +kernel
theorem dX7_does_134 : decode cX7_does 134 = .ok (.ireturn, 1) := by decide +kernel
theorem dX7_does_135 : decode cX7_does 135 = .ok (.aload_n 0, 1) := by decide +kernel
theorem dX7_does_136 : decode cX7_does 136 = .ok (.aload_n 0, 1) := by decide +kernel
theorem dX7_does_137 : decode cX7_does 137 = .ok (.getfield 172, 3) := by decide +kernel
theorem dX7_does_140 : decode cX7_does 140 = .ok (.aload_n 0, 1) := by decide +kernel
theorem dX7_does_141 : decode cX7_does 141 = .ok (.getfield 175, 3) := by decide +kernel
theorem dX7_does_144 : decode cX7_does 144 = .ok (.aload_n 0, 1) := by decide +kernel
theorem dX7_does_145 : decode cX7_does 145 = .ok (.getfield 178, 3) := by decide +kernel
theorem dX7_does_148 : decode cX7_does 148 = .ok (.invokevirtual 118, 3) := by decide +kernel
theorem dX7_does_151 : decode cX7_does 151 = .ok (.ireturn, 1) := by decide +kernel
theorem dX7_does_152 : decode cX7_does 152 = .ok (.aload_n 0, 1) := by decide +kernel
theorem dX7_does_153 : decode cX7_does 153 = .ok (.aload_n 0, 1) := by decide +kernel
theorem dX7_does_154 : decode cX7_does 154 = .ok (.getfield 175, 3) := by decide +kernel
theorem dX7_does_157 : decode cX7_does 157 = .ok (.invokevirtual 127, 3) := by decide +kernel
theorem dX7_does_160 : decode cX7_does 160 = .ok (.ireturn, 1) := by decide +kernel
theorem dX7_does_161 : decode cX7_does 161 = .ok (.aload_n 0, 1) := by decide +kernel
theorem dX7_does_162 : decode cX7_does 162 = .ok (.invokevirtual 91, 3) := by decide +kernel
theorem dX7_does_165 : decode cX7_does 165 = .ok (.iconst 0, 1) := by decide +kernel
theorem dX7_does_166 : decode cX7_does 166 = .ok (.ireturn, 1) := by decide +kernel
theorem dX7_carryOut_0 : decode cX7_carryOut 0 = .ok (.aload_n 0, 1) := by decide +kernel
theorem dX7_carryOut_1 : decode cX7_carryOut 1 = .ok (.invokevirtual 184, 3) := by decide +kernel
theorem dX7_carryOut_4 : decode cX7_carryOut 4 = .ok (.ifCond .ne 6, 3) := by decide +kernel
theorem dX7_carryOut_7 : decode cX7_carryOut 7 = .ok (.bipush (-3), 2) := by decide +kernel
theorem dX7_carryOut_9 : decode cX7_carryOut 9 = .ok (.ireturn, 1) := by decide +kernel
theorem dX7_carryOut_10 : decode cX7_carryOut 10 = .ok (.aload_n 0, 1) := by decide +kernel
theorem dX7_carryOut_11 : decode cX7_carryOut 11 = .ok (.invokevirtual 64, 3) := by decide +kernel
theorem dX7_carryOut_14 : decode cX7_carryOut 14 = .ok (.iconst 0, 1) := by decide +kernel
theorem dX7_carryOut_15 : decode cX7_carryOut 15 = .ok (.istore_n 1, 1) := by decide +kernel
theorem dX7_carryOut_16 : decode cX7_carryOut 16 = .ok (.aload_n 0, 1) := by decide +kernel
theorem dX7_carryOut_17 : decode cX7_carryOut 17 = .ok (.iconst 0, 1) := by decide +kernel
theorem dX7_carryOut_18 : decode cX7_carryOut 18 = .ok (.putfield 159, 3) := by decide +kernel
theorem dX7_carryOut_21 : decode cX7_carryOut 21 = .ok (.iconst 1, 1) := by decide +kernel
theorem dX7_carryOut_22 : decode cX7_carryOut 22 = .ok (.istore_n 2, 1) := by decide +kernel
theorem dX7_carryOut_23 : decode cX7_carryOut 23 = .ok (.iload_n 2, 1) := by decide +kernel
theorem dX7_carryOut_24 : decode cX7_carryOut 24 = .ok (.ifCond .eq 56, 3) := by decide +kernel
theorem dX7_carryOut_27 : decode cX7_carryOut 27 = .ok (.aload_n 0, 1) := by decide +kernel
theorem dX7_carryOut_28 : decode cX7_carryOut 28 = .ok (.getfield 159, 3) := by decide +kernel
theorem dX7_carryOut_31 : decode cX7_carryOut 31 = .ok (.aload_n 0, 1) := by decide +kernel
theorem dX7_carryOut_32 : decode cX7_carryOut 32 = .ok (.getfield 151, 3) := by decide +kernel
theorem dX7_carryOut_35 : decode cX7_carryOut 35 = .ok (.if_icmp .ge 45, 3) := by decide +kernel
theorem dX7_carryOut_38 : decode cX7_carryOut 38 = .ok (.aload_n 0, 1) := by decide +kernel
theorem dX7_carryOut_39 : decode cX7_carryOut 39 = .ok (.invokevirtual 181, 3) := by decide +kernel
theorem dX7_carryOut_42 : decode cX7_carryOut 42 = .ok (.aload_n 0, 1) := by decide +kernel
theorem dX7_carryOut_43 : decode cX7_carryOut 43 = .ok (.dup, 1) := by decide +kernel
theorem dX7_carryOut_44 : decode cX7_carryOut 44 = .ok (.getfield 159, 3) := by decide +kernel
theorem dX7_carryOut_47 : decode cX7_carryOut 47 = .ok (.iconst 1, 1) := by decide +kernel
theorem dX7_carryOut_48 : decode cX7_carryOut 48 = .ok (.iadd, 1) := by decide +kernel
theorem dX7_carryOut_49 : decode cX7_carryOut 49 = .ok (.putfield 159, 3) := by decide +kernel
theorem dX7_carryOut_52 : decode cX7_carryOut 52 = .ok (.aload_n 0, 1) := by decide +kernel
theorem dX7_carryOut_53 : decode cX7_carryOut 53 = .ok (.invokevirtual 187, 3) := by decide +kernel
theorem dX7_carryOut_56 : decode cX7_carryOut 56 = .ok (.ifCond .ne 7, 3) := by decide +kernel
theorem dX7_carryOut_59 : decode cX7_carryOut 59 = .ok (.iconst 1, 1) := by decide +kernel
theorem dX7_carryOut_60 : decode cX7_carryOut 60 = .ok (.goto 4, 3) := by decide +kernel
theorem dX7_carryOut_63 : decode cX7_carryOut 63 = .ok (.iconst 0, 1) := by decide +kernel
theorem dX7_carryOut_64 : decode cX7_carryOut 64 = .ok (.istore_n 2, 1) := by decide +kernel
theorem dX7_carryOut_65 : decode cX7_carryOut 65 = .ok (.iload_n 2, 1) := by decide +kernel
theorem dX7_carryOut_66 : decode cX7_carryOut 66 = .ok (.ifCond .eq (-43), 3) := by decide +kernel
theorem dX7_carryOut_69 : decode cX7_carryOut 69 = .ok (.aload_n 0, 1) := by decide +kernel
theorem dX7_carryOut_70 : decode cX7_carryOut 70 = .ok (.invokevirtual 190, 3) := by decide +kernel
theorem dX7_carryOut_73 : decode cX7_carryOut 73 = .ok (.istore_n 3, 1) := by decide +kernel
theorem dX7_carryOut_74 : decode cX7_carryOut 74 = .ok (.iinc 1 1, 3) := by decide +kernel
theorem dX7_carryOut_77 : decode cX7_carryOut 77 = .ok (.goto (-54), 3) := by decide +kernel
theorem dX7_carryOut_80 : decode cX7_carryOut 80 = .ok (.aload_n 0, 1) := by decide +kernel
theorem dX7_carryOut_81 : decode cX7_carryOut 81 = .ok (.iconst 0, 1) := by decide +kernel
theorem dX7_carryOut_82 : decode cX7_carryOut 82 = .ok (.putfield 151, 3) := by decide +kernel
theorem dX7_carryOut_85 : decode cX7_carryOut 85 = .ok (.iload_n 1, 1) := by decide +kernel
theorem dX7_carryOut_86 : decode cX7_carryOut 86 = .ok (.ireturn, 1) := by decide +kernel
theorem dX7_undo_0 : decode cX7_undo 0 = .ok (.aload_n 0, 1) := by decide +kernel
theorem dX7_undo_1 : decode cX7_undo 1 = .ok (.getfield 33, 3) := by decide +kernel
theorem dX7_undo_4 : decode cX7_undo 4 = .ok (.ifCond .ne 6, 3) := by decide +kernel
theorem dX7_undo_7 : decode cX7_undo 7 = .ok (.bipush (-5), 2) := by decide +kernel
theorem dX7_undo_9 : decode cX7_undo 9 = .ok (.ireturn, 1) := by decide +kernel
theorem dX7_undo_10 : decode cX7_undo 10 = .ok (.aload_n 0, 1) := by decide +kernel
theorem dX7_undo_11 : decode cX7_undo 11 = .ok (.dup, 1) := by decide +kernel
theorem dX7_undo_12 : decode cX7_undo 12 = .ok (.getfield 33, 3) := by decide +kernel
theorem dX7_undo_15 : decode cX7_undo 15 = .ok (.iconst 1, 1) := by decide +kernel
theorem dX7_undo_16 : decode cX7_undo 16 = .ok (.isub, 1) := by decide +kernel
theorem dX7_undo_17 : decode cX7_undo 17 = .ok (.putfield 33, 3) := by decide +kernel
theorem dX7_undo_20 : decode cX7_undo 20 = .ok (.iconst 0, 1) := by decide +kernel
theorem dX7_undo_21 : decode cX7_undo 21 = .ok (.istore_n 1, 1) := by decide +kernel
theorem dX7_undo_22 : decode cX7_undo 22 = .ok (.iload_n 1, 1) := by decide +kernel
theorem dX7_undo_23 : decode cX7_undo 23 = .ok (.sipush 182, 3) := by decide +kernel
theorem dX7_undo_26 : decode cX7_undo 26 = .ok (.if_icmp .ge 30, 3) := by decide +kernel
theorem dX7_undo_29 : decode cX7_undo 29 = .ok (.aload_n 0, 1) := by decide +kernel
theorem dX7_undo_30 : decode cX7_undo 30 = .ok (.getfield 7, 3) := by decide +kernel
theorem dX7_undo_33 : decode cX7_undo 33 = .ok (.iload_n 1, 1) := by decide +kernel
theorem dX7_undo_34 : decode cX7_undo 34 = .ok (.aload_n 0, 1) := by decide +kernel
theorem dX7_undo_35 : decode cX7_undo 35 = .ok (.getfield 13, 3) := by decide +kernel
theorem dX7_undo_38 : decode cX7_undo 38 = .ok (.sipush 182, 3) := by decide +kernel
theorem dX7_undo_41 : decode cX7_undo 41 = .ok (.aload_n 0, 1) := by decide +kernel
theorem dX7_undo_42 : decode cX7_undo 42 = .ok (.getfield 33, 3) := by decide +kernel
theorem dX7_undo_45 : decode cX7_undo 45 = .ok (.imul, 1) := by decide +kernel
theorem dX7_undo_46 : decode cX7_undo 46 = .ok (.iload_n 1, 1) := by decide +kernel
theorem dX7_undo_47 : decode cX7_undo 47 = .ok (.iadd, 1) := by decide +kernel
theorem dX7_undo_48 : decode cX7_undo 48 = .ok (.iaload, 1) := by decide +kernel
theorem dX7_undo_49 : decode cX7_undo 49 = .ok (.iastore, 1) := by decide +kernel
theorem dX7_undo_50 : decode cX7_undo 50 = .ok (.iinc 1 1, 3) := by decide +kernel
theorem dX7_undo_53 : decode cX7_undo 53 = .ok (.goto (-31), 3) := by decide +kernel
theorem dX7_undo_56 : decode cX7_undo 56 = .ok (.aload_n 0, 1) := by decide +kernel
theorem dX7_undo_57 : decode cX7_undo 57 = .ok (.getfield 33, 3) := by decide +kernel
theorem dX7_undo_60 : decode cX7_undo 60 = .ok (.ireturn, 1) := by decide +kernel
theorem dX7_save_0 : decode cX7_save 0 = .ok (.iload_n 1, 1) := by decide +kernel
theorem dX7_save_1 : decode cX7_save 1 = .ok (.iconst 0, 1) := by decide +kernel
theorem dX7_save_2 : decode cX7_save 2 = .ok (.iconst 1, 1) := by decide +kernel
theorem dX7_save_3 : decode cX7_save 3 = .ok (.invokestatic 29, 3) := by decide +kernel
theorem dX7_save_6 : decode cX7_save 6 = .ok (.ifCond .ne 6, 3) := by decide +kernel
theorem dX7_save_9 : decode cX7_save 9 = .ok (.bipush (-2), 2) := by decide +kernel
theorem dX7_save_11 : decode cX7_save 11 = .ok (.ireturn, 1) := by decide +kernel
theorem dX7_save_12 : decode cX7_save 12 = .ok (.iconst 0, 1) := by decide +kernel
theorem dX7_save_13 : decode cX7_save 13 = .ok (.istore_n 2, 1) := by decide +kernel
theorem dX7_save_14 : decode cX7_save 14 = .ok (.iload_n 2, 1) := by decide +kernel
theorem dX7_save_15 : decode cX7_save 15 = .ok (.sipush 182, 3) := by decide +kernel
theorem dX7_save_18 : decode cX7_save 18 = .ok (.if_icmp .ge 27, 3) := by decide +kernel
theorem dX7_save_21 : decode cX7_save 21 = .ok (.aload_n 0, 1) := by decide +kernel
theorem dX7_save_22 : decode cX7_save 22 = .ok (.getfield 16, 3) := by decide +kernel
theorem dX7_save_25 : decode cX7_save 25 = .ok (.sipush 182, 3) := by decide +kernel
theorem dX7_save_28 : decode cX7_save 28 = .ok (.iload_n 1, 1) := by decide +kernel
theorem dX7_save_29 : decode cX7_save 29 = .ok (.imul, 1) := by decide +kernel
theorem dX7_save_30 : decode cX7_save 30 = .ok (.iload_n 2, 1) := by decide +kernel
theorem dX7_save_31 : decode cX7_save 31 = .ok (.iadd, 1) := by decide +kernel
theorem dX7_save_32 : decode cX7_save 32 = .ok (.aload_n 0, 1) := by decide +kernel
theorem dX7_save_33 : decode cX7_save 33 = .ok (.getfield 7, 3) := by decide +kernel
theorem dX7_save_36 : decode cX7_save 36 = .ok (.iload_n 2, 1) := by decide +kernel
theorem dX7_save_37 : decode cX7_save 37 = .ok (.iaload, 1) := by decide +kernel
theorem dX7_save_38 : decode cX7_save 38 = .ok (.iastore, 1) := by decide +kernel
theorem dX7_save_39 : decode cX7_save 39 = .ok (.iinc 2 1, 3) := by decide +kernel
theorem dX7_save_42 : decode cX7_save 42 = .ok (.goto (-28), 3) := by decide +kernel
theorem dX7_save_45 : decode cX7_save 45 = .ok (.aload_n 0, 1) := by decide +kernel
theorem dX7_save_46 : decode cX7_save 46 = .ok (.getfield 19, 3) := by decide +kernel
theorem dX7_save_49 : decode cX7_save 49 = .ok (.iload_n 1, 1) := by decide +kernel
theorem dX7_save_50 : decode cX7_save 50 = .ok (.iconst 1, 1) := by decide +kernel
theorem dX7_save_51 : decode cX7_save 51 = .ok (.bastore, 1) := by decide +kernel
theorem dX7_save_52 : decode cX7_save 52 = .ok (.aload_n 0, 1) := by decide +kernel
theorem dX7_save_53 : decode cX7_save 53 = .ok (.getfield 7, 3) := by decide +kernel
theorem dX7_save_56 : decode cX7_save 56 = .ok (.iconst 0, 1) := by decide +kernel
theorem dX7_save_57 : decode cX7_save 57 = .ok (.iaload, 1) := by decide +kernel
theorem dX7_save_58 : decode cX7_save 58 = .ok (.invokestatic 55, 3) := by decide +kernel
theorem dX7_save_61 : decode cX7_save 61 = .ok (.ireturn, 1) := by decide +kernel
theorem dX7_restore_0 : decode cX7_restore 0 = .ok (.iload_n 1, 1) := by decide +kernel
theorem dX7_restore_1 : decode cX7_restore 1 = .ok (.iconst 0, 1) := by decide +kernel
theorem dX7_restore_2 : decode cX7_restore 2 = .ok (.iconst 1, 1) := by decide +kernel
theorem dX7_restore_3 : decode cX7_restore 3 = .ok (.invokestatic 29, 3) := by decide +kernel
theorem dX7_restore_6 : decode cX7_restore 6 = .ok (.ifCond .ne 6, 3) := by decide +kernel
theorem dX7_restore_9 : decode cX7_restore 9 = .ok (.bipush (-2), 2) := by decide +kernel
theorem dX7_restore_11 : decode cX7_restore 11 = .ok (.ireturn, 1) := by decide +kernel
theorem dX7_restore_12 : decode cX7_restore 12 = .ok (.aload_n 0, 1) := by decide +kernel
theorem dX7_restore_13 : decode cX7_restore 13 = .ok (.getfield 19, 3) := by decide +kernel
theorem dX7_restore_16 : decode cX7_restore 16 = .ok (.iload_n 1, 1) := by decide +kernel
theorem dX7_restore_17 : decode cX7_restore 17 = .ok (.baload, 1) := by decide +kernel
theorem dX7_restore_18 : decode cX7_restore 18 = .ok (.ifCond .ne 6, 3) := by decide +kernel
theorem dX7_restore_21 : decode cX7_restore 21 = .ok (.bipush (-5), 2) := by decide +kernel
theorem dX7_restore_23 : decode cX7_restore 23 = .ok (.ireturn, 1) := by decide +kernel
theorem dX7_restore_24 : decode cX7_restore 24 = .ok (.aload_n 0, 1) := by decide +kernel
theorem dX7_restore_25 : decode cX7_restore 25 = .ok (.invokevirtual 64, 3) := by decide +kernel
theorem dX7_restore_28 : decode cX7_restore 28 = .ok (.iconst 0, 1) := by decide +kernel
theorem dX7_restore_29 : decode cX7_restore 29 = .ok (.istore_n 2, 1) := by decide +kernel
theorem dX7_restore_30 : decode cX7_restore 30 = .ok (.iload_n 2, 1) := by decide +kernel
theorem dX7_restore_31 : decode cX7_restore 31 = .ok (.sipush 182, 3) := by decide +kernel
theorem dX7_restore_34 : decode cX7_restore 34 = .ok (.if_icmp .ge 27, 3) := by decide +kernel
theorem dX7_restore_37 : decode cX7_restore 37 = .ok (.aload_n 0, 1) := by decide +kernel
theorem dX7_restore_38 : decode cX7_restore 38 = .ok (.getfield 7, 3) := by decide +kernel
theorem dX7_restore_41 : decode cX7_restore 41 = .ok (.iload_n 2, 1) := by decide +kernel
theorem dX7_restore_42 : decode cX7_restore 42 = .ok (.aload_n 0, 1) := by decide +kernel
theorem dX7_restore_43 : decode cX7_restore 43 = .ok (.getfield 16, 3) := by decide +kernel
theorem dX7_restore_46 : decode cX7_restore 46 = .ok (.sipush 182, 3) := by decide +kernel
theorem dX7_restore_49 : decode cX7_restore 49 = .ok (.iload_n 1, 1) := by decide +kernel
theorem dX7_restore_50 : decode cX7_restore 50 = .ok (.imul, 1) := by decide +kernel
theorem dX7_restore_51 : decode cX7_restore 51 = .ok (.iload_n 2, 1) := by decide +kernel
theorem dX7_restore_52 : decode cX7_restore 52 = .ok (.iadd, 1) := by decide +kernel
theorem dX7_restore_53 : decode cX7_restore 53 = .ok (.iaload, 1) := by decide +kernel
theorem dX7_restore_54 : decode cX7_restore 54 = .ok (.iastore, 1) := by decide +kernel
theorem dX7_restore_55 : decode cX7_restore 55 = .ok (.iinc 2 1, 3) := by decide +kernel
theorem dX7_restore_58 : decode cX7_restore 58 = .ok (.goto (-28), 3) := by decide +kernel
theorem dX7_restore_61 : decode cX7_restore 61 = .ok (.aload_n 0, 1) := by decide +kernel
theorem dX7_restore_62 : decode cX7_restore 62 = .ok (.getfield 7, 3) := by decide +kernel
theorem dX7_restore_65 : decode cX7_restore 65 = .ok (.iconst 0, 1) := by decide +kernel
theorem dX7_restore_66 : decode cX7_restore 66 = .ok (.iaload, 1) := by decide +kernel
theorem dX7_restore_67 : decode cX7_restore 67 = .ok (.invokestatic 55, 3) := by decide +kernel
theorem dX7_restore_70 : decode cX7_restore 70 = .ok (.ireturn, 1) := by decide +kernel
theorem dJ6_bitCount_0f7a4_0 : decode cJ6_bitCount_0f7a4 0 = .ok (.iload_n 0, 1) := by decide +kernel
theorem dJ6_bitCount_0f7a4_1 : decode cJ6_bitCount_0f7a4 1 = .ok (.iload_n 0, 1) := by decide +kernel
theorem dJ6_bitCount_0f7a4_2 : decode cJ6_bitCount_0f7a4 2 = .ok (.iconst 1, 1) := by decide +kernel
theorem dJ6_bitCount_0f7a4_3 : decode cJ6_bitCount_0f7a4 3 = .ok (.iushr, 1) := by decide +kernel
theorem dJ6_bitCount_0f7a4_4 : decode cJ6_bitCount_0f7a4 4 = .ok (.ldc_w 265, 3) := by decide +kernel
theorem dJ6_bitCount_0f7a4_7 : decode cJ6_bitCount_0f7a4 7 = .ok (.iand, 1) := by decide +kernel
theorem dJ6_bitCount_0f7a4_8 : decode cJ6_bitCount_0f7a4 8 = .ok (.isub, 1) := by decide +kernel
theorem dJ6_bitCount_0f7a4_9 : decode cJ6_bitCount_0f7a4 9 = .ok (.istore_n 0, 1) := by decide +kernel
theorem dJ6_bitCount_0f7a4_10 : decode cJ6_bitCount_0f7a4 10 = .ok (.iload_n 0, 1) := by decide +kernel
theorem dJ6_bitCount_0f7a4_11 : decode cJ6_bitCount_0f7a4 11 = .ok (.ldc_w 266, 3) := by decide +kernel
theorem dJ6_bitCount_0f7a4_14 : decode cJ6_bitCount_0f7a4 14 = .ok (.iand, 1) := by decide +kernel
theorem dJ6_bitCount_0f7a4_15 : decode cJ6_bitCount_0f7a4 15 = .ok (.iload_n 0, 1) := by decide +kernel
theorem dJ6_bitCount_0f7a4_16 : decode cJ6_bitCount_0f7a4 16 = .ok (.iconst 2, 1) := by decide +kernel
theorem dJ6_bitCount_0f7a4_17 : decode cJ6_bitCount_0f7a4 17 = .ok (.iushr, 1) := by decide +kernel
theorem dJ6_bitCount_0f7a4_18 : decode cJ6_bitCount_0f7a4 18 = .ok (.ldc_w 266, 3) := by decide +kernel
theorem dJ6_bitCount_0f7a4_21 : decode cJ6_bitCount_0f7a4 21 = .ok (.iand, 1) := by decide +kernel
theorem dJ6_bitCount_0f7a4_22 : decode cJ6_bitCount_0f7a4 22 = .ok (.iadd, 1) := by decide +kernel
theorem dJ6_bitCount_0f7a4_23 : decode cJ6_bitCount_0f7a4 23 = .ok (.istore_n 0, 1) := by decide +kernel
theorem dJ6_bitCount_0f7a4_24 : decode cJ6_bitCount_0f7a4 24 = .ok (.iload_n 0, 1) := by decide +kernel
theorem dJ6_bitCount_0f7a4_25 : decode cJ6_bitCount_0f7a4 25 = .ok (.iload_n 0, 1) := by decide +kernel
theorem dJ6_bitCount_0f7a4_26 : decode cJ6_bitCount_0f7a4 26 = .ok (.iconst 4, 1) := by decide +kernel
theorem dJ6_bitCount_0f7a4_27 : decode cJ6_bitCount_0f7a4 27 = .ok (.iushr, 1) := by decide +kernel
theorem dJ6_bitCount_0f7a4_28 : decode cJ6_bitCount_0f7a4 28 = .ok (.iadd, 1) := by decide +kernel
theorem dJ6_bitCount_0f7a4_29 : decode cJ6_bitCount_0f7a4 29 = .ok (.ldc_w 267, 3) := by decide +kernel
theorem dJ6_bitCount_0f7a4_32 : decode cJ6_bitCount_0f7a4 32 = .ok (.iand, 1) := by decide +kernel
theorem dJ6_bitCount_0f7a4_33 : decode cJ6_bitCount_0f7a4 33 = .ok (.istore_n 0, 1) := by decide +kernel
theorem dJ6_bitCount_0f7a4_34 : decode cJ6_bitCount_0f7a4 34 = .ok (.iload_n 0, 1) := by decide +kernel
theorem dJ6_bitCount_0f7a4_35 : decode cJ6_bitCount_0f7a4 35 = .ok (.iload_n 0, 1) := by decide +kernel
theorem dJ6_bitCount_0f7a4_36 : decode cJ6_bitCount_0f7a4 36 = .ok (.bipush 8, 2) := by decide +kernel
theorem dJ6_bitCount_0f7a4_38 : decode cJ6_bitCount_0f7a4 38 = .ok (.iushr, 1) := by decide +kernel
theorem dJ6_bitCount_0f7a4_39 : decode cJ6_bitCount_0f7a4 39 = .ok (.iadd, 1) := by decide +kernel
theorem dJ6_bitCount_0f7a4_40 : decode cJ6_bitCount_0f7a4 40 = .ok (.istore_n 0, 1) := by decide +kernel
theorem dJ6_bitCount_0f7a4_41 : decode cJ6_bitCount_0f7a4 41 = .ok (.iload_n 0, 1) := by decide +kernel
theorem dJ6_bitCount_0f7a4_42 : decode cJ6_bitCount_0f7a4 42 = .ok (.iload_n 0, 1) := by decide +kernel
theorem dJ6_bitCount_0f7a4_43 : decode cJ6_bitCount_0f7a4 43 = .ok (.bipush 16, 2) := by decide +kernel
theorem dJ6_bitCount_0f7a4_45 : decode cJ6_bitCount_0f7a4 45 = .ok (.iushr, 1) := by decide +kernel
theorem dJ6_bitCount_0f7a4_46 : decode cJ6_bitCount_0f7a4 46 = .ok (.iadd, 1) := by decide +kernel
theorem dJ6_bitCount_0f7a4_47 : decode cJ6_bitCount_0f7a4 47 = .ok (.istore_n 0, 1) := by decide +kernel
theorem dJ6_bitCount_0f7a4_48 : decode cJ6_bitCount_0f7a4 48 = .ok (.iload_n 0, 1) := by decide +kernel
theorem dJ6_bitCount_0f7a4_49 : decode cJ6_bitCount_0f7a4 49 = .ok (.bipush 63, 2) := by decide +kernel
theorem dJ6_bitCount_0f7a4_51 : decode cJ6_bitCount_0f7a4 51 = .ok (.iand, 1) := by decide +kernel
theorem dJ6_bitCount_0f7a4_52 : decode cJ6_bitCount_0f7a4 52 = .ok (.ireturn, 1) := by decide +kernel
theorem dJ9_max_7cf53_0 : decode cJ9_max_7cf53 0 = .ok (.iload_n 0, 1) := by decide +kernel
theorem dJ9_max_7cf53_1 : decode cJ9_max_7cf53 1 = .ok (.iload_n 1, 1) := by decide +kernel
theorem dJ9_max_7cf53_2 : decode cJ9_max_7cf53 2 = .ok (.if_icmp .lt 7, 3) := by decide +kernel
theorem dJ9_max_7cf53_5 : decode cJ9_max_7cf53 5 = .ok (.iload_n 0, 1) := by decide +kernel
theorem dJ9_max_7cf53_6 : decode cJ9_max_7cf53 6 = .ok (.goto 4, 3) := by decide +kernel
theorem dJ9_max_7cf53_9 : decode cJ9_max_7cf53 9 = .ok (.iload_n 1, 1) := by decide +kernel
theorem dJ9_max_7cf53_10 : decode cJ9_max_7cf53 10 = .ok (.ireturn, 1) := by decide +kernel
theorem dJ9_min_7cf53_0 : decode cJ9_min_7cf53 0 = .ok (.iload_n 0, 1) := by decide +kernel
theorem dJ9_min_7cf53_1 : decode cJ9_min_7cf53 1 = .ok (.iload_n 1, 1) := by decide +kernel
theorem dJ9_min_7cf53_2 : decode cJ9_min_7cf53 2 = .ok (.if_icmp .gt 7, 3) := by decide +kernel
theorem dJ9_min_7cf53_5 : decode cJ9_min_7cf53 5 = .ok (.iload_n 0, 1) := by decide +kernel
theorem dJ9_min_7cf53_6 : decode cJ9_min_7cf53 6 = .ok (.goto 4, 3) := by decide +kernel
theorem dJ9_min_7cf53_9 : decode cJ9_min_7cf53 9 = .ok (.iload_n 1, 1) := by decide +kernel
theorem dJ9_min_7cf53_10 : decode cJ9_min_7cf53 10 = .ok (.ireturn, 1) := by decide +kernel
theorem dL_law_0 : decode cL_law 0 = .ok (.new 7, 3) := by decide +kernel
theorem dL_law_3 : decode cL_law 3 = .ok (.dup, 1) := by decide +kernel
theorem dL_law_4 : decode cL_law 4 = .ok (.invokespecial 9, 3) := by decide +kernel
theorem dL_law_7 : decode cL_law 7 = .ok (.astore_n 1, 1) := by decide +kernel
theorem dL_law_8 : decode cL_law 8 = .ok (.new 10, 3) := by decide +kernel
theorem dL_law_11 : decode cL_law 11 = .ok (.dup, 1) := by decide +kernel
theorem dL_law_12 : decode cL_law 12 = .ok (.invokespecial 12, 3) := by decide +kernel
theorem dL_law_15 : decode cL_law 15 = .ok (.astore_n 2, 1) := by decide +kernel
theorem dL_law_16 : decode cL_law 16 = .ok (.iconst 0, 1) := by decide +kernel
theorem dL_law_17 : decode cL_law 17 = .ok (.istore_n 3, 1) := by decide +kernel
theorem dL_law_18 : decode cL_law 18 = .ok (.iload_n 3, 1) := by decide +kernel
theorem dL_law_19 : decode cL_law 19 = .ok (.aload_n 0, 1) := by decide +kernel
theorem dL_law_20 : decode cL_law 20 = .ok (.arraylength, 1) := by decide +kernel
theorem dL_law_21 : decode cL_law 21 = .ok (.iconst 4, 1) := by decide +kernel
theorem dL_law_22 : decode cL_law 22 = .ok (.isub, 1) := by decide +kernel
theorem dL_law_23 : decode cL_law 23 = .ok (.if_icmp .gt 806, 3) := by decide +kernel
theorem dL_law_26 : decode cL_law 26 = .ok (.aload_n 0, 1) := by decide +kernel
theorem dL_law_27 : decode cL_law 27 = .ok (.iload_n 3, 1) := by decide +kernel
theorem dL_law_28 : decode cL_law 28 = .ok (.iaload, 1) := by decide +kernel
theorem dL_law_29 : decode cL_law 29 = .ok (.bipush 31, 2) := by decide +kernel
theorem dL_law_31 : decode cL_law 31 = .ok (.iand, 1) := by decide +kernel
theorem dL_law_32 : decode cL_law 32 = .ok (.tableswitch 791 0 24 #[116, 149, 182, 205, 218, 261, 304, 327, 340, 383, 426, 459, 492, 515, 538, 551, 584, 607, 640, 693, 706, 719, 732, 745, 768], 116) := by decide +kernel
theorem dL_law_148 : decode cL_law 148 = .ok (.aload_n 1, 1) := by decide +kernel
theorem dL_law_149 : decode cL_law 149 = .ok (.aload_n 0, 1) := by decide +kernel
theorem dL_law_150 : decode cL_law 150 = .ok (.iload_n 3, 1) := by decide +kernel
theorem dL_law_151 : decode cL_law 151 = .ok (.iconst 1, 1) := by decide +kernel
theorem dL_law_152 : decode cL_law 152 = .ok (.iadd, 1) := by decide +kernel
theorem dL_law_153 : decode cL_law 153 = .ok (.iaload, 1) := by decide +kernel
theorem dL_law_154 : decode cL_law 154 = .ok (.aload_n 0, 1) := by decide +kernel
theorem dL_law_155 : decode cL_law 155 = .ok (.iload_n 3, 1) := by decide +kernel
theorem dL_law_156 : decode cL_law 156 = .ok (.iconst 2, 1) := by decide +kernel
theorem dL_law_157 : decode cL_law 157 = .ok (.iadd, 1) := by decide +kernel
theorem dL_law_158 : decode cL_law 158 = .ok (.iaload, 1) := by decide +kernel
theorem dL_law_159 : decode cL_law 159 = .ok (.invokevirtual 13, 3) := by decide +kernel
theorem dL_law_162 : decode cL_law 162 = .ok (.aload_n 2, 1) := by decide +kernel
theorem dL_law_163 : decode cL_law 163 = .ok (.aload_n 0, 1) := by decide +kernel
theorem dL_law_164 : decode cL_law 164 = .ok (.iload_n 3, 1) := by decide +kernel
theorem dL_law_165 : decode cL_law 165 = .ok (.iconst 1, 1) := by decide +kernel
theorem dL_law_166 : decode cL_law 166 = .ok (.iadd, 1) := by decide +kernel
theorem dL_law_167 : decode cL_law 167 = .ok (.iaload, 1) := by decide +kernel
theorem dL_law_168 : decode cL_law 168 = .ok (.aload_n 0, 1) := by decide +kernel
theorem dL_law_169 : decode cL_law 169 = .ok (.iload_n 3, 1) := by decide +kernel
theorem dL_law_170 : decode cL_law 170 = .ok (.iconst 2, 1) := by decide +kernel
theorem dL_law_171 : decode cL_law 171 = .ok (.iadd, 1) := by decide +kernel
theorem dL_law_172 : decode cL_law 172 = .ok (.iaload, 1) := by decide +kernel
theorem dL_law_173 : decode cL_law 173 = .ok (.invokevirtual 17, 3) := by decide +kernel
theorem dL_law_176 : decode cL_law 176 = .ok (.if_icmp .eq 647, 3) := by decide +kernel
theorem dL_law_179 : decode cL_law 179 = .ok (.iconst 0, 1) := by decide +kernel
theorem dL_law_180 : decode cL_law 180 = .ok (.ireturn, 1) := by decide +kernel
theorem dL_law_181 : decode cL_law 181 = .ok (.aload_n 1, 1) := by decide +kernel
theorem dL_law_182 : decode cL_law 182 = .ok (.aload_n 0, 1) := by decide +kernel
theorem dL_law_183 : decode cL_law 183 = .ok (.iload_n 3, 1) := by decide +kernel
theorem dL_law_184 : decode cL_law 184 = .ok (.iconst 1, 1) := by decide +kernel
theorem dL_law_185 : decode cL_law 185 = .ok (.iadd, 1) := by decide +kernel
theorem dL_law_186 : decode cL_law 186 = .ok (.iaload, 1) := by decide +kernel
theorem dL_law_187 : decode cL_law 187 = .ok (.aload_n 0, 1) := by decide +kernel
theorem dL_law_188 : decode cL_law 188 = .ok (.iload_n 3, 1) := by decide +kernel
theorem dL_law_189 : decode cL_law 189 = .ok (.iconst 2, 1) := by decide +kernel
theorem dL_law_190 : decode cL_law 190 = .ok (.iadd, 1) := by decide +kernel
theorem dL_law_191 : decode cL_law 191 = .ok (.iaload, 1) := by decide +kernel
theorem dL_law_192 : decode cL_law 192 = .ok (.invokevirtual 18, 3) := by decide +kernel
theorem dL_law_195 : decode cL_law 195 = .ok (.aload_n 2, 1) := by decide +kernel
theorem dL_law_196 : decode cL_law 196 = .ok (.aload_n 0, 1) := by decide +kernel
theorem dL_law_197 : decode cL_law 197 = .ok (.iload_n 3, 1) := by decide +kernel
theorem dL_law_198 : decode cL_law 198 = .ok (.iconst 1, 1) := by decide +kernel
theorem dL_law_199 : decode cL_law 199 = .ok (.iadd, 1) := by decide +kernel
theorem dL_law_200 : decode cL_law 200 = .ok (.iaload, 1) := by decide +kernel
theorem dL_law_201 : decode cL_law 201 = .ok (.aload_n 0, 1) := by decide +kernel
theorem dL_law_202 : decode cL_law 202 = .ok (.iload_n 3, 1) := by decide +kernel
theorem dL_law_203 : decode cL_law 203 = .ok (.iconst 2, 1) := by decide +kernel
theorem dL_law_204 : decode cL_law 204 = .ok (.iadd, 1) := by decide +kernel
theorem dL_law_205 : decode cL_law 205 = .ok (.iaload, 1) := by decide +kernel
theorem dL_law_206 : decode cL_law 206 = .ok (.invokevirtual 21, 3) := by decide +kernel
theorem dL_law_209 : decode cL_law 209 = .ok (.if_icmp .eq 614, 3) := by decide +kernel
theorem dL_law_212 : decode cL_law 212 = .ok (.iconst 0, 1) := by decide +kernel
theorem dL_law_213 : decode cL_law 213 = .ok (.ireturn, 1) := by decide +kernel
theorem dL_law_214 : decode cL_law 214 = .ok (.aload_n 1, 1) := by decide +kernel
theorem dL_law_215 : decode cL_law 215 = .ok (.aload_n 0, 1) := by decide +kernel
theorem dL_law_216 : decode cL_law 216 = .ok (.iload_n 3, 1) := by decide +kernel
theorem dL_law_217 : decode cL_law 217 = .ok (.iconst 1, 1) := by decide +kernel
theorem dL_law_218 : decode cL_law 218 = .ok (.iadd, 1) := by decide +kernel
theorem dL_law_219 : decode cL_law 219 = .ok (.iaload, 1) := by decide +kernel
theorem dL_law_220 : decode cL_law 220 = .ok (.invokevirtual 22, 3) := by decide +kernel
theorem dL_law_223 : decode cL_law 223 = .ok (.aload_n 2, 1) := by decide +kernel
theorem dL_law_224 : decode cL_law 224 = .ok (.aload_n 0, 1) := by decide +kernel
theorem dL_law_225 : decode cL_law 225 = .ok (.iload_n 3, 1) := by decide +kernel
theorem dL_law_226 : decode cL_law 226 = .ok (.iconst 1, 1) := by decide +kernel
theorem dL_law_227 : decode cL_law 227 = .ok (.iadd, 1) := by decide +kernel
theorem dL_law_228 : decode cL_law 228 = .ok (.iaload, 1) := by decide +kernel
theorem dL_law_229 : decode cL_law 229 = .ok (.invokevirtual 26, 3) := by decide +kernel
theorem dL_law_232 : decode cL_law 232 = .ok (.if_icmp .eq 591, 3) := by decide +kernel
theorem dL_law_235 : decode cL_law 235 = .ok (.iconst 0, 1) := by decide +kernel
theorem dL_law_236 : decode cL_law 236 = .ok (.ireturn, 1) := by decide +kernel
theorem dL_law_237 : decode cL_law 237 = .ok (.aload_n 1, 1) := by decide +kernel
theorem dL_law_238 : decode cL_law 238 = .ok (.invokevirtual 27, 3) := by decide +kernel
theorem dL_law_241 : decode cL_law 241 = .ok (.aload_n 2, 1) := by decide +kernel
theorem dL_law_242 : decode cL_law 242 = .ok (.invokevirtual 31, 3) := by decide +kernel
theorem dL_law_245 : decode cL_law 245 = .ok (.if_icmp .eq 578, 3) := by decide +kernel
theorem dL_law_248 : decode cL_law 248 = .ok (.iconst 0, 1) := by decide +kernel
theorem dL_law_249 : decode cL_law 249 = .ok (.ireturn, 1) := by decide +kernel
theorem dL_law_250 : decode cL_law 250 = .ok (.aload_n 1, 1) := by decide +kernel
theorem dL_law_251 : decode cL_law 251 = .ok (.aload_n 0, 1) := by decide +kernel
theorem dL_law_252 : decode cL_law 252 = .ok (.iload_n 3, 1) := by decide +kernel
theorem dL_law_253 : decode cL_law 253 = .ok (.iconst 1, 1) := by decide +kernel
theorem dL_law_254 : decode cL_law 254 = .ok (.iadd, 1) := by decide +kernel
theorem dL_law_255 : decode cL_law 255 = .ok (.iaload, 1) := by decide +kernel
theorem dL_law_256 : decode cL_law 256 = .ok (.aload_n 0, 1) := by decide +kernel
theorem dL_law_257 : decode cL_law 257 = .ok (.iload_n 3, 1) := by decide +kernel
theorem dL_law_258 : decode cL_law 258 = .ok (.iconst 2, 1) := by decide +kernel
theorem dL_law_259 : decode cL_law 259 = .ok (.iadd, 1) := by decide +kernel
theorem dL_law_260 : decode cL_law 260 = .ok (.iaload, 1) := by decide +kernel
theorem dL_law_261 : decode cL_law 261 = .ok (.aload_n 0, 1) := by decide +kernel
theorem dL_law_262 : decode cL_law 262 = .ok (.iload_n 3, 1) := by decide +kernel
theorem dL_law_263 : decode cL_law 263 = .ok (.iconst 3, 1) := by decide +kernel
theorem dL_law_264 : decode cL_law 264 = .ok (.iadd, 1) := by decide +kernel
theorem dL_law_265 : decode cL_law 265 = .ok (.iaload, 1) := by decide +kernel
theorem dL_law_266 : decode cL_law 266 = .ok (.invokevirtual 32, 3) := by decide +kernel
theorem dL_law_269 : decode cL_law 269 = .ok (.aload_n 2, 1) := by decide +kernel
theorem dL_law_270 : decode cL_law 270 = .ok (.aload_n 0, 1) := by decide +kernel
theorem dL_law_271 : decode cL_law 271 = .ok (.iload_n 3, 1) := by decide +kernel
theorem dL_law_272 : decode cL_law 272 = .ok (.iconst 1, 1) := by decide +kernel
theorem dL_law_273 : decode cL_law 273 = .ok (.iadd, 1) := by decide +kernel
theorem dL_law_274 : decode cL_law 274 = .ok (.iaload, 1) := by decide +kernel
theorem dL_law_275 : decode cL_law 275 = .ok (.aload_n 0, 1) := by decide +kernel
theorem dL_law_276 : decode cL_law 276 = .ok (.iload_n 3, 1) := by decide +kernel
theorem dL_law_277 : decode cL_law 277 = .ok (.iconst 2, 1) := by decide +kernel
theorem dL_law_278 : decode cL_law 278 = .ok (.iadd, 1) := by decide +kernel
theorem dL_law_279 : decode cL_law 279 = .ok (.iaload, 1) := by decide +kernel
theorem dL_law_280 : decode cL_law 280 = .ok (.aload_n 0, 1) := by decide +kernel
theorem dL_law_281 : decode cL_law 281 = .ok (.iload_n 3, 1) := by decide +kernel
theorem dL_law_282 : decode cL_law 282 = .ok (.iconst 3, 1) := by decide +kernel
theorem dL_law_283 : decode cL_law 283 = .ok (.iadd, 1) := by decide +kernel
theorem dL_law_284 : decode cL_law 284 = .ok (.iaload, 1) := by decide +kernel
theorem dL_law_285 : decode cL_law 285 = .ok (.invokevirtual 36, 3) := by decide +kernel
theorem dL_law_288 : decode cL_law 288 = .ok (.if_icmp .eq 535, 3) := by decide +kernel
theorem dL_law_291 : decode cL_law 291 = .ok (.iconst 0, 1) := by decide +kernel
theorem dL_law_292 : decode cL_law 292 = .ok (.ireturn, 1) := by decide +kernel
theorem dL_law_293 : decode cL_law 293 = .ok (.aload_n 1, 1) := by decide +kernel
theorem dL_law_294 : decode cL_law 294 = .ok (.aload_n 0, 1) := by decide +kernel
theorem dL_law_295 : decode cL_law 295 = .ok (.iload_n 3, 1) := by decide +kernel
theorem dL_law_296 : decode cL_law 296 = .ok (.iconst 1, 1) := by decide +kernel
theorem dL_law_297 : decode cL_law 297 = .ok (.iadd, 1) := by decide +kernel
theorem dL_law_298 : decode cL_law 298 = .ok (.iaload, 1) := by decide +kernel
theorem dL_law_299 : decode cL_law 299 = .ok (.aload_n 0, 1) := by decide +kernel
theorem dL_law_300 : decode cL_law 300 = .ok (.iload_n 3, 1) := by decide +kernel
theorem dL_law_301 : decode cL_law 301 = .ok (.iconst 2, 1) := by decide +kernel
theorem dL_law_302 : decode cL_law 302 = .ok (.iadd, 1) := by decide +kernel
theorem dL_law_303 : decode cL_law 303 = .ok (.iaload, 1) := by decide +kernel
theorem dL_law_304 : decode cL_law 304 = .ok (.aload_n 0, 1) := by decide +kernel
theorem dL_law_305 : decode cL_law 305 = .ok (.iload_n 3, 1) := by decide +kernel
theorem dL_law_306 : decode cL_law 306 = .ok (.iconst 3, 1) := by decide +kernel
theorem dL_law_307 : decode cL_law 307 = .ok (.iadd, 1) := by decide +kernel
theorem dL_law_308 : decode cL_law 308 = .ok (.iaload, 1) := by decide +kernel
theorem dL_law_309 : decode cL_law 309 = .ok (.invokevirtual 37, 3) := by decide +kernel
theorem dL_law_312 : decode cL_law 312 = .ok (.aload_n 2, 1) := by decide +kernel
theorem dL_law_313 : decode cL_law 313 = .ok (.aload_n 0, 1) := by decide +kernel
theorem dL_law_314 : decode cL_law 314 = .ok (.iload_n 3, 1) := by decide +kernel
theorem dL_law_315 : decode cL_law 315 = .ok (.iconst 1, 1) := by decide +kernel
theorem dL_law_316 : decode cL_law 316 = .ok (.iadd, 1) := by decide +kernel
theorem dL_law_317 : decode cL_law 317 = .ok (.iaload, 1) := by decide +kernel
theorem dL_law_318 : decode cL_law 318 = .ok (.aload_n 0, 1) := by decide +kernel
theorem dL_law_319 : decode cL_law 319 = .ok (.iload_n 3, 1) := by decide +kernel
theorem dL_law_320 : decode cL_law 320 = .ok (.iconst 2, 1) := by decide +kernel
theorem dL_law_321 : decode cL_law 321 = .ok (.iadd, 1) := by decide +kernel
theorem dL_law_322 : decode cL_law 322 = .ok (.iaload, 1) := by decide +kernel
theorem dL_law_323 : decode cL_law 323 = .ok (.aload_n 0, 1) := by decide +kernel
theorem dL_law_324 : decode cL_law 324 = .ok (.iload_n 3, 1) := by decide +kernel
theorem dL_law_325 : decode cL_law 325 = .ok (.iconst 3, 1) := by decide +kernel
theorem dL_law_326 : decode cL_law 326 = .ok (.iadd, 1) := by decide +kernel
theorem dL_law_327 : decode cL_law 327 = .ok (.iaload, 1) := by decide +kernel
theorem dL_law_328 : decode cL_law 328 = .ok (.invokevirtual 40, 3) := by decide +kernel
theorem dL_law_331 : decode cL_law 331 = .ok (.if_icmp .eq 492, 3) := by decide +kernel
theorem dL_law_334 : decode cL_law 334 = .ok (.iconst 0, 1) := by decide +kernel
theorem dL_law_335 : decode cL_law 335 = .ok (.ireturn, 1) := by decide +kernel
theorem dL_law_336 : decode cL_law 336 = .ok (.aload_n 1, 1) := by decide +kernel
theorem dL_law_337 : decode cL_law 337 = .ok (.aload_n 0, 1) := by decide +kernel
theorem dL_law_338 : decode cL_law 338 = .ok (.iload_n 3, 1) := by decide +kernel
theorem dL_law_339 : decode cL_law 339 = .ok (.iconst 1, 1) := by decide +kernel
theorem dL_law_340 : decode cL_law 340 = .ok (.iadd, 1) := by decide +kernel
theorem dL_law_341 : decode cL_law 341 = .ok (.iaload, 1) := by decide +kernel
theorem dL_law_342 : decode cL_law 342 = .ok (.invokevirtual 41, 3) := by decide +kernel
theorem dL_law_345 : decode cL_law 345 = .ok (.aload_n 2, 1) := by decide +kernel
theorem dL_law_346 : decode cL_law 346 = .ok (.aload_n 0, 1) := by decide +kernel
theorem dL_law_347 : decode cL_law 347 = .ok (.iload_n 3, 1) := by decide +kernel
theorem dL_law_348 : decode cL_law 348 = .ok (.iconst 1, 1) := by decide +kernel
theorem dL_law_349 : decode cL_law 349 = .ok (.iadd, 1) := by decide +kernel
theorem dL_law_350 : decode cL_law 350 = .ok (.iaload, 1) := by decide +kernel
theorem dL_law_351 : decode cL_law 351 = .ok (.invokevirtual 44, 3) := by decide +kernel
theorem dL_law_354 : decode cL_law 354 = .ok (.if_icmp .eq 469, 3) := by decide +kernel
theorem dL_law_357 : decode cL_law 357 = .ok (.iconst 0, 1) := by decide +kernel
theorem dL_law_358 : decode cL_law 358 = .ok (.ireturn, 1) := by decide +kernel
theorem dL_law_359 : decode cL_law 359 = .ok (.aload_n 1, 1) := by decide +kernel
theorem dL_law_360 : decode cL_law 360 = .ok (.invokevirtual 45, 3) := by decide +kernel
theorem dL_law_363 : decode cL_law 363 = .ok (.aload_n 2, 1) := by decide +kernel
theorem dL_law_364 : decode cL_law 364 = .ok (.invokevirtual 48, 3) := by decide +kernel
theorem dL_law_367 : decode cL_law 367 = .ok (.if_icmp .eq 456, 3) := by decide +kernel
theorem dL_law_370 : decode cL_law 370 = .ok (.iconst 0, 1) := by decide +kernel
theorem dL_law_371 : decode cL_law 371 = .ok (.ireturn, 1) := by decide +kernel
theorem dL_law_372 : decode cL_law 372 = .ok (.aload_n 1, 1) := by decide +kernel
theorem dL_law_373 : decode cL_law 373 = .ok (.aload_n 0, 1) := by decide +kernel
theorem dL_law_374 : decode cL_law 374 = .ok (.iload_n 3, 1) := by decide +kernel
theorem dL_law_375 : decode cL_law 375 = .ok (.iconst 1, 1) := by decide +kernel
theorem dL_law_376 : decode cL_law 376 = .ok (.iadd, 1) := by decide +kernel
theorem dL_law_377 : decode cL_law 377 = .ok (.iaload, 1) := by decide +kernel
theorem dL_law_378 : decode cL_law 378 = .ok (.aload_n 0, 1) := by decide +kernel
theorem dL_law_379 : decode cL_law 379 = .ok (.iload_n 3, 1) := by decide +kernel
theorem dL_law_380 : decode cL_law 380 = .ok (.iconst 2, 1) := by decide +kernel
theorem dL_law_381 : decode cL_law 381 = .ok (.iadd, 1) := by decide +kernel
theorem dL_law_382 : decode cL_law 382 = .ok (.iaload, 1) := by decide +kernel
theorem dL_law_383 : decode cL_law 383 = .ok (.aload_n 0, 1) := by decide +kernel
theorem dL_law_384 : decode cL_law 384 = .ok (.iload_n 3, 1) := by decide +kernel
theorem dL_law_385 : decode cL_law 385 = .ok (.iconst 3, 1) := by decide +kernel
theorem dL_law_386 : decode cL_law 386 = .ok (.iadd, 1) := by decide +kernel
theorem dL_law_387 : decode cL_law 387 = .ok (.iaload, 1) := by decide +kernel
theorem dL_law_388 : decode cL_law 388 = .ok (.invokevirtual 49, 3) := by decide +kernel
theorem dL_law_391 : decode cL_law 391 = .ok (.aload_n 2, 1) := by decide +kernel
theorem dL_law_392 : decode cL_law 392 = .ok (.aload_n 0, 1) := by decide +kernel
theorem dL_law_393 : decode cL_law 393 = .ok (.iload_n 3, 1) := by decide +kernel
theorem dL_law_394 : decode cL_law 394 = .ok (.iconst 1, 1) := by decide +kernel
theorem dL_law_395 : decode cL_law 395 = .ok (.iadd, 1) := by decide +kernel
theorem dL_law_396 : decode cL_law 396 = .ok (.iaload, 1) := by decide +kernel
theorem dL_law_397 : decode cL_law 397 = .ok (.aload_n 0, 1) := by decide +kernel
theorem dL_law_398 : decode cL_law 398 = .ok (.iload_n 3, 1) := by decide +kernel
theorem dL_law_399 : decode cL_law 399 = .ok (.iconst 2, 1) := by decide +kernel
theorem dL_law_400 : decode cL_law 400 = .ok (.iadd, 1) := by decide +kernel
theorem dL_law_401 : decode cL_law 401 = .ok (.iaload, 1) := by decide +kernel
theorem dL_law_402 : decode cL_law 402 = .ok (.aload_n 0, 1) := by decide +kernel
theorem dL_law_403 : decode cL_law 403 = .ok (.iload_n 3, 1) := by decide +kernel
theorem dL_law_404 : decode cL_law 404 = .ok (.iconst 3, 1) := by decide +kernel
theorem dL_law_405 : decode cL_law 405 = .ok (.iadd, 1) := by decide +kernel
theorem dL_law_406 : decode cL_law 406 = .ok (.iaload, 1) := by decide +kernel
theorem dL_law_407 : decode cL_law 407 = .ok (.invokevirtual 52, 3) := by decide +kernel
theorem dL_law_410 : decode cL_law 410 = .ok (.if_icmp .eq 413, 3) := by decide +kernel
theorem dL_law_413 : decode cL_law 413 = .ok (.iconst 0, 1) := by decide +kernel
theorem dL_law_414 : decode cL_law 414 = .ok (.ireturn, 1) := by decide +kernel
theorem dL_law_415 : decode cL_law 415 = .ok (.aload_n 1, 1) := by decide +kernel
theorem dL_law_416 : decode cL_law 416 = .ok (.aload_n 0, 1) := by decide +kernel
theorem dL_law_417 : decode cL_law 417 = .ok (.iload_n 3, 1) := by decide +kernel
theorem dL_law_418 : decode cL_law 418 = .ok (.iconst 1, 1) := by decide +kernel
theorem dL_law_419 : decode cL_law 419 = .ok (.iadd, 1) := by decide +kernel
theorem dL_law_420 : decode cL_law 420 = .ok (.iaload, 1) := by decide +kernel
theorem dL_law_421 : decode cL_law 421 = .ok (.aload_n 0, 1) := by decide +kernel
theorem dL_law_422 : decode cL_law 422 = .ok (.iload_n 3, 1) := by decide +kernel
theorem dL_law_423 : decode cL_law 423 = .ok (.iconst 2, 1) := by decide +kernel
theorem dL_law_424 : decode cL_law 424 = .ok (.iadd, 1) := by decide +kernel
theorem dL_law_425 : decode cL_law 425 = .ok (.iaload, 1) := by decide +kernel
theorem dL_law_426 : decode cL_law 426 = .ok (.aload_n 0, 1) := by decide +kernel
theorem dL_law_427 : decode cL_law 427 = .ok (.iload_n 3, 1) := by decide +kernel
theorem dL_law_428 : decode cL_law 428 = .ok (.iconst 3, 1) := by decide +kernel
theorem dL_law_429 : decode cL_law 429 = .ok (.iadd, 1) := by decide +kernel
theorem dL_law_430 : decode cL_law 430 = .ok (.iaload, 1) := by decide +kernel
theorem dL_law_431 : decode cL_law 431 = .ok (.invokevirtual 53, 3) := by decide +kernel
theorem dL_law_434 : decode cL_law 434 = .ok (.aload_n 2, 1) := by decide +kernel
theorem dL_law_435 : decode cL_law 435 = .ok (.aload_n 0, 1) := by decide +kernel
theorem dL_law_436 : decode cL_law 436 = .ok (.iload_n 3, 1) := by decide +kernel
theorem dL_law_437 : decode cL_law 437 = .ok (.iconst 1, 1) := by decide +kernel
theorem dL_law_438 : decode cL_law 438 = .ok (.iadd, 1) := by decide +kernel
theorem dL_law_439 : decode cL_law 439 = .ok (.iaload, 1) := by decide +kernel
theorem dL_law_440 : decode cL_law 440 = .ok (.aload_n 0, 1) := by decide +kernel
theorem dL_law_441 : decode cL_law 441 = .ok (.iload_n 3, 1) := by decide +kernel
theorem dL_law_442 : decode cL_law 442 = .ok (.iconst 2, 1) := by decide +kernel
theorem dL_law_443 : decode cL_law 443 = .ok (.iadd, 1) := by decide +kernel
theorem dL_law_444 : decode cL_law 444 = .ok (.iaload, 1) := by decide +kernel
theorem dL_law_445 : decode cL_law 445 = .ok (.aload_n 0, 1) := by decide +kernel
theorem dL_law_446 : decode cL_law 446 = .ok (.iload_n 3, 1) := by decide +kernel
theorem dL_law_447 : decode cL_law 447 = .ok (.iconst 3, 1) := by decide +kernel
theorem dL_law_448 : decode cL_law 448 = .ok (.iadd, 1) := by decide +kernel
theorem dL_law_449 : decode cL_law 449 = .ok (.iaload, 1) := by decide +kernel
theorem dL_law_450 : decode cL_law 450 = .ok (.invokevirtual 56, 3) := by decide +kernel
theorem dL_law_453 : decode cL_law 453 = .ok (.if_icmp .eq 370, 3) := by decide +kernel
theorem dL_law_456 : decode cL_law 456 = .ok (.iconst 0, 1) := by decide +kernel
theorem dL_law_457 : decode cL_law 457 = .ok (.ireturn, 1) := by decide +kernel
theorem dL_law_458 : decode cL_law 458 = .ok (.aload_n 1, 1) := by decide +kernel
theorem dL_law_459 : decode cL_law 459 = .ok (.aload_n 0, 1) := by decide +kernel
theorem dL_law_460 : decode cL_law 460 = .ok (.iload_n 3, 1) := by decide +kernel
theorem dL_law_461 : decode cL_law 461 = .ok (.iconst 1, 1) := by decide +kernel
theorem dL_law_462 : decode cL_law 462 = .ok (.iadd, 1) := by decide +kernel
theorem dL_law_463 : decode cL_law 463 = .ok (.iaload, 1) := by decide +kernel
theorem dL_law_464 : decode cL_law 464 = .ok (.aload_n 0, 1) := by decide +kernel
theorem dL_law_465 : decode cL_law 465 = .ok (.iload_n 3, 1) := by decide +kernel
theorem dL_law_466 : decode cL_law 466 = .ok (.iconst 2, 1) := by decide +kernel
theorem dL_law_467 : decode cL_law 467 = .ok (.iadd, 1) := by decide +kernel
theorem dL_law_468 : decode cL_law 468 = .ok (.iaload, 1) := by decide +kernel
theorem dL_law_469 : decode cL_law 469 = .ok (.invokevirtual 57, 3) := by decide +kernel
theorem dL_law_472 : decode cL_law 472 = .ok (.aload_n 2, 1) := by decide +kernel
theorem dL_law_473 : decode cL_law 473 = .ok (.aload_n 0, 1) := by decide +kernel
theorem dL_law_474 : decode cL_law 474 = .ok (.iload_n 3, 1) := by decide +kernel
theorem dL_law_475 : decode cL_law 475 = .ok (.iconst 1, 1) := by decide +kernel
theorem dL_law_476 : decode cL_law 476 = .ok (.iadd, 1) := by decide +kernel
theorem dL_law_477 : decode cL_law 477 = .ok (.iaload, 1) := by decide +kernel
theorem dL_law_478 : decode cL_law 478 = .ok (.aload_n 0, 1) := by decide +kernel
theorem dL_law_479 : decode cL_law 479 = .ok (.iload_n 3, 1) := by decide +kernel
theorem dL_law_480 : decode cL_law 480 = .ok (.iconst 2, 1) := by decide +kernel
theorem dL_law_481 : decode cL_law 481 = .ok (.iadd, 1) := by decide +kernel
theorem dL_law_482 : decode cL_law 482 = .ok (.iaload, 1) := by decide +kernel
theorem dL_law_483 : decode cL_law 483 = .ok (.invokevirtual 60, 3) := by decide +kernel
theorem dL_law_486 : decode cL_law 486 = .ok (.if_icmp .eq 337, 3) := by decide +kernel
theorem dL_law_489 : decode cL_law 489 = .ok (.iconst 0, 1) := by decide +kernel
theorem dL_law_490 : decode cL_law 490 = .ok (.ireturn, 1) := by decide +kernel
theorem dL_law_491 : decode cL_law 491 = .ok (.aload_n 1, 1) := by decide +kernel
theorem dL_law_492 : decode cL_law 492 = .ok (.aload_n 0, 1) := by decide +kernel
theorem dL_law_493 : decode cL_law 493 = .ok (.iload_n 3, 1) := by decide +kernel
theorem dL_law_494 : decode cL_law 494 = .ok (.iconst 1, 1) := by decide +kernel
theorem dL_law_495 : decode cL_law 495 = .ok (.iadd, 1) := by decide +kernel
theorem dL_law_496 : decode cL_law 496 = .ok (.iaload, 1) := by decide +kernel
theorem dL_law_497 : decode cL_law 497 = .ok (.aload_n 0, 1) := by decide +kernel
theorem dL_law_498 : decode cL_law 498 = .ok (.iload_n 3, 1) := by decide +kernel
theorem dL_law_499 : decode cL_law 499 = .ok (.iconst 2, 1) := by decide +kernel
theorem dL_law_500 : decode cL_law 500 = .ok (.iadd, 1) := by decide +kernel
theorem dL_law_501 : decode cL_law 501 = .ok (.iaload, 1) := by decide +kernel
theorem dL_law_502 : decode cL_law 502 = .ok (.invokevirtual 61, 3) := by decide +kernel
theorem dL_law_505 : decode cL_law 505 = .ok (.aload_n 2, 1) := by decide +kernel
theorem dL_law_506 : decode cL_law 506 = .ok (.aload_n 0, 1) := by decide +kernel
theorem dL_law_507 : decode cL_law 507 = .ok (.iload_n 3, 1) := by decide +kernel
theorem dL_law_508 : decode cL_law 508 = .ok (.iconst 1, 1) := by decide +kernel
theorem dL_law_509 : decode cL_law 509 = .ok (.iadd, 1) := by decide +kernel
theorem dL_law_510 : decode cL_law 510 = .ok (.iaload, 1) := by decide +kernel
theorem dL_law_511 : decode cL_law 511 = .ok (.aload_n 0, 1) := by decide +kernel
theorem dL_law_512 : decode cL_law 512 = .ok (.iload_n 3, 1) := by decide +kernel
theorem dL_law_513 : decode cL_law 513 = .ok (.iconst 2, 1) := by decide +kernel
theorem dL_law_514 : decode cL_law 514 = .ok (.iadd, 1) := by decide +kernel
theorem dL_law_515 : decode cL_law 515 = .ok (.iaload, 1) := by decide +kernel
theorem dL_law_516 : decode cL_law 516 = .ok (.invokevirtual 64, 3) := by decide +kernel
theorem dL_law_519 : decode cL_law 519 = .ok (.if_icmp .eq 304, 3) := by decide +kernel
theorem dL_law_522 : decode cL_law 522 = .ok (.iconst 0, 1) := by decide +kernel
theorem dL_law_523 : decode cL_law 523 = .ok (.ireturn, 1) := by decide +kernel
theorem dL_law_524 : decode cL_law 524 = .ok (.aload_n 1, 1) := by decide +kernel
theorem dL_law_525 : decode cL_law 525 = .ok (.aload_n 0, 1) := by decide +kernel
theorem dL_law_526 : decode cL_law 526 = .ok (.iload_n 3, 1) := by decide +kernel
theorem dL_law_527 : decode cL_law 527 = .ok (.iconst 1, 1) := by decide +kernel
theorem dL_law_528 : decode cL_law 528 = .ok (.iadd, 1) := by decide +kernel
theorem dL_law_529 : decode cL_law 529 = .ok (.iaload, 1) := by decide +kernel
theorem dL_law_530 : decode cL_law 530 = .ok (.invokevirtual 65, 3) := by decide +kernel
theorem dL_law_533 : decode cL_law 533 = .ok (.aload_n 2, 1) := by decide +kernel
theorem dL_law_534 : decode cL_law 534 = .ok (.aload_n 0, 1) := by decide +kernel
theorem dL_law_535 : decode cL_law 535 = .ok (.iload_n 3, 1) := by decide +kernel
theorem dL_law_536 : decode cL_law 536 = .ok (.iconst 1, 1) := by decide +kernel
theorem dL_law_537 : decode cL_law 537 = .ok (.iadd, 1) := by decide +kernel
theorem dL_law_538 : decode cL_law 538 = .ok (.iaload, 1) := by decide +kernel
theorem dL_law_539 : decode cL_law 539 = .ok (.invokevirtual 68, 3) := by decide +kernel
theorem dL_law_542 : decode cL_law 542 = .ok (.if_icmp .eq 281, 3) := by decide +kernel
theorem dL_law_545 : decode cL_law 545 = .ok (.iconst 0, 1) := by decide +kernel
theorem dL_law_546 : decode cL_law 546 = .ok (.ireturn, 1) := by decide +kernel
theorem dL_law_547 : decode cL_law 547 = .ok (.aload_n 1, 1) := by decide +kernel
theorem dL_law_548 : decode cL_law 548 = .ok (.aload_n 0, 1) := by decide +kernel
theorem dL_law_549 : decode cL_law 549 = .ok (.iload_n 3, 1) := by decide +kernel
theorem dL_law_550 : decode cL_law 550 = .ok (.iconst 1, 1) := by decide +kernel
theorem dL_law_551 : decode cL_law 551 = .ok (.iadd, 1) := by decide +kernel
theorem dL_law_552 : decode cL_law 552 = .ok (.iaload, 1) := by decide +kernel
theorem dL_law_553 : decode cL_law 553 = .ok (.invokevirtual 69, 3) := by decide +kernel
theorem dL_law_556 : decode cL_law 556 = .ok (.aload_n 2, 1) := by decide +kernel
theorem dL_law_557 : decode cL_law 557 = .ok (.aload_n 0, 1) := by decide +kernel
theorem dL_law_558 : decode cL_law 558 = .ok (.iload_n 3, 1) := by decide +kernel
theorem dL_law_559 : decode cL_law 559 = .ok (.iconst 1, 1) := by decide +kernel
theorem dL_law_560 : decode cL_law 560 = .ok (.iadd, 1) := by decide +kernel
theorem dL_law_561 : decode cL_law 561 = .ok (.iaload, 1) := by decide +kernel
theorem dL_law_562 : decode cL_law 562 = .ok (.invokevirtual 72, 3) := by decide +kernel
theorem dL_law_565 : decode cL_law 565 = .ok (.if_icmp .eq 258, 3) := by decide +kernel
theorem dL_law_568 : decode cL_law 568 = .ok (.iconst 0, 1) := by decide +kernel
theorem dL_law_569 : decode cL_law 569 = .ok (.ireturn, 1) := by decide +kernel
theorem dL_law_570 : decode cL_law 570 = .ok (.aload_n 1, 1) := by decide +kernel
theorem dL_law_571 : decode cL_law 571 = .ok (.invokevirtual 73, 3) := by decide +kernel
theorem dL_law_574 : decode cL_law 574 = .ok (.aload_n 2, 1) := by decide +kernel
theorem dL_law_575 : decode cL_law 575 = .ok (.invokevirtual 76, 3) := by decide +kernel
theorem dL_law_578 : decode cL_law 578 = .ok (.if_icmp .eq 245, 3) := by decide +kernel
theorem dL_law_581 : decode cL_law 581 = .ok (.iconst 0, 1) := by decide +kernel
theorem dL_law_582 : decode cL_law 582 = .ok (.ireturn, 1) := by decide +kernel
theorem dL_law_583 : decode cL_law 583 = .ok (.aload_n 1, 1) := by decide +kernel
theorem dL_law_584 : decode cL_law 584 = .ok (.aload_n 0, 1) := by decide +kernel
theorem dL_law_585 : decode cL_law 585 = .ok (.iload_n 3, 1) := by decide +kernel
theorem dL_law_586 : decode cL_law 586 = .ok (.iconst 1, 1) := by decide +kernel
theorem dL_law_587 : decode cL_law 587 = .ok (.iadd, 1) := by decide +kernel
theorem dL_law_588 : decode cL_law 588 = .ok (.iaload, 1) := by decide +kernel
theorem dL_law_589 : decode cL_law 589 = .ok (.aload_n 0, 1) := by decide +kernel
theorem dL_law_590 : decode cL_law 590 = .ok (.iload_n 3, 1) := by decide +kernel
theorem dL_law_591 : decode cL_law 591 = .ok (.iconst 2, 1) := by decide +kernel
theorem dL_law_592 : decode cL_law 592 = .ok (.iadd, 1) := by decide +kernel
theorem dL_law_593 : decode cL_law 593 = .ok (.iaload, 1) := by decide +kernel
theorem dL_law_594 : decode cL_law 594 = .ok (.invokevirtual 77, 3) := by decide +kernel
theorem dL_law_597 : decode cL_law 597 = .ok (.aload_n 2, 1) := by decide +kernel
theorem dL_law_598 : decode cL_law 598 = .ok (.aload_n 0, 1) := by decide +kernel
theorem dL_law_599 : decode cL_law 599 = .ok (.iload_n 3, 1) := by decide +kernel
theorem dL_law_600 : decode cL_law 600 = .ok (.iconst 1, 1) := by decide +kernel
theorem dL_law_601 : decode cL_law 601 = .ok (.iadd, 1) := by decide +kernel
theorem dL_law_602 : decode cL_law 602 = .ok (.iaload, 1) := by decide +kernel
theorem dL_law_603 : decode cL_law 603 = .ok (.aload_n 0, 1) := by decide +kernel
theorem dL_law_604 : decode cL_law 604 = .ok (.iload_n 3, 1) := by decide +kernel
theorem dL_law_605 : decode cL_law 605 = .ok (.iconst 2, 1) := by decide +kernel
theorem dL_law_606 : decode cL_law 606 = .ok (.iadd, 1) := by decide +kernel
theorem dL_law_607 : decode cL_law 607 = .ok (.iaload, 1) := by decide +kernel
theorem dL_law_608 : decode cL_law 608 = .ok (.invokevirtual 80, 3) := by decide +kernel
theorem dL_law_611 : decode cL_law 611 = .ok (.if_icmp .eq 212, 3) := by decide +kernel
theorem dL_law_614 : decode cL_law 614 = .ok (.iconst 0, 1) := by decide +kernel
theorem dL_law_615 : decode cL_law 615 = .ok (.ireturn, 1) := by decide +kernel
theorem dL_law_616 : decode cL_law 616 = .ok (.aload_n 1, 1) := by decide +kernel
theorem dL_law_617 : decode cL_law 617 = .ok (.aload_n 0, 1) := by decide +kernel
theorem dL_law_618 : decode cL_law 618 = .ok (.iload_n 3, 1) := by decide +kernel
theorem dL_law_619 : decode cL_law 619 = .ok (.iconst 1, 1) := by decide +kernel
theorem dL_law_620 : decode cL_law 620 = .ok (.iadd, 1) := by decide +kernel
theorem dL_law_621 : decode cL_law 621 = .ok (.iaload, 1) := by decide +kernel
theorem dL_law_622 : decode cL_law 622 = .ok (.invokevirtual 81, 3) := by decide +kernel
theorem dL_law_625 : decode cL_law 625 = .ok (.aload_n 2, 1) := by decide +kernel
theorem dL_law_626 : decode cL_law 626 = .ok (.aload_n 0, 1) := by decide +kernel
theorem dL_law_627 : decode cL_law 627 = .ok (.iload_n 3, 1) := by decide +kernel
theorem dL_law_628 : decode cL_law 628 = .ok (.iconst 1, 1) := by decide +kernel
theorem dL_law_629 : decode cL_law 629 = .ok (.iadd, 1) := by decide +kernel
theorem dL_law_630 : decode cL_law 630 = .ok (.iaload, 1) := by decide +kernel
theorem dL_law_631 : decode cL_law 631 = .ok (.invokevirtual 84, 3) := by decide +kernel
theorem dL_law_634 : decode cL_law 634 = .ok (.if_icmp .eq 189, 3) := by decide +kernel
theorem dL_law_637 : decode cL_law 637 = .ok (.iconst 0, 1) := by decide +kernel
theorem dL_law_638 : decode cL_law 638 = .ok (.ireturn, 1) := by decide +kernel
theorem dL_law_639 : decode cL_law 639 = .ok (.aload_n 1, 1) := by decide +kernel
theorem dL_law_640 : decode cL_law 640 = .ok (.aload_n 0, 1) := by decide +kernel
theorem dL_law_641 : decode cL_law 641 = .ok (.iload_n 3, 1) := by decide +kernel
theorem dL_law_642 : decode cL_law 642 = .ok (.iconst 1, 1) := by decide +kernel
theorem dL_law_643 : decode cL_law 643 = .ok (.iadd, 1) := by decide +kernel
theorem dL_law_644 : decode cL_law 644 = .ok (.iaload, 1) := by decide +kernel
theorem dL_law_645 : decode cL_law 645 = .ok (.aload_n 0, 1) := by decide +kernel
theorem dL_law_646 : decode cL_law 646 = .ok (.iload_n 3, 1) := by decide +kernel
theorem dL_law_647 : decode cL_law 647 = .ok (.iconst 2, 1) := by decide +kernel
theorem dL_law_648 : decode cL_law 648 = .ok (.iadd, 1) := by decide +kernel
theorem dL_law_649 : decode cL_law 649 = .ok (.iaload, 1) := by decide +kernel
theorem dL_law_650 : decode cL_law 650 = .ok (.invokevirtual 85, 3) := by decide +kernel
theorem dL_law_653 : decode cL_law 653 = .ok (.aload_n 2, 1) := by decide +kernel
theorem dL_law_654 : decode cL_law 654 = .ok (.aload_n 0, 1) := by decide +kernel
theorem dL_law_655 : decode cL_law 655 = .ok (.iload_n 3, 1) := by decide +kernel
theorem dL_law_656 : decode cL_law 656 = .ok (.iconst 1, 1) := by decide +kernel
theorem dL_law_657 : decode cL_law 657 = .ok (.iadd, 1) := by decide +kernel
theorem dL_law_658 : decode cL_law 658 = .ok (.iaload, 1) := by decide +kernel
theorem dL_law_659 : decode cL_law 659 = .ok (.aload_n 0, 1) := by decide +kernel
theorem dL_law_660 : decode cL_law 660 = .ok (.iload_n 3, 1) := by decide +kernel
theorem dL_law_661 : decode cL_law 661 = .ok (.iconst 2, 1) := by decide +kernel
theorem dL_law_662 : decode cL_law 662 = .ok (.iadd, 1) := by decide +kernel
theorem dL_law_663 : decode cL_law 663 = .ok (.iaload, 1) := by decide +kernel
theorem dL_law_664 : decode cL_law 664 = .ok (.invokevirtual 88, 3) := by decide +kernel
theorem dL_law_667 : decode cL_law 667 = .ok (.if_icmp .eq 156, 3) := by decide +kernel
theorem dL_law_670 : decode cL_law 670 = .ok (.iconst 0, 1) := by decide +kernel
theorem dL_law_671 : decode cL_law 671 = .ok (.ireturn, 1) := by decide +kernel
theorem dL_law_672 : decode cL_law 672 = .ok (.aload_n 1, 1) := by decide +kernel
theorem dL_law_673 : decode cL_law 673 = .ok (.aload_n 0, 1) := by decide +kernel
theorem dL_law_674 : decode cL_law 674 = .ok (.iload_n 3, 1) := by decide +kernel
theorem dL_law_675 : decode cL_law 675 = .ok (.iconst 1, 1) := by decide +kernel
theorem dL_law_676 : decode cL_law 676 = .ok (.iadd, 1) := by decide +kernel
theorem dL_law_677 : decode cL_law 677 = .ok (.iaload, 1) := by decide +kernel
theorem dL_law_678 : decode cL_law 678 = .ok (.i2l, 1) := by decide +kernel
theorem dL_law_679 : decode cL_law 679 = .ok (.bipush 32, 2) := by decide +kernel
theorem dL_law_681 : decode cL_law 681 = .ok (.lshl, 1) := by decide +kernel
theorem dL_law_682 : decode cL_law 682 = .ok (.aload_n 0, 1) := by decide +kernel
theorem dL_law_683 : decode cL_law 683 = .ok (.iload_n 3, 1) := by decide +kernel
theorem dL_law_684 : decode cL_law 684 = .ok (.iconst 2, 1) := by decide +kernel
theorem dL_law_685 : decode cL_law 685 = .ok (.iadd, 1) := by decide +kernel
theorem dL_law_686 : decode cL_law 686 = .ok (.iaload, 1) := by decide +kernel
theorem dL_law_687 : decode cL_law 687 = .ok (.i2l, 1) := by decide +kernel
theorem dL_law_688 : decode cL_law 688 = .ok (.ldc2_w 89, 3) := by decide +kernel
theorem dL_law_691 : decode cL_law 691 = .ok (.land, 1) := by decide +kernel
theorem dL_law_692 : decode cL_law 692 = .ok (.lor, 1) := by decide +kernel
theorem dL_law_693 : decode cL_law 693 = .ok (.invokevirtual 91, 3) := by decide +kernel
theorem dL_law_696 : decode cL_law 696 = .ok (.aload_n 2, 1) := by decide +kernel
theorem dL_law_697 : decode cL_law 697 = .ok (.aload_n 0, 1) := by decide +kernel
theorem dL_law_698 : decode cL_law 698 = .ok (.iload_n 3, 1) := by decide +kernel
theorem dL_law_699 : decode cL_law 699 = .ok (.iconst 1, 1) := by decide +kernel
theorem dL_law_700 : decode cL_law 700 = .ok (.iadd, 1) := by decide +kernel
theorem dL_law_701 : decode cL_law 701 = .ok (.iaload, 1) := by decide +kernel
theorem dL_law_702 : decode cL_law 702 = .ok (.i2l, 1) := by decide +kernel
theorem dL_law_703 : decode cL_law 703 = .ok (.bipush 32, 2) := by decide +kernel
theorem dL_law_705 : decode cL_law 705 = .ok (.lshl, 1) := by decide +kernel
theorem dL_law_706 : decode cL_law 706 = .ok (.aload_n 0, 1) := by decide +kernel
theorem dL_law_707 : decode cL_law 707 = .ok (.iload_n 3, 1) := by decide +kernel
theorem dL_law_708 : decode cL_law 708 = .ok (.iconst 2, 1) := by decide +kernel
theorem dL_law_709 : decode cL_law 709 = .ok (.iadd, 1) := by decide +kernel
theorem dL_law_710 : decode cL_law 710 = .ok (.iaload, 1) := by decide +kernel
theorem dL_law_711 : decode cL_law 711 = .ok (.i2l, 1) := by decide +kernel
theorem dL_law_712 : decode cL_law 712 = .ok (.ldc2_w 89, 3) := by decide +kernel
theorem dL_law_715 : decode cL_law 715 = .ok (.land, 1) := by decide +kernel
theorem dL_law_716 : decode cL_law 716 = .ok (.lor, 1) := by decide +kernel
theorem dL_law_717 : decode cL_law 717 = .ok (.invokevirtual 95, 3) := by decide +kernel
theorem dL_law_720 : decode cL_law 720 = .ok (.if_icmp .eq 103, 3) := by decide +kernel
theorem dL_law_723 : decode cL_law 723 = .ok (.iconst 0, 1) := by decide +kernel
theorem dL_law_724 : decode cL_law 724 = .ok (.ireturn, 1) := by decide +kernel
theorem dL_law_725 : decode cL_law 725 = .ok (.aload_n 1, 1) := by decide +kernel
theorem dL_law_726 : decode cL_law 726 = .ok (.invokevirtual 96, 3) := by decide +kernel
theorem dL_law_729 : decode cL_law 729 = .ok (.aload_n 2, 1) := by decide +kernel
theorem dL_law_730 : decode cL_law 730 = .ok (.invokevirtual 99, 3) := by decide +kernel
theorem dL_law_733 : decode cL_law 733 = .ok (.if_icmp .eq 90, 3) := by decide +kernel
theorem dL_law_736 : decode cL_law 736 = .ok (.iconst 0, 1) := by decide +kernel
theorem dL_law_737 : decode cL_law 737 = .ok (.ireturn, 1) := by decide +kernel
theorem dL_law_738 : decode cL_law 738 = .ok (.aload_n 1, 1) := by decide +kernel
theorem dL_law_739 : decode cL_law 739 = .ok (.invokevirtual 100, 3) := by decide +kernel
theorem dL_law_742 : decode cL_law 742 = .ok (.aload_n 2, 1) := by decide +kernel
theorem dL_law_743 : decode cL_law 743 = .ok (.invokevirtual 103, 3) := by decide +kernel
theorem dL_law_746 : decode cL_law 746 = .ok (.if_icmp .eq 77, 3) := by decide +kernel
theorem dL_law_749 : decode cL_law 749 = .ok (.iconst 0, 1) := by decide +kernel
theorem dL_law_750 : decode cL_law 750 = .ok (.ireturn, 1) := by decide +kernel
theorem dL_law_751 : decode cL_law 751 = .ok (.aload_n 1, 1) := by decide +kernel
theorem dL_law_752 : decode cL_law 752 = .ok (.invokevirtual 104, 3) := by decide +kernel
theorem dL_law_755 : decode cL_law 755 = .ok (.aload_n 2, 1) := by decide +kernel
theorem dL_law_756 : decode cL_law 756 = .ok (.invokevirtual 107, 3) := by decide +kernel
theorem dL_law_759 : decode cL_law 759 = .ok (.if_icmp .eq 64, 3) := by decide +kernel
theorem dL_law_762 : decode cL_law 762 = .ok (.iconst 0, 1) := by decide +kernel
theorem dL_law_763 : decode cL_law 763 = .ok (.ireturn, 1) := by decide +kernel
theorem dL_law_764 : decode cL_law 764 = .ok (.aload_n 1, 1) := by decide +kernel
theorem dL_law_765 : decode cL_law 765 = .ok (.invokevirtual 108, 3) := by decide +kernel
theorem dL_law_768 : decode cL_law 768 = .ok (.aload_n 2, 1) := by decide +kernel
theorem dL_law_769 : decode cL_law 769 = .ok (.invokevirtual 111, 3) := by decide +kernel
theorem dL_law_772 : decode cL_law 772 = .ok (.if_icmp .eq 51, 3) := by decide +kernel
theorem dL_law_775 : decode cL_law 775 = .ok (.iconst 0, 1) := by decide +kernel
theorem dL_law_776 : decode cL_law 776 = .ok (.ireturn, 1) := by decide +kernel
theorem dL_law_777 : decode cL_law 777 = .ok (.aload_n 1, 1) := by decide +kernel
theorem dL_law_778 : decode cL_law 778 = .ok (.aload_n 0, 1) := by decide +kernel
theorem dL_law_779 : decode cL_law 779 = .ok (.iload_n 3, 1) := by decide +kernel
theorem dL_law_780 : decode cL_law 780 = .ok (.iconst 1, 1) := by decide +kernel
theorem dL_law_781 : decode cL_law 781 = .ok (.iadd, 1) := by decide +kernel
theorem dL_law_782 : decode cL_law 782 = .ok (.iaload, 1) := by decide +kernel
theorem dL_law_783 : decode cL_law 783 = .ok (.invokevirtual 112, 3) := by decide +kernel
theorem dL_law_786 : decode cL_law 786 = .ok (.aload_n 2, 1) := by decide +kernel
theorem dL_law_787 : decode cL_law 787 = .ok (.aload_n 0, 1) := by decide +kernel
theorem dL_law_788 : decode cL_law 788 = .ok (.iload_n 3, 1) := by decide +kernel
theorem dL_law_789 : decode cL_law 789 = .ok (.iconst 1, 1) := by decide +kernel
theorem dL_law_790 : decode cL_law 790 = .ok (.iadd, 1) := by decide +kernel
theorem dL_law_791 : decode cL_law 791 = .ok (.iaload, 1) := by decide +kernel
theorem dL_law_792 : decode cL_law 792 = .ok (.invokevirtual 115, 3) := by decide +kernel
theorem dL_law_795 : decode cL_law 795 = .ok (.if_icmp .eq 28, 3) := by decide +kernel
theorem dL_law_798 : decode cL_law 798 = .ok (.iconst 0, 1) := by decide +kernel
theorem dL_law_799 : decode cL_law 799 = .ok (.ireturn, 1) := by decide +kernel
theorem dL_law_800 : decode cL_law 800 = .ok (.aload_n 1, 1) := by decide +kernel
theorem dL_law_801 : decode cL_law 801 = .ok (.aload_n 0, 1) := by decide +kernel
theorem dL_law_802 : decode cL_law 802 = .ok (.iload_n 3, 1) := by decide +kernel
theorem dL_law_803 : decode cL_law 803 = .ok (.iconst 1, 1) := by decide +kernel
theorem dL_law_804 : decode cL_law 804 = .ok (.iadd, 1) := by decide +kernel
theorem dL_law_805 : decode cL_law 805 = .ok (.iaload, 1) := by decide +kernel
theorem dL_law_806 : decode cL_law 806 = .ok (.invokevirtual 116, 3) := by decide +kernel
theorem dL_law_809 : decode cL_law 809 = .ok (.aload_n 2, 1) := by decide +kernel
theorem dL_law_810 : decode cL_law 810 = .ok (.aload_n 0, 1) := by decide +kernel
theorem dL_law_811 : decode cL_law 811 = .ok (.iload_n 3, 1) := by decide +kernel
theorem dL_law_812 : decode cL_law 812 = .ok (.iconst 1, 1) := by decide +kernel
theorem dL_law_813 : decode cL_law 813 = .ok (.iadd, 1) := by decide +kernel
theorem dL_law_814 : decode cL_law 814 = .ok (.iaload, 1) := by decide +kernel
theorem dL_law_815 : decode cL_law 815 = .ok (.invokevirtual 119, 3) := by decide +kernel
theorem dL_law_818 : decode cL_law 818 = .ok (.if_icmp .eq 5, 3) := by decide +kernel
theorem dL_law_821 : decode cL_law 821 = .ok (.iconst 0, 1) := by decide +kernel
theorem dL_law_822 : decode cL_law 822 = .ok (.ireturn, 1) := by decide +kernel
theorem dL_law_823 : decode cL_law 823 = .ok (.iinc 3 4, 3) := by decide +kernel
theorem dL_law_826 : decode cL_law 826 = .ok (.goto (-808), 3) := by decide +kernel
theorem dL_law_829 : decode cL_law 829 = .ok (.iconst 1, 1) := by decide +kernel
theorem dL_law_830 : decode cL_law 830 = .ok (.ireturn, 1) := by decide +kernel
abbrev vwCl : List vw_C := [(RX0, TX0, 14), (RX2, TX2, 2), (RX3, TX3, 3), (RX4, TX4, 7), (RX5, TX5, 2), (RX6, TX6, 5), (RX7, TX7, 16)]
end
section
/-- the words of the tables that may be handed on -/
def TB : List Cond := lw_tbl.filter goodWord
theorem tb_of {w : Cond} (k : Nat) (h : lw_tbl[k]? = some w) (g : goodWord w = true) : w ∈ TB := List.mem_filter.mpr ⟨List.mem_of_getElem? h, g⟩
theorem tb_good : GoodIn TB TB := fun w h => ⟨h, good_of_word (List.mem_filter.mp h).2⟩
theorem sel_X3_cell : (Cond.selects RX3 yX3_cell yX3_cell : Cond) ∈ TB := tb_of 0 (by decide +kernel) (by decide +kernel)
theorem sel_X6_keptIfDone : (Cond.selects RX6 yX6_keptIfDone yX6_keptIfDone : Cond) ∈ TB := tb_of 1 (by decide +kernel) (by decide +kernel)
theorem sel_X0_settleCheck : (Cond.selects RX0 yX0_settleCheck yX0_settleCheck : Cond) ∈ TB := tb_of 2 (by decide +kernel) (by decide +kernel)
theorem sel_X0_noteDigging : (Cond.selects RX0 yX0_noteDigging yX0_noteDigging : Cond) ∈ TB := tb_of 3 (by decide +kernel) (by decide +kernel)
theorem sel_X6_carryOutOrder : (Cond.selects RX6 yX6_carryOutOrder yX6_carryOutOrder : Cond) ∈ TB := tb_of 4 (by decide +kernel) (by decide +kernel)
theorem sel_X6_slotOf : (Cond.selects RX6 yX6_slotOf yX6_slotOf : Cond) ∈ TB := tb_of 5 (by decide +kernel) (by decide +kernel)
theorem sel_X7_records : (Cond.selects RX7 yX7_records yX7_records : Cond) ∈ TB := tb_of 6 (by decide +kernel) (by decide +kernel)
theorem sel_X7_barRoad : (Cond.selects RX7 yX7_barRoad yX7_barRoad : Cond) ∈ TB := tb_of 7 (by decide +kernel) (by decide +kernel)
theorem sel_X7_hasBegun : (Cond.selects RX7 yX7_hasBegun yX7_hasBegun : Cond) ∈ TB := tb_of 8 (by decide +kernel) (by decide +kernel)
theorem sel_X7_lays : (Cond.selects RX7 yX7_lays yX7_lays : Cond) ∈ TB := tb_of 9 (by decide +kernel) (by decide +kernel)
theorem sel_X7_barTreasure : (Cond.selects RX7 yX7_barTreasure yX7_barTreasure : Cond) ∈ TB := tb_of 10 (by decide +kernel) (by decide +kernel)
theorem sel_X7_follows : (Cond.selects RX7 yX7_follows yX7_follows : Cond) ∈ TB := tb_of 11 (by decide +kernel) (by decide +kernel)
theorem sel_X7_barClaim : (Cond.selects RX7 yX7_barClaim yX7_barClaim : Cond) ∈ TB := tb_of 12 (by decide +kernel) (by decide +kernel)
theorem sel_X7_goes : (Cond.selects RX7 yX7_goes yX7_goes : Cond) ∈ TB := tb_of 13 (by decide +kernel) (by decide +kernel)
theorem sel_X7_says : (Cond.selects RX7 yX7_says yX7_says : Cond) ∈ TB := tb_of 14 (by decide +kernel) (by decide +kernel)
theorem sel_X7_turn : (Cond.selects RX7 yX7_turn yX7_turn : Cond) ∈ TB := tb_of 15 (by decide +kernel) (by decide +kernel)
theorem sel_X7_ends : (Cond.selects RX7 yX7_ends yX7_ends : Cond) ∈ TB := tb_of 16 (by decide +kernel) (by decide +kernel)
theorem sel_X7_claims : (Cond.selects RX7 yX7_claims yX7_claims : Cond) ∈ TB := tb_of 17 (by decide +kernel) (by decide +kernel)
theorem sel_X7_barCheck : (Cond.selects RX7 yX7_barCheck yX7_barCheck : Cond) ∈ TB := tb_of 18 (by decide +kernel) (by decide +kernel)
theorem sel_X7_checks : (Cond.selects RX7 yX7_checks yX7_checks : Cond) ∈ TB := tb_of 19 (by decide +kernel) (by decide +kernel)
theorem sel_X7_pays : (Cond.selects RX7 yX7_pays yX7_pays : Cond) ∈ TB := tb_of 20 (by decide +kernel) (by decide +kernel)
theorem sel_X7_gets : (Cond.selects RX7 yX7_gets yX7_gets : Cond) ∈ TB := tb_of 21 (by decide +kernel) (by decide +kernel)
theorem sel_X7_barDig : (Cond.selects RX7 yX7_barDig yX7_barDig : Cond) ∈ TB := tb_of 22 (by decide +kernel) (by decide +kernel)
theorem sel_X7_digs : (Cond.selects RX7 yX7_digs yX7_digs : Cond) ∈ TB := tb_of 23 (by decide +kernel) (by decide +kernel)
theorem sel_X7_measures : (Cond.selects RX7 yX7_measures yX7_measures : Cond) ∈ TB := tb_of 24 (by decide +kernel) (by decide +kernel)
theorem sel_X7_seen : (Cond.selects RX7 yX7_seen yX7_seen : Cond) ∈ TB := tb_of 25 (by decide +kernel) (by decide +kernel)
theorem sel_X7_claimers : (Cond.selects RX7 yX7_claimers yX7_claimers : Cond) ∈ TB := tb_of 26 (by decide +kernel) (by decide +kernel)
theorem sel_X7_shown : (Cond.selects RX7 yX7_shown yX7_shown : Cond) ∈ TB := tb_of 27 (by decide +kernel) (by decide +kernel)
theorem sel_X7_told : (Cond.selects RX7 yX7_told yX7_told : Cond) ∈ TB := tb_of 28 (by decide +kernel) (by decide +kernel)
theorem sel_X7_neighbours : (Cond.selects RX7 yX7_neighbours yX7_neighbours : Cond) ∈ TB := tb_of 29 (by decide +kernel) (by decide +kernel)
theorem sel_X7_more : (Cond.selects RX7 yX7_more yX7_more : Cond) ∈ TB := tb_of 30 (by decide +kernel) (by decide +kernel)
theorem sel_X7_isWhole : (Cond.selects RX7 yX7_isWhole yX7_isWhole : Cond) ∈ TB := tb_of 31 (by decide +kernel) (by decide +kernel)
theorem sel_X7_order : (Cond.selects RX7 yX7_order yX7_order : Cond) ∈ TB := tb_of 32 (by decide +kernel) (by decide +kernel)
theorem sel_X7_within : (Cond.selects RX7 yX7_within yX7_within : Cond) ∈ TB := tb_of 33 (by decide +kernel) (by decide +kernel)
theorem sel_X7_bar : (Cond.selects RX7 yX7_bar yX7_bar : Cond) ∈ TB := tb_of 34 (by decide +kernel) (by decide +kernel)
theorem sel_X7_does : (Cond.selects RX7 yX7_does yX7_does : Cond) ∈ TB := tb_of 35 (by decide +kernel) (by decide +kernel)
theorem ini_L : (Cond.initialized RL : Cond) ∈ TB := tb_of 36 (by decide +kernel) (by decide +kernel)
theorem ini_X6 : (Cond.initialized RX6 : Cond) ∈ TB := tb_of 37 (by decide +kernel) (by decide +kernel)
theorem ini_X0 : (Cond.initialized RX0 : Cond) ∈ TB := tb_of 38 (by decide +kernel) (by decide +kernel)
theorem ini_X4 : (Cond.initialized RX4 : Cond) ∈ TB := tb_of 39 (by decide +kernel) (by decide +kernel)
theorem ini_X3 : (Cond.initialized RX3 : Cond) ∈ TB := tb_of 40 (by decide +kernel) (by decide +kernel)
theorem ini_X2 : (Cond.initialized RX2 : Cond) ∈ TB := tb_of 41 (by decide +kernel) (by decide +kernel)
theorem ini_X5 : (Cond.initialized RX5 : Cond) ∈ TB := tb_of 42 (by decide +kernel) (by decide +kernel)
theorem ini_X7 : (Cond.initialized RX7 : Cond) ∈ TB := tb_of 43 (by decide +kernel) (by decide +kernel)
theorem ini_J9 : (Cond.initialized "java/lang/Math" : Cond) ∈ TB := tb_of 44 (by decide +kernel) (by decide +kernel)
theorem ini_J10 : (Cond.initialized "java/lang/System" : Cond) ∈ TB := tb_of 45 (by decide +kernel) (by decide +kernel)
theorem ini_X1 : (Cond.initialized RX1 : Cond) ∈ TB := tb_of 46 (by decide +kernel) (by decide +kernel)
theorem ini_J6 : (Cond.initialized RJ6 : Cond) ∈ TB := tb_of 47 (by decide +kernel) (by decide +kernel)
theorem cl_L_7 : (Cond.classLink RL 7 RX6 : Cond) ∈ TB := tb_of 48 (by decide +kernel) (by decide +kernel)
theorem ins_X6 : (Cond.instantiable RX6 5 : Cond) ∈ TB := tb_of 49 (by decide +kernel) (by decide +kernel)
theorem ml_L_9 : (Cond.methodLink RL 9 yX6_init : Cond) ∈ TB := tb_of 50 (by decide +kernel) (by decide +kernel)
theorem im_X6_init : (Cond.instanceMethod yX6_init : Cond) ∈ TB := tb_of 51 (by decide +kernel) (by decide +kernel)
theorem cd_X6_init : (Cond.code yX6_init cX6_init 1 none : Cond) ∈ TB := tb_of 52 (by decide +kernel) (by decide +kernel)
theorem ml_X6_1 : (Cond.methodLink RX6 1 objectInit : Cond) ∈ TB := tb_of 53 (by decide +kernel) (by decide +kernel)
theorem im_obj : (Cond.instanceMethod objectInit : Cond) ∈ TB := tb_of 54 (by decide +kernel) (by decide +kernel)
theorem cd_obj : (Cond.code objectInit ⟨#[0xb1]⟩ 1 none : Cond) ∈ TB := tb_of 55 (by decide +kernel) (by decide +kernel)
theorem cl_X6_7 : (Cond.classLink RX6 7 RX0 : Cond) ∈ TB := tb_of 56 (by decide +kernel) (by decide +kernel)
theorem ins_X0 : (Cond.instantiable RX0 14 : Cond) ∈ TB := tb_of 57 (by decide +kernel) (by decide +kernel)
theorem ml_X6_9 : (Cond.methodLink RX6 9 yX0_init : Cond) ∈ TB := tb_of 58 (by decide +kernel) (by decide +kernel)
theorem im_X0_init : (Cond.instanceMethod yX0_init : Cond) ∈ TB := tb_of 59 (by decide +kernel) (by decide +kernel)
theorem cd_X0_init : (Cond.code yX0_init cX0_init 2 none : Cond) ∈ TB := tb_of 60 (by decide +kernel) (by decide +kernel)
theorem ml_X0_3 : (Cond.methodLink RX0 3 objectInit : Cond) ∈ TB := tb_of 61 (by decide +kernel) (by decide +kernel)
theorem cl_X0_19 : (Cond.classLink RX0 19 RX4 : Cond) ∈ TB := tb_of 62 (by decide +kernel) (by decide +kernel)
theorem ins_X4 : (Cond.instantiable RX4 7 : Cond) ∈ TB := tb_of 63 (by decide +kernel) (by decide +kernel)
theorem im_X4_init : (Cond.instanceMethod yX4_init : Cond) ∈ TB := tb_of 65 (by decide +kernel) (by decide +kernel)
theorem cd_X4_init : (Cond.code yX4_init cX4_init 1 none : Cond) ∈ TB := tb_of 66 (by decide +kernel) (by decide +kernel)
theorem ml_X4_1 : (Cond.methodLink RX4 1 objectInit : Cond) ∈ TB := tb_of 67 (by decide +kernel) (by decide +kernel)
theorem fl_X4_9 : (Cond.fieldLink RX4 9 "LiarMaps$Player" "purse" "I" : Cond) ∈ TB := tb_of 68 (by decide +kernel) (by decide +kernel)
theorem fl_X0_150 : (Cond.fieldLink RX0 150 "LiarMaps$Player" "purse" "I" : Cond) ∈ TB := tb_of 69 (by decide +kernel) (by decide +kernel)
theorem fl_X6_117 : (Cond.fieldLink RX6 117 "LiarMaps$Player" "purse" "I" : Cond) ∈ TB := tb_of 70 (by decide +kernel) (by decide +kernel)
theorem fl_X4_13 : (Cond.fieldLink RX4 13 "LiarMaps$Player" "saysThere" "I" : Cond) ∈ TB := tb_of 71 (by decide +kernel) (by decide +kernel)
theorem fl_X0_121 : (Cond.fieldLink RX0 121 "LiarMaps$Player" "saysThere" "I" : Cond) ∈ TB := tb_of 72 (by decide +kernel) (by decide +kernel)
theorem fl_X4_16 : (Cond.fieldLink RX4 16 "LiarMaps$Player" "saysNot" "I" : Cond) ∈ TB := tb_of 73 (by decide +kernel) (by decide +kernel)
theorem fl_X0_124 : (Cond.fieldLink RX0 124 "LiarMaps$Player" "saysNot" "I" : Cond) ∈ TB := tb_of 74 (by decide +kernel) (by decide +kernel)
theorem fl_X4_19 : (Cond.fieldLink RX4 19 "LiarMaps$Player" "liesFound" "I" : Cond) ∈ TB := tb_of 75 (by decide +kernel) (by decide +kernel)
theorem fl_X0_147 : (Cond.fieldLink RX0 147 "LiarMaps$Player" "liesFound" "I" : Cond) ∈ TB := tb_of 76 (by decide +kernel) (by decide +kernel)
theorem fl_X6_131 : (Cond.fieldLink RX6 131 "LiarMaps$Player" "liesFound" "I" : Cond) ∈ TB := tb_of 77 (by decide +kernel) (by decide +kernel)
theorem fl_X4_22 : (Cond.fieldLink RX4 22 "LiarMaps$Player" "checks" "I" : Cond) ∈ TB := tb_of 78 (by decide +kernel) (by decide +kernel)
theorem fl_X0_131 : (Cond.fieldLink RX0 131 "LiarMaps$Player" "checks" "I" : Cond) ∈ TB := tb_of 79 (by decide +kernel) (by decide +kernel)
theorem fl_X6_134 : (Cond.fieldLink RX6 134 "LiarMaps$Player" "checks" "I" : Cond) ∈ TB := tb_of 80 (by decide +kernel) (by decide +kernel)
theorem fl_X4_25 : (Cond.fieldLink RX4 25 "LiarMaps$Player" "checksThatFound" "I" : Cond) ∈ TB := tb_of 81 (by decide +kernel) (by decide +kernel)
theorem fl_X0_144 : (Cond.fieldLink RX0 144 "LiarMaps$Player" "checksThatFound" "I" : Cond) ∈ TB := tb_of 82 (by decide +kernel) (by decide +kernel)
theorem fl_X6_137 : (Cond.fieldLink RX6 137 "LiarMaps$Player" "checksThatFound" "I" : Cond) ∈ TB := tb_of 83 (by decide +kernel) (by decide +kernel)
theorem fl_X4_28 : (Cond.fieldLink RX4 28 "LiarMaps$Player" "diggings" "I" : Cond) ∈ TB := tb_of 84 (by decide +kernel) (by decide +kernel)
theorem fl_X0_153 : (Cond.fieldLink RX0 153 "LiarMaps$Player" "diggings" "I" : Cond) ∈ TB := tb_of 85 (by decide +kernel) (by decide +kernel)
theorem fl_X6_140 : (Cond.fieldLink RX6 140 "LiarMaps$Player" "diggings" "I" : Cond) ∈ TB := tb_of 86 (by decide +kernel) (by decide +kernel)
theorem ac_int : (Cond.arrayClass .int : Cond) ∈ TB := tb_of 102 (by decide +kernel) (by decide +kernel)
theorem fl_X0_40 : (Cond.fieldLink RX0 40 "LiarMaps$Game" "FIRST_SETTINGS" "[I" : Cond) ∈ TB := tb_of 103 (by decide +kernel) (by decide +kernel)
theorem fl_X0_9 : (Cond.fieldLink RX0 9 "LiarMaps$Game" "settings" "[I" : Cond) ∈ TB := tb_of 105 (by decide +kernel) (by decide +kernel)
theorem fl_X0_47 : (Cond.fieldLink RX0 47 "LiarMaps$Game" "roads" "I" : Cond) ∈ TB := tb_of 106 (by decide +kernel) (by decide +kernel)
theorem fl_X6_125 : (Cond.fieldLink RX6 125 "LiarMaps$Game" "roads" "I" : Cond) ∈ TB := tb_of 107 (by decide +kernel) (by decide +kernel)
theorem fl_X0_50 : (Cond.fieldLink RX0 50 "LiarMaps$Game" "treasure" "I" : Cond) ∈ TB := tb_of 108 (by decide +kernel) (by decide +kernel)
theorem fl_X0_53 : (Cond.fieldLink RX0 53 "LiarMaps$Game" "begun" "Z" : Cond) ∈ TB := tb_of 109 (by decide +kernel) (by decide +kernel)
theorem fl_X6_154 : (Cond.fieldLink RX6 154 "LiarMaps$Game" "begun" "Z" : Cond) ∈ TB := tb_of 110 (by decide +kernel) (by decide +kernel)
theorem fl_X0_57 : (Cond.fieldLink RX0 57 "LiarMaps$Game" "revealed" "I" : Cond) ∈ TB := tb_of 111 (by decide +kernel) (by decide +kernel)
theorem fl_X6_89 : (Cond.fieldLink RX6 89 "LiarMaps$Game" "revealed" "I" : Cond) ∈ TB := tb_of 112 (by decide +kernel) (by decide +kernel)
theorem fl_X0_60 : (Cond.fieldLink RX0 60 "LiarMaps$Game" "known" "I" : Cond) ∈ TB := tb_of 113 (by decide +kernel) (by decide +kernel)
theorem fl_X6_96 : (Cond.fieldLink RX6 96 "LiarMaps$Game" "known" "I" : Cond) ∈ TB := tb_of 114 (by decide +kernel) (by decide +kernel)
theorem fl_X0_63 : (Cond.fieldLink RX0 63 "LiarMaps$Game" "turns" "I" : Cond) ∈ TB := tb_of 115 (by decide +kernel) (by decide +kernel)
theorem fl_X6_167 : (Cond.fieldLink RX6 167 "LiarMaps$Game" "turns" "I" : Cond) ∈ TB := tb_of 116 (by decide +kernel) (by decide +kernel)
theorem fl_X0_15 : (Cond.fieldLink RX0 15 "LiarMaps$Game" "finder" "I" : Cond) ∈ TB := tb_of 117 (by decide +kernel) (by decide +kernel)
theorem fl_X6_176 : (Cond.fieldLink RX6 176 "LiarMaps$Game" "finder" "I" : Cond) ∈ TB := tb_of 118 (by decide +kernel) (by decide +kernel)
theorem fl_X0_22 : (Cond.fieldLink RX0 22 "LiarMaps$Game" "zero" "LLiarMaps$Player;" : Cond) ∈ TB := tb_of 119 (by decide +kernel) (by decide +kernel)
theorem fl_X0_26 : (Cond.fieldLink RX0 26 "LiarMaps$Game" "one" "LLiarMaps$Player;" : Cond) ∈ TB := tb_of 120 (by decide +kernel) (by decide +kernel)
theorem fl_X0_29 : (Cond.fieldLink RX0 29 "LiarMaps$Game" "two" "LLiarMaps$Player;" : Cond) ∈ TB := tb_of 121 (by decide +kernel) (by decide +kernel)
theorem fl_X0_34 : (Cond.fieldLink RX0 34 "LiarMaps$Game" "told" "[I" : Cond) ∈ TB := tb_of 122 (by decide +kernel) (by decide +kernel)
theorem fl_X0_37 : (Cond.fieldLink RX0 37 "LiarMaps$Game" "digs" "[I" : Cond) ∈ TB := tb_of 123 (by decide +kernel) (by decide +kernel)
theorem fl_X0_70 : (Cond.fieldLink RX0 70 "LiarMaps$Game" "digsSoFar" "I" : Cond) ∈ TB := tb_of 124 (by decide +kernel) (by decide +kernel)
theorem cl_X6_16 : (Cond.classLink RX6 16 RX3 : Cond) ∈ TB := tb_of 154 (by decide +kernel) (by decide +kernel)
theorem ins_X3 : (Cond.instantiable RX3 3 : Cond) ∈ TB := tb_of 155 (by decide +kernel) (by decide +kernel)
theorem ml_X6_18 : (Cond.methodLink RX6 18 yX3_init : Cond) ∈ TB := tb_of 156 (by decide +kernel) (by decide +kernel)
theorem im_X3_init : (Cond.instanceMethod yX3_init : Cond) ∈ TB := tb_of 157 (by decide +kernel) (by decide +kernel)
theorem cd_X3_init : (Cond.code yX3_init cX3_init 2 none : Cond) ∈ TB := tb_of 158 (by decide +kernel) (by decide +kernel)
theorem ml_X3_3 : (Cond.methodLink RX3 3 objectInit : Cond) ∈ TB := tb_of 159 (by decide +kernel) (by decide +kernel)
theorem cl_X3_9 : (Cond.classLink RX3 9 RX0 : Cond) ∈ TB := tb_of 160 (by decide +kernel) (by decide +kernel)
theorem ml_X3_15 : (Cond.methodLink RX3 15 yX0_init : Cond) ∈ TB := tb_of 162 (by decide +kernel) (by decide +kernel)
theorem fl_X3_11 : (Cond.fieldLink RX3 11 "LiarMaps$Past" "cells" "[LLiarMaps$Game;" : Cond) ∈ TB := tb_of 163 (by decide +kernel) (by decide +kernel)
theorem fl_X3_16 : (Cond.fieldLink RX3 16 "LiarMaps$Past" "free" "I" : Cond) ∈ TB := tb_of 164 (by decide +kernel) (by decide +kernel)
theorem fl_X3_28 : (Cond.fieldLink RX3 28 "LiarMaps$Past" "kept" "I" : Cond) ∈ TB := tb_of 165 (by decide +kernel) (by decide +kernel)
theorem fl_X6_187 : (Cond.fieldLink RX6 187 "LiarMaps$Past" "kept" "I" : Cond) ∈ TB := tb_of 166 (by decide +kernel) (by decide +kernel)
theorem cl_X6_23 : (Cond.classLink RX6 23 RX2 : Cond) ∈ TB := tb_of 174 (by decide +kernel) (by decide +kernel)
theorem ins_X2 : (Cond.instantiable RX2 2 : Cond) ∈ TB := tb_of 175 (by decide +kernel) (by decide +kernel)
theorem im_X2_init : (Cond.instanceMethod yX2_init : Cond) ∈ TB := tb_of 177 (by decide +kernel) (by decide +kernel)
theorem cd_X2_init : (Cond.code yX2_init cX2_init 1 none : Cond) ∈ TB := tb_of 178 (by decide +kernel) (by decide +kernel)
theorem ml_X2_3 : (Cond.methodLink RX2 3 objectInit : Cond) ∈ TB := tb_of 179 (by decide +kernel) (by decide +kernel)
theorem fl_X2_11 : (Cond.fieldLink RX2 11 "LiarMaps$Pad" "signs" "[C" : Cond) ∈ TB := tb_of 180 (by decide +kernel) (by decide +kernel)
theorem fl_X2_19 : (Cond.fieldLink RX2 19 "LiarMaps$Pad" "length" "I" : Cond) ∈ TB := tb_of 181 (by decide +kernel) (by decide +kernel)
theorem fl_X6_184 : (Cond.fieldLink RX6 184 "LiarMaps$Pad" "length" "I" : Cond) ∈ TB := tb_of 182 (by decide +kernel) (by decide +kernel)
theorem ac_char : (Cond.arrayClass .char : Cond) ∈ TB := tb_of 188 (by decide +kernel) (by decide +kernel)
theorem cl_X6_30 : (Cond.classLink RX6 30 RX5 : Cond) ∈ TB := tb_of 189 (by decide +kernel) (by decide +kernel)
theorem ins_X5 : (Cond.instantiable RX5 2 : Cond) ∈ TB := tb_of 190 (by decide +kernel) (by decide +kernel)
theorem im_X5_init : (Cond.instanceMethod yX5_init : Cond) ∈ TB := tb_of 192 (by decide +kernel) (by decide +kernel)
theorem cd_X5_init : (Cond.code yX5_init cX5_init 1 none : Cond) ∈ TB := tb_of 193 (by decide +kernel) (by decide +kernel)
theorem ml_X5_1 : (Cond.methodLink RX5 1 objectInit : Cond) ∈ TB := tb_of 194 (by decide +kernel) (by decide +kernel)
theorem cl_X5_7 : (Cond.classLink RX5 7 RX0 : Cond) ∈ TB := tb_of 195 (by decide +kernel) (by decide +kernel)
theorem ml_X5_9 : (Cond.methodLink RX5 9 yX0_init : Cond) ∈ TB := tb_of 196 (by decide +kernel) (by decide +kernel)
theorem fl_X5_10 : (Cond.fieldLink RX5 10 "LiarMaps$Slot" "game" "LLiarMaps$Game;" : Cond) ∈ TB := tb_of 197 (by decide +kernel) (by decide +kernel)
theorem fl_X6_235 : (Cond.fieldLink RX6 235 "LiarMaps$Slot" "game" "LLiarMaps$Game;" : Cond) ∈ TB := tb_of 198 (by decide +kernel) (by decide +kernel)
theorem fl_X6_241 : (Cond.fieldLink RX6 241 "LiarMaps$Slot" "filled" "Z" : Cond) ∈ TB := tb_of 199 (by decide +kernel) (by decide +kernel)
theorem fl_X6_10 : (Cond.fieldLink RX6 10 "LiarMaps" "now" "LLiarMaps$Game;" : Cond) ∈ TB := tb_of 205 (by decide +kernel) (by decide +kernel)
theorem fl_X6_19 : (Cond.fieldLink RX6 19 "LiarMaps" "past" "LLiarMaps$Past;" : Cond) ∈ TB := tb_of 206 (by decide +kernel) (by decide +kernel)
theorem fl_X6_26 : (Cond.fieldLink RX6 26 "LiarMaps" "pad" "LLiarMaps$Pad;" : Cond) ∈ TB := tb_of 207 (by decide +kernel) (by decide +kernel)
theorem fl_X6_33 : (Cond.fieldLink RX6 33 "LiarMaps" "slotZero" "LLiarMaps$Slot;" : Cond) ∈ TB := tb_of 208 (by decide +kernel) (by decide +kernel)
theorem fl_X6_37 : (Cond.fieldLink RX6 37 "LiarMaps" "slotOne" "LLiarMaps$Slot;" : Cond) ∈ TB := tb_of 209 (by decide +kernel) (by decide +kernel)
theorem ml_L_13 : (Cond.methodLink RL 13 yX6_set : Cond) ∈ TB := tb_of 221 (by decide +kernel) (by decide +kernel)
theorem im_X6_set : (Cond.instanceMethod yX6_set : Cond) ∈ TB := tb_of 222 (by decide +kernel) (by decide +kernel)
theorem sel_X6_set : (Cond.selects RX6 yX6_set yX6_set : Cond) ∈ TB := tb_of 223 (by decide +kernel) (by decide +kernel)
theorem cd_X6_set : (Cond.code yX6_set cX6_set 3 (some FieldType.int) : Cond) ∈ TB := tb_of 224 (by decide +kernel) (by decide +kernel)
theorem ml_X6_40 : (Cond.methodLink RX6 40 yX3_hold : Cond) ∈ TB := tb_of 225 (by decide +kernel) (by decide +kernel)
theorem im_X3_hold : (Cond.instanceMethod yX3_hold : Cond) ∈ TB := tb_of 226 (by decide +kernel) (by decide +kernel)
theorem sel_X3_hold : (Cond.selects RX3 yX3_hold yX3_hold : Cond) ∈ TB := tb_of 227 (by decide +kernel) (by decide +kernel)
theorem cd_X3_hold : (Cond.code yX3_hold cX3_hold 3 none : Cond) ∈ TB := tb_of 228 (by decide +kernel) (by decide +kernel)
theorem ml_X3_20 : (Cond.methodLink RX3 20 yX3_cell : Cond) ∈ TB := tb_of 229 (by decide +kernel) (by decide +kernel)
theorem im_X3_cell : (Cond.instanceMethod yX3_cell : Cond) ∈ TB := tb_of 231 (by decide +kernel) (by decide +kernel)
theorem cd_X3_cell : (Cond.code yX3_cell cX3_cell 2 (some (FieldType.object "LiarMaps$Game")) : Cond) ∈ TB := tb_of 232 (by decide +kernel) (by decide +kernel)
theorem ml_X3_24 : (Cond.methodLink RX3 24 yX0_become : Cond) ∈ TB := tb_of 233 (by decide +kernel) (by decide +kernel)
theorem im_X0_become : (Cond.instanceMethod yX0_become : Cond) ∈ TB := tb_of 234 (by decide +kernel) (by decide +kernel)
theorem sel_X0_become : (Cond.selects RX0 yX0_become yX0_become : Cond) ∈ TB := tb_of 235 (by decide +kernel) (by decide +kernel)
theorem cd_X0_become : (Cond.code yX0_become cX0_become 2 none : Cond) ∈ TB := tb_of 236 (by decide +kernel) (by decide +kernel)
theorem st_X6_copyRow : (Cond.static yX6_copyRow : Cond) ∈ TB := tb_of 238 (by decide +kernel) (by decide +kernel)
theorem cd_X6_copyRow : (Cond.code yX6_copyRow cX6_copyRow 2 none : Cond) ∈ TB := tb_of 239 (by decide +kernel) (by decide +kernel)
theorem ml_X6_244 : (Cond.methodLink RX6 244 Lib.Math.min.name : Cond) ∈ TB := tb_of 240 (by decide +kernel) (by decide +kernel)
theorem st_J9_min : (Cond.static Lib.Math.min.name : Cond) ∈ TB := tb_of 241 (by decide +kernel) (by decide +kernel)
theorem cd_J9_min : (Cond.code Lib.Math.min.name Lib.Math.min.code 2 (some FieldType.int) : Cond) ∈ TB := tb_of 242 (by decide +kernel) (by decide +kernel)
theorem ml_X6_249 : (Cond.methodLink RX6 249 arraycopyName : Cond) ∈ TB := tb_of 243 (by decide +kernel) (by decide +kernel)
theorem st_arraycopy : (Cond.static arraycopyName : Cond) ∈ TB := tb_of 244 (by decide +kernel) (by decide +kernel)
theorem nat_arraycopy : (Cond.native arraycopyName : Cond) ∈ TB := tb_of 245 (by decide +kernel) (by decide +kernel)
theorem ml_X0_66 : (Cond.methodLink RX0 66 yX4_become : Cond) ∈ TB := tb_of 246 (by decide +kernel) (by decide +kernel)
theorem im_X4_become : (Cond.instanceMethod yX4_become : Cond) ∈ TB := tb_of 247 (by decide +kernel) (by decide +kernel)
theorem sel_X4_become : (Cond.selects RX4 yX4_become yX4_become : Cond) ∈ TB := tb_of 248 (by decide +kernel) (by decide +kernel)
theorem cd_X4_become : (Cond.code yX4_become cX4_become 2 none : Cond) ∈ TB := tb_of 249 (by decide +kernel) (by decide +kernel)
theorem ml_X6_44 : (Cond.methodLink RX6 44 yX0_changeSetting : Cond) ∈ TB := tb_of 250 (by decide +kernel) (by decide +kernel)
theorem im_X0_changeSetting : (Cond.instanceMethod yX0_changeSetting : Cond) ∈ TB := tb_of 251 (by decide +kernel) (by decide +kernel)
theorem sel_X0_changeSetting : (Cond.selects RX0 yX0_changeSetting yX0_changeSetting : Cond) ∈ TB := tb_of 252 (by decide +kernel) (by decide +kernel)
theorem cd_X0_changeSetting : (Cond.code yX0_changeSetting cX0_changeSetting 4 (some FieldType.int) : Cond) ∈ TB := tb_of 253 (by decide +kernel) (by decide +kernel)
theorem fl_X0_73 : (Cond.fieldLink RX0 73 "LiarMaps$Game" "LEAST_SETTINGS" "[I" : Cond) ∈ TB := tb_of 254 (by decide +kernel) (by decide +kernel)
theorem fl_X0_76 : (Cond.fieldLink RX0 76 "LiarMaps$Game" "MOST_SETTINGS" "[I" : Cond) ∈ TB := tb_of 256 (by decide +kernel) (by decide +kernel)
theorem ml_X6_48 : (Cond.methodLink RX6 48 yX6_keptIfDone : Cond) ∈ TB := tb_of 258 (by decide +kernel) (by decide +kernel)
theorem im_X6_keptIfDone : (Cond.instanceMethod yX6_keptIfDone : Cond) ∈ TB := tb_of 260 (by decide +kernel) (by decide +kernel)
theorem cd_X6_keptIfDone : (Cond.code yX6_keptIfDone cX6_keptIfDone 2 (some FieldType.int) : Cond) ∈ TB := tb_of 261 (by decide +kernel) (by decide +kernel)
theorem ml_X6_75 : (Cond.methodLink RX6 75 yX3_keep : Cond) ∈ TB := tb_of 262 (by decide +kernel) (by decide +kernel)
theorem im_X3_keep : (Cond.instanceMethod yX3_keep : Cond) ∈ TB := tb_of 263 (by decide +kernel) (by decide +kernel)
theorem sel_X3_keep : (Cond.selects RX3 yX3_keep yX3_keep : Cond) ∈ TB := tb_of 264 (by decide +kernel) (by decide +kernel)
theorem cd_X3_keep : (Cond.code yX3_keep cX3_keep 1 none : Cond) ∈ TB := tb_of 265 (by decide +kernel) (by decide +kernel)
theorem ml_X3_31 : (Cond.methodLink RX3 31 Lib.Math.min.name : Cond) ∈ TB := tb_of 266 (by decide +kernel) (by decide +kernel)
theorem ml_L_18 : (Cond.methodLink RL 18 yX6_road : Cond) ∈ TB := tb_of 267 (by decide +kernel) (by decide +kernel)
theorem im_X6_road : (Cond.instanceMethod yX6_road : Cond) ∈ TB := tb_of 268 (by decide +kernel) (by decide +kernel)
theorem sel_X6_road : (Cond.selects RX6 yX6_road yX6_road : Cond) ∈ TB := tb_of 269 (by decide +kernel) (by decide +kernel)
theorem cd_X6_road : (Cond.code yX6_road cX6_road 3 (some FieldType.int) : Cond) ∈ TB := tb_of 270 (by decide +kernel) (by decide +kernel)
theorem ml_X6_52 : (Cond.methodLink RX6 52 yX0_layRoad : Cond) ∈ TB := tb_of 271 (by decide +kernel) (by decide +kernel)
theorem im_X0_layRoad : (Cond.instanceMethod yX0_layRoad : Cond) ∈ TB := tb_of 272 (by decide +kernel) (by decide +kernel)
theorem sel_X0_layRoad : (Cond.selects RX0 yX0_layRoad yX0_layRoad : Cond) ∈ TB := tb_of 273 (by decide +kernel) (by decide +kernel)
theorem cd_X0_layRoad : (Cond.code yX0_layRoad cX0_layRoad 4 (some FieldType.int) : Cond) ∈ TB := tb_of 274 (by decide +kernel) (by decide +kernel)
theorem ml_X0_79 : (Cond.methodLink RX0 79 yX1_wrongEnds : Cond) ∈ TB := tb_of 275 (by decide +kernel) (by decide +kernel)
theorem st_X1_wrongEnds : (Cond.static yX1_wrongEnds : Cond) ∈ TB := tb_of 276 (by decide +kernel) (by decide +kernel)
theorem cd_X1_wrongEnds : (Cond.code yX1_wrongEnds cX1_wrongEnds 2 (some FieldType.int) : Cond) ∈ TB := tb_of 277 (by decide +kernel) (by decide +kernel)
theorem ml_X1_11 : (Cond.methodLink RX1 11 yX1_isPlace : Cond) ∈ TB := tb_of 278 (by decide +kernel) (by decide +kernel)
theorem st_X1_isPlace : (Cond.static yX1_isPlace : Cond) ∈ TB := tb_of 279 (by decide +kernel) (by decide +kernel)
theorem cd_X1_isPlace : (Cond.code yX1_isPlace cX1_isPlace 1 (some FieldType.boolean) : Cond) ∈ TB := tb_of 280 (by decide +kernel) (by decide +kernel)
theorem ml_X0_83 : (Cond.methodLink RX0 83 yX1_roadBetween : Cond) ∈ TB := tb_of 281 (by decide +kernel) (by decide +kernel)
theorem st_X1_roadBetween : (Cond.static yX1_roadBetween : Cond) ∈ TB := tb_of 282 (by decide +kernel) (by decide +kernel)
theorem cd_X1_roadBetween : (Cond.code yX1_roadBetween cX1_roadBetween 2 (some FieldType.int) : Cond) ∈ TB := tb_of 283 (by decide +kernel) (by decide +kernel)
theorem ml_X1_24 : (Cond.methodLink RX1 24 yX1_numberOf : Cond) ∈ TB := tb_of 284 (by decide +kernel) (by decide +kernel)
theorem st_X1_numberOf : (Cond.static yX1_numberOf : Cond) ∈ TB := tb_of 285 (by decide +kernel) (by decide +kernel)
theorem cd_X1_numberOf : (Cond.code yX1_numberOf cX1_numberOf 4 (some FieldType.int) : Cond) ∈ TB := tb_of 286 (by decide +kernel) (by decide +kernel)
theorem ml_X1_15 : (Cond.methodLink RX1 15 Lib.Math.min.name : Cond) ∈ TB := tb_of 287 (by decide +kernel) (by decide +kernel)
theorem ml_X1_21 : (Cond.methodLink RX1 21 Lib.Math.max.name : Cond) ∈ TB := tb_of 288 (by decide +kernel) (by decide +kernel)
theorem st_J9_max : (Cond.static Lib.Math.max.name : Cond) ∈ TB := tb_of 289 (by decide +kernel) (by decide +kernel)
theorem cd_J9_max : (Cond.code Lib.Math.max.name Lib.Math.max.code 2 (some FieldType.int) : Cond) ∈ TB := tb_of 290 (by decide +kernel) (by decide +kernel)
theorem ml_X0_86 : (Cond.methodLink RX0 86 yJ6_bitCount_0f7a4 : Cond) ∈ TB := tb_of 291 (by decide +kernel) (by decide +kernel)
theorem st_J6_bitCount_0f7a4 : (Cond.static yJ6_bitCount_0f7a4 : Cond) ∈ TB := tb_of 292 (by decide +kernel) (by decide +kernel)
theorem cd_J6_bitCount_0f7a4 : (Cond.code yJ6_bitCount_0f7a4 cJ6_bitCount_0f7a4 1 (some FieldType.int) : Cond) ∈ TB := tb_of 293 (by decide +kernel) (by decide +kernel)
theorem kc_J6_265 : (Cond.constant RJ6 265 (1431655765) : Cond) ∈ TB := tb_of 294 (by decide +kernel) (by decide +kernel)
theorem kc_J6_266 : (Cond.constant RJ6 266 (858993459) : Cond) ∈ TB := tb_of 295 (by decide +kernel) (by decide +kernel)
theorem kc_J6_267 : (Cond.constant RJ6 267 (252645135) : Cond) ∈ TB := tb_of 296 (by decide +kernel) (by decide +kernel)
theorem ml_L_22 : (Cond.methodLink RL 22 yX6_treasure : Cond) ∈ TB := tb_of 297 (by decide +kernel) (by decide +kernel)
theorem im_X6_treasure : (Cond.instanceMethod yX6_treasure : Cond) ∈ TB := tb_of 298 (by decide +kernel) (by decide +kernel)
theorem sel_X6_treasure : (Cond.selects RX6 yX6_treasure yX6_treasure : Cond) ∈ TB := tb_of 299 (by decide +kernel) (by decide +kernel)
theorem cd_X6_treasure : (Cond.code yX6_treasure cX6_treasure 2 (some FieldType.int) : Cond) ∈ TB := tb_of 300 (by decide +kernel) (by decide +kernel)
theorem ml_X6_55 : (Cond.methodLink RX6 55 yX0_hideTreasure : Cond) ∈ TB := tb_of 301 (by decide +kernel) (by decide +kernel)
theorem im_X0_hideTreasure : (Cond.instanceMethod yX0_hideTreasure : Cond) ∈ TB := tb_of 302 (by decide +kernel) (by decide +kernel)
theorem sel_X0_hideTreasure : (Cond.selects RX0 yX0_hideTreasure yX0_hideTreasure : Cond) ∈ TB := tb_of 303 (by decide +kernel) (by decide +kernel)
theorem cd_X0_hideTreasure : (Cond.code yX0_hideTreasure cX0_hideTreasure 3 (some FieldType.int) : Cond) ∈ TB := tb_of 304 (by decide +kernel) (by decide +kernel)
theorem ml_X0_92 : (Cond.methodLink RX0 92 yX1_isPlace : Cond) ∈ TB := tb_of 305 (by decide +kernel) (by decide +kernel)
theorem ml_L_27 : (Cond.methodLink RL 27 yX6_begin : Cond) ∈ TB := tb_of 306 (by decide +kernel) (by decide +kernel)
theorem im_X6_begin : (Cond.instanceMethod yX6_begin : Cond) ∈ TB := tb_of 307 (by decide +kernel) (by decide +kernel)
theorem sel_X6_begin : (Cond.selects RX6 yX6_begin yX6_begin : Cond) ∈ TB := tb_of 308 (by decide +kernel) (by decide +kernel)
theorem cd_X6_begin : (Cond.code yX6_begin cX6_begin 1 (some FieldType.int) : Cond) ∈ TB := tb_of 309 (by decide +kernel) (by decide +kernel)
theorem ml_X6_58 : (Cond.methodLink RX6 58 yX0_start : Cond) ∈ TB := tb_of 310 (by decide +kernel) (by decide +kernel)
theorem im_X0_start : (Cond.instanceMethod yX0_start : Cond) ∈ TB := tb_of 311 (by decide +kernel) (by decide +kernel)
theorem sel_X0_start : (Cond.selects RX0 yX0_start yX0_start : Cond) ∈ TB := tb_of 312 (by decide +kernel) (by decide +kernel)
theorem cd_X0_start : (Cond.code yX0_start cX0_start 1 (some FieldType.int) : Cond) ∈ TB := tb_of 313 (by decide +kernel) (by decide +kernel)
theorem ml_X0_96 : (Cond.methodLink RX0 96 yX1_withWhatFollows : Cond) ∈ TB := tb_of 314 (by decide +kernel) (by decide +kernel)
theorem st_X1_withWhatFollows : (Cond.static yX1_withWhatFollows : Cond) ∈ TB := tb_of 315 (by decide +kernel) (by decide +kernel)
theorem cd_X1_withWhatFollows : (Cond.code yX1_withWhatFollows cX1_withWhatFollows 6 (some FieldType.int) : Cond) ∈ TB := tb_of 316 (by decide +kernel) (by decide +kernel)
theorem ml_X1_43 : (Cond.methodLink RX1 43 yX1_followingAt : Cond) ∈ TB := tb_of 317 (by decide +kernel) (by decide +kernel)
theorem st_X1_followingAt : (Cond.static yX1_followingAt : Cond) ∈ TB := tb_of 318 (by decide +kernel) (by decide +kernel)
theorem cd_X1_followingAt : (Cond.code yX1_followingAt cX1_followingAt 7 (some FieldType.int) : Cond) ∈ TB := tb_of 319 (by decide +kernel) (by decide +kernel)
theorem ml_X1_33 : (Cond.methodLink RX1 33 yX1_roadsAt : Cond) ∈ TB := tb_of 320 (by decide +kernel) (by decide +kernel)
theorem st_X1_roadsAt : (Cond.static yX1_roadsAt : Cond) ∈ TB := tb_of 321 (by decide +kernel) (by decide +kernel)
theorem cd_X1_roadsAt : (Cond.code yX1_roadsAt cX1_roadsAt 1 (some FieldType.int) : Cond) ∈ TB := tb_of 322 (by decide +kernel) (by decide +kernel)
theorem fl_X1_27 : (Cond.fieldLink RX1 27 "LiarMaps$Land" "ROADS_AT" "[I" : Cond) ∈ TB := tb_of 323 (by decide +kernel) (by decide +kernel)
theorem ml_X1_47 : (Cond.methodLink RX1 47 yJ6_bitCount_0f7a4 : Cond) ∈ TB := tb_of 325 (by decide +kernel) (by decide +kernel)
theorem ml_L_32 : (Cond.methodLink RL 32 yX6_claim : Cond) ∈ TB := tb_of 326 (by decide +kernel) (by decide +kernel)
theorem im_X6_claim : (Cond.instanceMethod yX6_claim : Cond) ∈ TB := tb_of 327 (by decide +kernel) (by decide +kernel)
theorem sel_X6_claim : (Cond.selects RX6 yX6_claim yX6_claim : Cond) ∈ TB := tb_of 328 (by decide +kernel) (by decide +kernel)
theorem cd_X6_claim : (Cond.code yX6_claim cX6_claim 4 (some FieldType.int) : Cond) ∈ TB := tb_of 329 (by decide +kernel) (by decide +kernel)
theorem ml_X6_62 : (Cond.methodLink RX6 62 yX0_makeClaim : Cond) ∈ TB := tb_of 330 (by decide +kernel) (by decide +kernel)
theorem im_X0_makeClaim : (Cond.instanceMethod yX0_makeClaim : Cond) ∈ TB := tb_of 331 (by decide +kernel) (by decide +kernel)
theorem sel_X0_makeClaim : (Cond.selects RX0 yX0_makeClaim yX0_makeClaim : Cond) ∈ TB := tb_of 332 (by decide +kernel) (by decide +kernel)
theorem cd_X0_makeClaim : (Cond.code yX0_makeClaim cX0_makeClaim 6 (some FieldType.int) : Cond) ∈ TB := tb_of 333 (by decide +kernel) (by decide +kernel)
theorem ml_X0_99 : (Cond.methodLink RX0 99 yX0_goesOn : Cond) ∈ TB := tb_of 334 (by decide +kernel) (by decide +kernel)
theorem im_X0_goesOn : (Cond.instanceMethod yX0_goesOn : Cond) ∈ TB := tb_of 335 (by decide +kernel) (by decide +kernel)
theorem sel_X0_goesOn : (Cond.selects RX0 yX0_goesOn yX0_goesOn : Cond) ∈ TB := tb_of 336 (by decide +kernel) (by decide +kernel)
theorem cd_X0_goesOn : (Cond.code yX0_goesOn cX0_goesOn 1 (some FieldType.boolean) : Cond) ∈ TB := tb_of 337 (by decide +kernel) (by decide +kernel)
theorem ml_X0_168 : (Cond.methodLink RX0 168 yX0_stage : Cond) ∈ TB := tb_of 338 (by decide +kernel) (by decide +kernel)
theorem im_X0_stage : (Cond.instanceMethod yX0_stage : Cond) ∈ TB := tb_of 339 (by decide +kernel) (by decide +kernel)
theorem sel_X0_stage : (Cond.selects RX0 yX0_stage yX0_stage : Cond) ∈ TB := tb_of 340 (by decide +kernel) (by decide +kernel)
theorem cd_X0_stage : (Cond.code yX0_stage cX0_stage 1 (some FieldType.int) : Cond) ∈ TB := tb_of 341 (by decide +kernel) (by decide +kernel)
theorem ml_X0_103 : (Cond.methodLink RX0 103 yX0_next : Cond) ∈ TB := tb_of 342 (by decide +kernel) (by decide +kernel)
theorem im_X0_next : (Cond.instanceMethod yX0_next : Cond) ∈ TB := tb_of 343 (by decide +kernel) (by decide +kernel)
theorem sel_X0_next : (Cond.selects RX0 yX0_next yX0_next : Cond) ∈ TB := tb_of 344 (by decide +kernel) (by decide +kernel)
theorem cd_X0_next : (Cond.code yX0_next cX0_next 1 (some FieldType.int) : Cond) ∈ TB := tb_of 345 (by decide +kernel) (by decide +kernel)
theorem ml_X0_107 : (Cond.methodLink RX0 107 yX0_seat : Cond) ∈ TB := tb_of 346 (by decide +kernel) (by decide +kernel)
theorem im_X0_seat : (Cond.instanceMethod yX0_seat : Cond) ∈ TB := tb_of 347 (by decide +kernel) (by decide +kernel)
theorem sel_X0_seat : (Cond.selects RX0 yX0_seat yX0_seat : Cond) ∈ TB := tb_of 348 (by decide +kernel) (by decide +kernel)
theorem cd_X0_seat : (Cond.code yX0_seat cX0_seat 2 (some (FieldType.object "LiarMaps$Player")) : Cond) ∈ TB := tb_of 349 (by decide +kernel) (by decide +kernel)
theorem ml_X0_111 : (Cond.methodLink RX0 111 yX4_say : Cond) ∈ TB := tb_of 350 (by decide +kernel) (by decide +kernel)
theorem im_X4_say : (Cond.instanceMethod yX4_say : Cond) ∈ TB := tb_of 351 (by decide +kernel) (by decide +kernel)
theorem sel_X4_say : (Cond.selects RX4 yX4_say yX4_say : Cond) ∈ TB := tb_of 352 (by decide +kernel) (by decide +kernel)
theorem cd_X4_say : (Cond.code yX4_say cX4_say 3 none : Cond) ∈ TB := tb_of 353 (by decide +kernel) (by decide +kernel)
theorem ml_X0_115 : (Cond.methodLink RX0 115 yX4_claims : Cond) ∈ TB := tb_of 354 (by decide +kernel) (by decide +kernel)
theorem im_X4_claims : (Cond.instanceMethod yX4_claims : Cond) ∈ TB := tb_of 355 (by decide +kernel) (by decide +kernel)
theorem sel_X4_claims : (Cond.selects RX4 yX4_claims yX4_claims : Cond) ∈ TB := tb_of 356 (by decide +kernel) (by decide +kernel)
theorem cd_X4_claims : (Cond.code yX4_claims cX4_claims 1 (some FieldType.int) : Cond) ∈ TB := tb_of 357 (by decide +kernel) (by decide +kernel)
theorem ml_X4_31 : (Cond.methodLink RX4 31 yJ6_bitCount_0f7a4 : Cond) ∈ TB := tb_of 358 (by decide +kernel) (by decide +kernel)
theorem ml_L_37 : (Cond.methodLink RL 37 yX6_check : Cond) ∈ TB := tb_of 359 (by decide +kernel) (by decide +kernel)
theorem im_X6_check : (Cond.instanceMethod yX6_check : Cond) ∈ TB := tb_of 360 (by decide +kernel) (by decide +kernel)
theorem sel_X6_check : (Cond.selects RX6 yX6_check yX6_check : Cond) ∈ TB := tb_of 361 (by decide +kernel) (by decide +kernel)
theorem cd_X6_check : (Cond.code yX6_check cX6_check 4 (some FieldType.int) : Cond) ∈ TB := tb_of 362 (by decide +kernel) (by decide +kernel)
theorem ml_X6_66 : (Cond.methodLink RX6 66 yX0_checkClaim : Cond) ∈ TB := tb_of 363 (by decide +kernel) (by decide +kernel)
theorem im_X0_checkClaim : (Cond.instanceMethod yX0_checkClaim : Cond) ∈ TB := tb_of 364 (by decide +kernel) (by decide +kernel)
theorem sel_X0_checkClaim : (Cond.selects RX0 yX0_checkClaim yX0_checkClaim : Cond) ∈ TB := tb_of 365 (by decide +kernel) (by decide +kernel)
theorem cd_X0_checkClaim : (Cond.code yX0_checkClaim cX0_checkClaim 8 (some FieldType.int) : Cond) ∈ TB := tb_of 366 (by decide +kernel) (by decide +kernel)
theorem st_X6_isPlayer : (Cond.static yX6_isPlayer : Cond) ∈ TB := tb_of 368 (by decide +kernel) (by decide +kernel)
theorem cd_X6_isPlayer : (Cond.code yX6_isPlayer cX6_isPlayer 1 (some FieldType.boolean) : Cond) ∈ TB := tb_of 369 (by decide +kernel) (by decide +kernel)
theorem ml_X0_127 : (Cond.methodLink RX0 127 yX0_settleCheck : Cond) ∈ TB := tb_of 370 (by decide +kernel) (by decide +kernel)
theorem im_X0_settleCheck : (Cond.instanceMethod yX0_settleCheck : Cond) ∈ TB := tb_of 372 (by decide +kernel) (by decide +kernel)
theorem cd_X0_settleCheck : (Cond.code yX0_settleCheck cX0_settleCheck 5 (some FieldType.int) : Cond) ∈ TB := tb_of 373 (by decide +kernel) (by decide +kernel)
theorem ml_X0_134 : (Cond.methodLink RX0 134 yX0_setting : Cond) ∈ TB := tb_of 374 (by decide +kernel) (by decide +kernel)
theorem im_X0_setting : (Cond.instanceMethod yX0_setting : Cond) ∈ TB := tb_of 375 (by decide +kernel) (by decide +kernel)
theorem sel_X0_setting : (Cond.selects RX0 yX0_setting yX0_setting : Cond) ∈ TB := tb_of 376 (by decide +kernel) (by decide +kernel)
theorem cd_X0_setting : (Cond.code yX0_setting cX0_setting 2 (some FieldType.int) : Cond) ∈ TB := tb_of 377 (by decide +kernel) (by decide +kernel)
theorem ml_X0_137 : (Cond.methodLink RX0 137 yX4_pay : Cond) ∈ TB := tb_of 378 (by decide +kernel) (by decide +kernel)
theorem im_X4_pay : (Cond.instanceMethod yX4_pay : Cond) ∈ TB := tb_of 379 (by decide +kernel) (by decide +kernel)
theorem sel_X4_pay : (Cond.selects RX4 yX4_pay yX4_pay : Cond) ∈ TB := tb_of 380 (by decide +kernel) (by decide +kernel)
theorem cd_X4_pay : (Cond.code yX4_pay cX4_pay 4 none : Cond) ∈ TB := tb_of 381 (by decide +kernel) (by decide +kernel)
theorem ml_X4_40 : (Cond.methodLink RX4 40 Lib.Math.min.name : Cond) ∈ TB := tb_of 382 (by decide +kernel) (by decide +kernel)
theorem ml_X4_46 : (Cond.methodLink RX4 46 yX4_take : Cond) ∈ TB := tb_of 383 (by decide +kernel) (by decide +kernel)
theorem im_X4_take : (Cond.instanceMethod yX4_take : Cond) ∈ TB := tb_of 384 (by decide +kernel) (by decide +kernel)
theorem sel_X4_take : (Cond.selects RX4 yX4_take yX4_take : Cond) ∈ TB := tb_of 385 (by decide +kernel) (by decide +kernel)
theorem cd_X4_take : (Cond.code yX4_take cX4_take 2 none : Cond) ∈ TB := tb_of 386 (by decide +kernel) (by decide +kernel)
theorem ml_X0_141 : (Cond.methodLink RX0 141 yX4_lies : Cond) ∈ TB := tb_of 387 (by decide +kernel) (by decide +kernel)
theorem im_X4_lies : (Cond.instanceMethod yX4_lies : Cond) ∈ TB := tb_of 388 (by decide +kernel) (by decide +kernel)
theorem sel_X4_lies : (Cond.selects RX4 yX4_lies yX4_lies : Cond) ∈ TB := tb_of 389 (by decide +kernel) (by decide +kernel)
theorem cd_X4_lies : (Cond.code yX4_lies cX4_lies 2 (some FieldType.int) : Cond) ∈ TB := tb_of 390 (by decide +kernel) (by decide +kernel)
theorem ml_L_41 : (Cond.methodLink RL 41 yX6_dig : Cond) ∈ TB := tb_of 391 (by decide +kernel) (by decide +kernel)
theorem im_X6_dig : (Cond.instanceMethod yX6_dig : Cond) ∈ TB := tb_of 392 (by decide +kernel) (by decide +kernel)
theorem sel_X6_dig : (Cond.selects RX6 yX6_dig yX6_dig : Cond) ∈ TB := tb_of 393 (by decide +kernel) (by decide +kernel)
theorem cd_X6_dig : (Cond.code yX6_dig cX6_dig 2 (some FieldType.int) : Cond) ∈ TB := tb_of 394 (by decide +kernel) (by decide +kernel)
theorem ml_X6_69 : (Cond.methodLink RX6 69 yX0_digAt : Cond) ∈ TB := tb_of 395 (by decide +kernel) (by decide +kernel)
theorem im_X0_digAt : (Cond.instanceMethod yX0_digAt : Cond) ∈ TB := tb_of 396 (by decide +kernel) (by decide +kernel)
theorem sel_X0_digAt : (Cond.selects RX0 yX0_digAt yX0_digAt : Cond) ∈ TB := tb_of 397 (by decide +kernel) (by decide +kernel)
theorem cd_X0_digAt : (Cond.code yX0_digAt cX0_digAt 4 (some FieldType.int) : Cond) ∈ TB := tb_of 398 (by decide +kernel) (by decide +kernel)
theorem ml_X0_156 : (Cond.methodLink RX0 156 yX1_distance : Cond) ∈ TB := tb_of 399 (by decide +kernel) (by decide +kernel)
theorem st_X1_distance : (Cond.static yX1_distance : Cond) ∈ TB := tb_of 400 (by decide +kernel) (by decide +kernel)
theorem cd_X1_distance : (Cond.code yX1_distance cX1_distance 6 (some FieldType.int) : Cond) ∈ TB := tb_of 401 (by decide +kernel) (by decide +kernel)
theorem ml_X1_37 : (Cond.methodLink RX1 37 yX1_besideAny : Cond) ∈ TB := tb_of 402 (by decide +kernel) (by decide +kernel)
theorem st_X1_besideAny : (Cond.static yX1_besideAny : Cond) ∈ TB := tb_of 403 (by decide +kernel) (by decide +kernel)
theorem cd_X1_besideAny : (Cond.code yX1_besideAny cX1_besideAny 4 (some FieldType.int) : Cond) ∈ TB := tb_of 404 (by decide +kernel) (by decide +kernel)
theorem ml_X1_40 : (Cond.methodLink RX1 40 yX1_placesBeside : Cond) ∈ TB := tb_of 405 (by decide +kernel) (by decide +kernel)
theorem st_X1_placesBeside : (Cond.static yX1_placesBeside : Cond) ∈ TB := tb_of 406 (by decide +kernel) (by decide +kernel)
theorem cd_X1_placesBeside : (Cond.code yX1_placesBeside cX1_placesBeside 5 (some FieldType.int) : Cond) ∈ TB := tb_of 407 (by decide +kernel) (by decide +kernel)
theorem ml_X0_160 : (Cond.methodLink RX0 160 yX0_noteDigging : Cond) ∈ TB := tb_of 408 (by decide +kernel) (by decide +kernel)
theorem im_X0_noteDigging : (Cond.instanceMethod yX0_noteDigging : Cond) ∈ TB := tb_of 410 (by decide +kernel) (by decide +kernel)
theorem cd_X0_noteDigging : (Cond.code yX0_noteDigging cX0_noteDigging 3 none : Cond) ∈ TB := tb_of 411 (by decide +kernel) (by decide +kernel)
theorem ml_X0_164 : (Cond.methodLink RX0 164 yX4_take : Cond) ∈ TB := tb_of 412 (by decide +kernel) (by decide +kernel)
theorem ml_L_45 : (Cond.methodLink RL 45 yX6_pass : Cond) ∈ TB := tb_of 413 (by decide +kernel) (by decide +kernel)
theorem im_X6_pass : (Cond.instanceMethod yX6_pass : Cond) ∈ TB := tb_of 414 (by decide +kernel) (by decide +kernel)
theorem sel_X6_pass : (Cond.selects RX6 yX6_pass yX6_pass : Cond) ∈ TB := tb_of 415 (by decide +kernel) (by decide +kernel)
theorem cd_X6_pass : (Cond.code yX6_pass cX6_pass 1 (some FieldType.int) : Cond) ∈ TB := tb_of 416 (by decide +kernel) (by decide +kernel)
theorem ml_X6_72 : (Cond.methodLink RX6 72 yX0_passTurn : Cond) ∈ TB := tb_of 417 (by decide +kernel) (by decide +kernel)
theorem im_X0_passTurn : (Cond.instanceMethod yX0_passTurn : Cond) ∈ TB := tb_of 418 (by decide +kernel) (by decide +kernel)
theorem sel_X0_passTurn : (Cond.selects RX0 yX0_passTurn yX0_passTurn : Cond) ∈ TB := tb_of 419 (by decide +kernel) (by decide +kernel)
theorem cd_X0_passTurn : (Cond.code yX0_passTurn cX0_passTurn 1 (some FieldType.int) : Cond) ∈ TB := tb_of 420 (by decide +kernel) (by decide +kernel)
theorem ml_L_49 : (Cond.methodLink RL 49 yX6_ofRoad : Cond) ∈ TB := tb_of 421 (by decide +kernel) (by decide +kernel)
theorem im_X6_ofRoad : (Cond.instanceMethod yX6_ofRoad : Cond) ∈ TB := tb_of 422 (by decide +kernel) (by decide +kernel)
theorem sel_X6_ofRoad : (Cond.selects RX6 yX6_ofRoad yX6_ofRoad : Cond) ∈ TB := tb_of 423 (by decide +kernel) (by decide +kernel)
theorem cd_X6_ofRoad : (Cond.code yX6_ofRoad cX6_ofRoad 7 (some FieldType.int) : Cond) ∈ TB := tb_of 424 (by decide +kernel) (by decide +kernel)
theorem ml_X6_78 : (Cond.methodLink RX6 78 yX1_wrongEnds : Cond) ∈ TB := tb_of 425 (by decide +kernel) (by decide +kernel)
theorem ml_X6_83 : (Cond.methodLink RX6 83 yX1_numberOf : Cond) ∈ TB := tb_of 426 (by decide +kernel) (by decide +kernel)
theorem ml_X6_86 : (Cond.methodLink RX6 86 yX1_roadBetween : Cond) ∈ TB := tb_of 427 (by decide +kernel) (by decide +kernel)
theorem ml_X6_93 : (Cond.methodLink RX6 93 yX6_isIn : Cond) ∈ TB := tb_of 428 (by decide +kernel) (by decide +kernel)
theorem st_X6_isIn : (Cond.static yX6_isIn : Cond) ∈ TB := tb_of 429 (by decide +kernel) (by decide +kernel)
theorem cd_X6_isIn : (Cond.code yX6_isIn cX6_isIn 2 (some FieldType.int) : Cond) ∈ TB := tb_of 430 (by decide +kernel) (by decide +kernel)
theorem ml_X6_99 : (Cond.methodLink RX6 99 yX0_seenOf : Cond) ∈ TB := tb_of 431 (by decide +kernel) (by decide +kernel)
theorem im_X0_seenOf : (Cond.instanceMethod yX0_seenOf : Cond) ∈ TB := tb_of 432 (by decide +kernel) (by decide +kernel)
theorem sel_X0_seenOf : (Cond.selects RX0 yX0_seenOf yX0_seenOf : Cond) ∈ TB := tb_of 433 (by decide +kernel) (by decide +kernel)
theorem cd_X0_seenOf : (Cond.code yX0_seenOf cX0_seenOf 3 (some FieldType.int) : Cond) ∈ TB := tb_of 434 (by decide +kernel) (by decide +kernel)
theorem ml_X6_102 : (Cond.methodLink RX6 102 yX0_claimants : Cond) ∈ TB := tb_of 436 (by decide +kernel) (by decide +kernel)
theorem im_X0_claimants : (Cond.instanceMethod yX0_claimants : Cond) ∈ TB := tb_of 437 (by decide +kernel) (by decide +kernel)
theorem sel_X0_claimants : (Cond.selects RX0 yX0_claimants yX0_claimants : Cond) ∈ TB := tb_of 438 (by decide +kernel) (by decide +kernel)
theorem cd_X0_claimants : (Cond.code yX0_claimants cX0_claimants 3 (some FieldType.int) : Cond) ∈ TB := tb_of 439 (by decide +kernel) (by decide +kernel)
theorem ml_X0_177 : (Cond.methodLink RX0 177 yX4_saying : Cond) ∈ TB := tb_of 440 (by decide +kernel) (by decide +kernel)
theorem im_X4_saying : (Cond.instanceMethod yX4_saying : Cond) ∈ TB := tb_of 441 (by decide +kernel) (by decide +kernel)
theorem sel_X4_saying : (Cond.selects RX4 yX4_saying yX4_saying : Cond) ∈ TB := tb_of 442 (by decide +kernel) (by decide +kernel)
theorem cd_X4_saying : (Cond.code yX4_saying cX4_saying 2 (some FieldType.int) : Cond) ∈ TB := tb_of 443 (by decide +kernel) (by decide +kernel)
theorem ml_L_53 : (Cond.methodLink RL 53 yX6_knows : Cond) ∈ TB := tb_of 444 (by decide +kernel) (by decide +kernel)
theorem im_X6_knows : (Cond.instanceMethod yX6_knows : Cond) ∈ TB := tb_of 445 (by decide +kernel) (by decide +kernel)
theorem sel_X6_knows : (Cond.selects RX6 yX6_knows yX6_knows : Cond) ∈ TB := tb_of 446 (by decide +kernel) (by decide +kernel)
theorem cd_X6_knows : (Cond.code yX6_knows cX6_knows 5 (some FieldType.int) : Cond) ∈ TB := tb_of 447 (by decide +kernel) (by decide +kernel)
theorem ml_X6_106 : (Cond.methodLink RX6 106 yX6_isPlayer : Cond) ∈ TB := tb_of 448 (by decide +kernel) (by decide +kernel)
theorem ml_X6_110 : (Cond.methodLink RX6 110 yX0_knownTo : Cond) ∈ TB := tb_of 449 (by decide +kernel) (by decide +kernel)
theorem im_X0_knownTo : (Cond.instanceMethod yX0_knownTo : Cond) ∈ TB := tb_of 450 (by decide +kernel) (by decide +kernel)
theorem sel_X0_knownTo : (Cond.selects RX0 yX0_knownTo yX0_knownTo : Cond) ∈ TB := tb_of 451 (by decide +kernel) (by decide +kernel)
theorem cd_X0_knownTo : (Cond.code yX0_knownTo cX0_knownTo 2 (some FieldType.int) : Cond) ∈ TB := tb_of 452 (by decide +kernel) (by decide +kernel)
theorem ml_X0_174 : (Cond.methodLink RX0 174 yX1_thirdOf : Cond) ∈ TB := tb_of 453 (by decide +kernel) (by decide +kernel)
theorem st_X1_thirdOf : (Cond.static yX1_thirdOf : Cond) ∈ TB := tb_of 454 (by decide +kernel) (by decide +kernel)
theorem cd_X1_thirdOf : (Cond.code yX1_thirdOf cX1_thirdOf 1 (some FieldType.int) : Cond) ∈ TB := tb_of 455 (by decide +kernel) (by decide +kernel)
theorem kc_X1_31 : (Cond.constant RX1 31 (153391689) : Cond) ∈ TB := tb_of 456 (by decide +kernel) (by decide +kernel)
theorem kc_X1_32 : (Cond.constant RX1 32 (268435455) : Cond) ∈ TB := tb_of 457 (by decide +kernel) (by decide +kernel)
theorem ml_L_57 : (Cond.methodLink RL 57 yX6_player : Cond) ∈ TB := tb_of 458 (by decide +kernel) (by decide +kernel)
theorem im_X6_player : (Cond.instanceMethod yX6_player : Cond) ∈ TB := tb_of 459 (by decide +kernel) (by decide +kernel)
theorem sel_X6_player : (Cond.selects RX6 yX6_player yX6_player : Cond) ∈ TB := tb_of 460 (by decide +kernel) (by decide +kernel)
theorem cd_X6_player : (Cond.code yX6_player cX6_player 4 (some FieldType.int) : Cond) ∈ TB := tb_of 461 (by decide +kernel) (by decide +kernel)
theorem ml_X6_113 : (Cond.methodLink RX6 113 yX0_seat : Cond) ∈ TB := tb_of 462 (by decide +kernel) (by decide +kernel)
theorem ml_X6_122 : (Cond.methodLink RX6 122 yX4_claims : Cond) ∈ TB := tb_of 463 (by decide +kernel) (by decide +kernel)
theorem ml_X6_128 : (Cond.methodLink RX6 128 yX4_shownLies : Cond) ∈ TB := tb_of 464 (by decide +kernel) (by decide +kernel)
theorem im_X4_shownLies : (Cond.instanceMethod yX4_shownLies : Cond) ∈ TB := tb_of 465 (by decide +kernel) (by decide +kernel)
theorem sel_X4_shownLies : (Cond.selects RX4 yX4_shownLies yX4_shownLies : Cond) ∈ TB := tb_of 466 (by decide +kernel) (by decide +kernel)
theorem cd_X4_shownLies : (Cond.code yX4_shownLies cX4_shownLies 3 (some FieldType.int) : Cond) ∈ TB := tb_of 467 (by decide +kernel) (by decide +kernel)
theorem ml_X4_37 : (Cond.methodLink RX4 37 yX4_lies : Cond) ∈ TB := tb_of 468 (by decide +kernel) (by decide +kernel)
theorem ml_X6_143 : (Cond.methodLink RX6 143 yJ6_bitCount_0f7a4 : Cond) ∈ TB := tb_of 469 (by decide +kernel) (by decide +kernel)
theorem ml_L_61 : (Cond.methodLink RL 61 yX6_place : Cond) ∈ TB := tb_of 470 (by decide +kernel) (by decide +kernel)
theorem im_X6_place : (Cond.instanceMethod yX6_place : Cond) ∈ TB := tb_of 471 (by decide +kernel) (by decide +kernel)
theorem sel_X6_place : (Cond.selects RX6 yX6_place yX6_place : Cond) ∈ TB := tb_of 472 (by decide +kernel) (by decide +kernel)
theorem cd_X6_place : (Cond.code yX6_place cX6_place 4 (some FieldType.int) : Cond) ∈ TB := tb_of 473 (by decide +kernel) (by decide +kernel)
theorem ml_X6_148 : (Cond.methodLink RX6 148 yX1_isPlace : Cond) ∈ TB := tb_of 474 (by decide +kernel) (by decide +kernel)
theorem ml_X6_151 : (Cond.methodLink RX6 151 yX1_roadsAt : Cond) ∈ TB := tb_of 475 (by decide +kernel) (by decide +kernel)
theorem ml_X6_158 : (Cond.methodLink RX6 158 yX0_toldOf : Cond) ∈ TB := tb_of 476 (by decide +kernel) (by decide +kernel)
theorem im_X0_toldOf : (Cond.instanceMethod yX0_toldOf : Cond) ∈ TB := tb_of 477 (by decide +kernel) (by decide +kernel)
theorem sel_X0_toldOf : (Cond.selects RX0 yX0_toldOf yX0_toldOf : Cond) ∈ TB := tb_of 478 (by decide +kernel) (by decide +kernel)
theorem cd_X0_toldOf : (Cond.code yX0_toldOf cX0_toldOf 2 (some FieldType.int) : Cond) ∈ TB := tb_of 479 (by decide +kernel) (by decide +kernel)
theorem ml_X6_161 : (Cond.methodLink RX6 161 yX1_placesBeside : Cond) ∈ TB := tb_of 480 (by decide +kernel) (by decide +kernel)
theorem ml_L_65 : (Cond.methodLink RL 65 yX6_dug : Cond) ∈ TB := tb_of 481 (by decide +kernel) (by decide +kernel)
theorem im_X6_dug : (Cond.instanceMethod yX6_dug : Cond) ∈ TB := tb_of 482 (by decide +kernel) (by decide +kernel)
theorem sel_X6_dug : (Cond.selects RX6 yX6_dug yX6_dug : Cond) ∈ TB := tb_of 483 (by decide +kernel) (by decide +kernel)
theorem cd_X6_dug : (Cond.code yX6_dug cX6_dug 2 (some FieldType.int) : Cond) ∈ TB := tb_of 484 (by decide +kernel) (by decide +kernel)
theorem ml_X6_164 : (Cond.methodLink RX6 164 yX0_dugAs : Cond) ∈ TB := tb_of 485 (by decide +kernel) (by decide +kernel)
theorem im_X0_dugAs : (Cond.instanceMethod yX0_dugAs : Cond) ∈ TB := tb_of 486 (by decide +kernel) (by decide +kernel)
theorem sel_X0_dugAs : (Cond.selects RX0 yX0_dugAs yX0_dugAs : Cond) ∈ TB := tb_of 487 (by decide +kernel) (by decide +kernel)
theorem cd_X0_dugAs : (Cond.code yX0_dugAs cX0_dugAs 2 (some FieldType.int) : Cond) ∈ TB := tb_of 488 (by decide +kernel) (by decide +kernel)
theorem ml_L_69 : (Cond.methodLink RL 69 yX6_count : Cond) ∈ TB := tb_of 489 (by decide +kernel) (by decide +kernel)
theorem im_X6_count : (Cond.instanceMethod yX6_count : Cond) ∈ TB := tb_of 490 (by decide +kernel) (by decide +kernel)
theorem sel_X6_count : (Cond.selects RX6 yX6_count yX6_count : Cond) ∈ TB := tb_of 491 (by decide +kernel) (by decide +kernel)
theorem cd_X6_count : (Cond.code yX6_count cX6_count 2 (some FieldType.int) : Cond) ∈ TB := tb_of 492 (by decide +kernel) (by decide +kernel)
theorem ml_X6_170 : (Cond.methodLink RX6 170 yX0_next : Cond) ∈ TB := tb_of 493 (by decide +kernel) (by decide +kernel)
theorem ml_X6_173 : (Cond.methodLink RX6 173 yX0_stage : Cond) ∈ TB := tb_of 494 (by decide +kernel) (by decide +kernel)
theorem ml_X6_179 : (Cond.methodLink RX6 179 yX0_shownLies : Cond) ∈ TB := tb_of 495 (by decide +kernel) (by decide +kernel)
theorem im_X0_shownLies : (Cond.instanceMethod yX0_shownLies : Cond) ∈ TB := tb_of 496 (by decide +kernel) (by decide +kernel)
theorem sel_X0_shownLies : (Cond.selects RX0 yX0_shownLies yX0_shownLies : Cond) ∈ TB := tb_of 497 (by decide +kernel) (by decide +kernel)
theorem cd_X0_shownLies : (Cond.code yX0_shownLies cX0_shownLies 1 (some FieldType.int) : Cond) ∈ TB := tb_of 498 (by decide +kernel) (by decide +kernel)
theorem ml_X0_181 : (Cond.methodLink RX0 181 yX4_shownLies : Cond) ∈ TB := tb_of 499 (by decide +kernel) (by decide +kernel)
theorem ml_X6_181 : (Cond.methodLink RX6 181 yX0_setting : Cond) ∈ TB := tb_of 500 (by decide +kernel) (by decide +kernel)
theorem ml_L_73 : (Cond.methodLink RL 73 yX6_canBe : Cond) ∈ TB := tb_of 501 (by decide +kernel) (by decide +kernel)
theorem im_X6_canBe : (Cond.instanceMethod yX6_canBe : Cond) ∈ TB := tb_of 502 (by decide +kernel) (by decide +kernel)
theorem sel_X6_canBe : (Cond.selects RX6 yX6_canBe yX6_canBe : Cond) ∈ TB := tb_of 503 (by decide +kernel) (by decide +kernel)
theorem cd_X6_canBe : (Cond.code yX6_canBe cX6_canBe 3 (some FieldType.int) : Cond) ∈ TB := tb_of 504 (by decide +kernel) (by decide +kernel)
theorem ml_X6_190 : (Cond.methodLink RX6 190 yX0_fitsWhatWasTold : Cond) ∈ TB := tb_of 505 (by decide +kernel) (by decide +kernel)
theorem im_X0_fitsWhatWasTold : (Cond.instanceMethod yX0_fitsWhatWasTold : Cond) ∈ TB := tb_of 506 (by decide +kernel) (by decide +kernel)
theorem sel_X0_fitsWhatWasTold : (Cond.selects RX0 yX0_fitsWhatWasTold yX0_fitsWhatWasTold : Cond) ∈ TB := tb_of 507 (by decide +kernel) (by decide +kernel)
theorem cd_X0_fitsWhatWasTold : (Cond.code yX0_fitsWhatWasTold cX0_fitsWhatWasTold 3 (some FieldType.boolean) : Cond) ∈ TB := tb_of 508 (by decide +kernel) (by decide +kernel)
theorem ml_L_77 : (Cond.methodLink RL 77 yX6_shows : Cond) ∈ TB := tb_of 509 (by decide +kernel) (by decide +kernel)
theorem im_X6_shows : (Cond.instanceMethod yX6_shows : Cond) ∈ TB := tb_of 510 (by decide +kernel) (by decide +kernel)
theorem sel_X6_shows : (Cond.selects RX6 yX6_shows yX6_shows : Cond) ∈ TB := tb_of 511 (by decide +kernel) (by decide +kernel)
theorem cd_X6_shows : (Cond.code yX6_shows cX6_shows 4 (some FieldType.int) : Cond) ∈ TB := tb_of 512 (by decide +kernel) (by decide +kernel)
theorem ml_X6_193 : (Cond.methodLink RX6 193 yX0_moreKnownBy : Cond) ∈ TB := tb_of 513 (by decide +kernel) (by decide +kernel)
theorem im_X0_moreKnownBy : (Cond.instanceMethod yX0_moreKnownBy : Cond) ∈ TB := tb_of 514 (by decide +kernel) (by decide +kernel)
theorem sel_X0_moreKnownBy : (Cond.selects RX0 yX0_moreKnownBy yX0_moreKnownBy : Cond) ∈ TB := tb_of 515 (by decide +kernel) (by decide +kernel)
theorem cd_X0_moreKnownBy : (Cond.code yX0_moreKnownBy cX0_moreKnownBy 2 (some FieldType.int) : Cond) ∈ TB := tb_of 516 (by decide +kernel) (by decide +kernel)
theorem ml_L_81 : (Cond.methodLink RL 81 yX6_bestShow : Cond) ∈ TB := tb_of 517 (by decide +kernel) (by decide +kernel)
theorem im_X6_bestShow : (Cond.instanceMethod yX6_bestShow : Cond) ∈ TB := tb_of 518 (by decide +kernel) (by decide +kernel)
theorem sel_X6_bestShow : (Cond.selects RX6 yX6_bestShow yX6_bestShow : Cond) ∈ TB := tb_of 519 (by decide +kernel) (by decide +kernel)
theorem cd_X6_bestShow : (Cond.code yX6_bestShow cX6_bestShow 6 (some FieldType.int) : Cond) ∈ TB := tb_of 520 (by decide +kernel) (by decide +kernel)
theorem ml_L_85 : (Cond.methodLink RL 85 yX6_knownWay : Cond) ∈ TB := tb_of 521 (by decide +kernel) (by decide +kernel)
theorem im_X6_knownWay : (Cond.instanceMethod yX6_knownWay : Cond) ∈ TB := tb_of 522 (by decide +kernel) (by decide +kernel)
theorem sel_X6_knownWay : (Cond.selects RX6 yX6_knownWay yX6_knownWay : Cond) ∈ TB := tb_of 523 (by decide +kernel) (by decide +kernel)
theorem cd_X6_knownWay : (Cond.code yX6_knownWay cX6_knownWay 4 (some FieldType.int) : Cond) ∈ TB := tb_of 524 (by decide +kernel) (by decide +kernel)
theorem ml_X6_196 : (Cond.methodLink RX6 196 yX1_distance : Cond) ∈ TB := tb_of 525 (by decide +kernel) (by decide +kernel)
theorem ml_L_91 : (Cond.methodLink RL 91 yX6_put : Cond) ∈ TB := tb_of 526 (by decide +kernel) (by decide +kernel)
theorem im_X6_put : (Cond.instanceMethod yX6_put : Cond) ∈ TB := tb_of 527 (by decide +kernel) (by decide +kernel)
theorem sel_X6_put : (Cond.selects RX6 yX6_put yX6_put : Cond) ∈ TB := tb_of 528 (by decide +kernel) (by decide +kernel)
theorem cd_X6_put : (Cond.code yX6_put cX6_put 3 (some FieldType.int) : Cond) ∈ TB := tb_of 529 (by decide +kernel) (by decide +kernel)
theorem ml_X6_199 : (Cond.methodLink RX6 199 yX2_append : Cond) ∈ TB := tb_of 530 (by decide +kernel) (by decide +kernel)
theorem im_X2_append : (Cond.instanceMethod yX2_append : Cond) ∈ TB := tb_of 531 (by decide +kernel) (by decide +kernel)
theorem sel_X2_append : (Cond.selects RX2 yX2_append yX2_append : Cond) ∈ TB := tb_of 532 (by decide +kernel) (by decide +kernel)
theorem cd_X2_append : (Cond.code yX2_append cX2_append 5 (some FieldType.int) : Cond) ∈ TB := tb_of 533 (by decide +kernel) (by decide +kernel)
theorem ml_X2_15 : (Cond.methodLink RX2 15 yX2_charactersIn : Cond) ∈ TB := tb_of 534 (by decide +kernel) (by decide +kernel)
theorem st_X2_charactersIn : (Cond.static yX2_charactersIn : Cond) ∈ TB := tb_of 535 (by decide +kernel) (by decide +kernel)
theorem cd_X2_charactersIn : (Cond.code yX2_charactersIn cX2_charactersIn 4 (some FieldType.int) : Cond) ∈ TB := tb_of 536 (by decide +kernel) (by decide +kernel)
theorem ml_X2_23 : (Cond.methodLink RX2 23 yX2_codeIn : Cond) ∈ TB := tb_of 537 (by decide +kernel) (by decide +kernel)
theorem st_X2_codeIn : (Cond.static yX2_codeIn : Cond) ∈ TB := tb_of 538 (by decide +kernel) (by decide +kernel)
theorem cd_X2_codeIn : (Cond.code yX2_codeIn cX2_codeIn 3 (some FieldType.int) : Cond) ∈ TB := tb_of 539 (by decide +kernel) (by decide +kernel)
theorem ml_L_96 : (Cond.methodLink RL 96 yX6_wipe : Cond) ∈ TB := tb_of 540 (by decide +kernel) (by decide +kernel)
theorem im_X6_wipe : (Cond.instanceMethod yX6_wipe : Cond) ∈ TB := tb_of 541 (by decide +kernel) (by decide +kernel)
theorem sel_X6_wipe : (Cond.selects RX6 yX6_wipe yX6_wipe : Cond) ∈ TB := tb_of 542 (by decide +kernel) (by decide +kernel)
theorem cd_X6_wipe : (Cond.code yX6_wipe cX6_wipe 1 (some FieldType.int) : Cond) ∈ TB := tb_of 543 (by decide +kernel) (by decide +kernel)
theorem ml_X6_203 : (Cond.methodLink RX6 203 yX2_empty : Cond) ∈ TB := tb_of 544 (by decide +kernel) (by decide +kernel)
theorem im_X2_empty : (Cond.instanceMethod yX2_empty : Cond) ∈ TB := tb_of 545 (by decide +kernel) (by decide +kernel)
theorem sel_X2_empty : (Cond.selects RX2 yX2_empty yX2_empty : Cond) ∈ TB := tb_of 546 (by decide +kernel) (by decide +kernel)
theorem cd_X2_empty : (Cond.code yX2_empty cX2_empty 2 (some FieldType.int) : Cond) ∈ TB := tb_of 547 (by decide +kernel) (by decide +kernel)
theorem ml_L_100 : (Cond.methodLink RL 100 yX6_fault : Cond) ∈ TB := tb_of 548 (by decide +kernel) (by decide +kernel)
theorem im_X6_fault : (Cond.instanceMethod yX6_fault : Cond) ∈ TB := tb_of 549 (by decide +kernel) (by decide +kernel)
theorem sel_X6_fault : (Cond.selects RX6 yX6_fault yX6_fault : Cond) ∈ TB := tb_of 550 (by decide +kernel) (by decide +kernel)
theorem cd_X6_fault : (Cond.code yX6_fault cX6_fault 1 (some FieldType.int) : Cond) ∈ TB := tb_of 551 (by decide +kernel) (by decide +kernel)
theorem ml_X6_206 : (Cond.methodLink RX6 206 yX2_firstFault : Cond) ∈ TB := tb_of 552 (by decide +kernel) (by decide +kernel)
theorem im_X2_firstFault : (Cond.instanceMethod yX2_firstFault : Cond) ∈ TB := tb_of 553 (by decide +kernel) (by decide +kernel)
theorem sel_X2_firstFault : (Cond.selects RX2 yX2_firstFault yX2_firstFault : Cond) ∈ TB := tb_of 554 (by decide +kernel) (by decide +kernel)
theorem cd_X2_firstFault : (Cond.code yX2_firstFault cX2_firstFault 3 (some FieldType.int) : Cond) ∈ TB := tb_of 555 (by decide +kernel) (by decide +kernel)
theorem ml_X2_27 : (Cond.methodLink RX2 27 yX2_sign : Cond) ∈ TB := tb_of 556 (by decide +kernel) (by decide +kernel)
theorem im_X2_sign : (Cond.instanceMethod yX2_sign : Cond) ∈ TB := tb_of 557 (by decide +kernel) (by decide +kernel)
theorem sel_X2_sign : (Cond.selects RX2 yX2_sign yX2_sign : Cond) ∈ TB := tb_of 558 (by decide +kernel) (by decide +kernel)
theorem cd_X2_sign : (Cond.code yX2_sign cX2_sign 2 (some FieldType.int) : Cond) ∈ TB := tb_of 559 (by decide +kernel) (by decide +kernel)
theorem ml_X2_31 : (Cond.methodLink RX2 31 yX2_dueAfter : Cond) ∈ TB := tb_of 560 (by decide +kernel) (by decide +kernel)
theorem st_X2_dueAfter : (Cond.static yX2_dueAfter : Cond) ∈ TB := tb_of 561 (by decide +kernel) (by decide +kernel)
theorem cd_X2_dueAfter : (Cond.code yX2_dueAfter cX2_dueAfter 2 (some FieldType.int) : Cond) ∈ TB := tb_of 562 (by decide +kernel) (by decide +kernel)
theorem ml_X2_35 : (Cond.methodLink RX2 35 yX2_dueAfterLetter : Cond) ∈ TB := tb_of 563 (by decide +kernel) (by decide +kernel)
theorem st_X2_dueAfterLetter : (Cond.static yX2_dueAfterLetter : Cond) ∈ TB := tb_of 564 (by decide +kernel) (by decide +kernel)
theorem cd_X2_dueAfterLetter : (Cond.code yX2_dueAfterLetter cX2_dueAfterLetter 1 (some FieldType.int) : Cond) ∈ TB := tb_of 565 (by decide +kernel) (by decide +kernel)
theorem ml_X2_38 : (Cond.methodLink RX2 38 yX2_isPlaceSign : Cond) ∈ TB := tb_of 566 (by decide +kernel) (by decide +kernel)
theorem st_X2_isPlaceSign : (Cond.static yX2_isPlaceSign : Cond) ∈ TB := tb_of 567 (by decide +kernel) (by decide +kernel)
theorem cd_X2_isPlaceSign : (Cond.code yX2_isPlaceSign cX2_isPlaceSign 1 (some FieldType.boolean) : Cond) ∈ TB := tb_of 568 (by decide +kernel) (by decide +kernel)
theorem ml_X2_42 : (Cond.methodLink RX2 42 yX1_isPlace : Cond) ∈ TB := tb_of 569 (by decide +kernel) (by decide +kernel)
theorem ml_L_104 : (Cond.methodLink RL 104 yX6_carryOut : Cond) ∈ TB := tb_of 570 (by decide +kernel) (by decide +kernel)
theorem im_X6_carryOut : (Cond.instanceMethod yX6_carryOut : Cond) ∈ TB := tb_of 571 (by decide +kernel) (by decide +kernel)
theorem sel_X6_carryOut : (Cond.selects RX6 yX6_carryOut yX6_carryOut : Cond) ∈ TB := tb_of 572 (by decide +kernel) (by decide +kernel)
theorem cd_X6_carryOut : (Cond.code yX6_carryOut cX6_carryOut 3 (some FieldType.int) : Cond) ∈ TB := tb_of 573 (by decide +kernel) (by decide +kernel)
theorem ml_X6_209 : (Cond.methodLink RX6 209 yX2_startsOrder : Cond) ∈ TB := tb_of 574 (by decide +kernel) (by decide +kernel)
theorem im_X2_startsOrder : (Cond.instanceMethod yX2_startsOrder : Cond) ∈ TB := tb_of 575 (by decide +kernel) (by decide +kernel)
theorem sel_X2_startsOrder : (Cond.selects RX2 yX2_startsOrder yX2_startsOrder : Cond) ∈ TB := tb_of 576 (by decide +kernel) (by decide +kernel)
theorem cd_X2_startsOrder : (Cond.code yX2_startsOrder cX2_startsOrder 2 (some FieldType.boolean) : Cond) ∈ TB := tb_of 577 (by decide +kernel) (by decide +kernel)
theorem ml_X6_212 : (Cond.methodLink RX6 212 yX6_carryOutOrder : Cond) ∈ TB := tb_of 578 (by decide +kernel) (by decide +kernel)
theorem im_X6_carryOutOrder : (Cond.instanceMethod yX6_carryOutOrder : Cond) ∈ TB := tb_of 580 (by decide +kernel) (by decide +kernel)
theorem cd_X6_carryOutOrder : (Cond.code yX6_carryOutOrder cX6_carryOutOrder 2 (some FieldType.int) : Cond) ∈ TB := tb_of 581 (by decide +kernel) (by decide +kernel)
theorem ml_X6_215 : (Cond.methodLink RX6 215 yX2_sign : Cond) ∈ TB := tb_of 582 (by decide +kernel) (by decide +kernel)
theorem ml_X6_218 : (Cond.methodLink RX6 218 yX2_placeAt : Cond) ∈ TB := tb_of 583 (by decide +kernel) (by decide +kernel)
theorem im_X2_placeAt : (Cond.instanceMethod yX2_placeAt : Cond) ∈ TB := tb_of 584 (by decide +kernel) (by decide +kernel)
theorem sel_X2_placeAt : (Cond.selects RX2 yX2_placeAt yX2_placeAt : Cond) ∈ TB := tb_of 585 (by decide +kernel) (by decide +kernel)
theorem cd_X2_placeAt : (Cond.code yX2_placeAt cX2_placeAt 2 (some FieldType.int) : Cond) ∈ TB := tb_of 586 (by decide +kernel) (by decide +kernel)
theorem ml_X6_221 : (Cond.methodLink RX6 221 yX2_digitAt : Cond) ∈ TB := tb_of 587 (by decide +kernel) (by decide +kernel)
theorem im_X2_digitAt : (Cond.instanceMethod yX2_digitAt : Cond) ∈ TB := tb_of 588 (by decide +kernel) (by decide +kernel)
theorem sel_X2_digitAt : (Cond.selects RX2 yX2_digitAt yX2_digitAt : Cond) ∈ TB := tb_of 589 (by decide +kernel) (by decide +kernel)
theorem cd_X2_digitAt : (Cond.code yX2_digitAt cX2_digitAt 2 (some FieldType.int) : Cond) ∈ TB := tb_of 590 (by decide +kernel) (by decide +kernel)
theorem ml_L_108 : (Cond.methodLink RL 108 yX6_undo : Cond) ∈ TB := tb_of 591 (by decide +kernel) (by decide +kernel)
theorem im_X6_undo : (Cond.instanceMethod yX6_undo : Cond) ∈ TB := tb_of 592 (by decide +kernel) (by decide +kernel)
theorem sel_X6_undo : (Cond.selects RX6 yX6_undo yX6_undo : Cond) ∈ TB := tb_of 593 (by decide +kernel) (by decide +kernel)
theorem cd_X6_undo : (Cond.code yX6_undo cX6_undo 1 (some FieldType.int) : Cond) ∈ TB := tb_of 594 (by decide +kernel) (by decide +kernel)
theorem ml_X6_224 : (Cond.methodLink RX6 224 yX3_goBack : Cond) ∈ TB := tb_of 595 (by decide +kernel) (by decide +kernel)
theorem im_X3_goBack : (Cond.instanceMethod yX3_goBack : Cond) ∈ TB := tb_of 596 (by decide +kernel) (by decide +kernel)
theorem sel_X3_goBack : (Cond.selects RX3 yX3_goBack yX3_goBack : Cond) ∈ TB := tb_of 597 (by decide +kernel) (by decide +kernel)
theorem cd_X3_goBack : (Cond.code yX3_goBack cX3_goBack 3 (some FieldType.boolean) : Cond) ∈ TB := tb_of 598 (by decide +kernel) (by decide +kernel)
theorem ml_L_112 : (Cond.methodLink RL 112 yX6_save : Cond) ∈ TB := tb_of 599 (by decide +kernel) (by decide +kernel)
theorem im_X6_save : (Cond.instanceMethod yX6_save : Cond) ∈ TB := tb_of 600 (by decide +kernel) (by decide +kernel)
theorem sel_X6_save : (Cond.selects RX6 yX6_save yX6_save : Cond) ∈ TB := tb_of 601 (by decide +kernel) (by decide +kernel)
theorem cd_X6_save : (Cond.code yX6_save cX6_save 3 (some FieldType.int) : Cond) ∈ TB := tb_of 602 (by decide +kernel) (by decide +kernel)
theorem ml_X6_228 : (Cond.methodLink RX6 228 yX6_isSlot : Cond) ∈ TB := tb_of 603 (by decide +kernel) (by decide +kernel)
theorem st_X6_isSlot : (Cond.static yX6_isSlot : Cond) ∈ TB := tb_of 604 (by decide +kernel) (by decide +kernel)
theorem cd_X6_isSlot : (Cond.code yX6_isSlot cX6_isSlot 1 (some FieldType.boolean) : Cond) ∈ TB := tb_of 605 (by decide +kernel) (by decide +kernel)
theorem ml_X6_231 : (Cond.methodLink RX6 231 yX6_slotOf : Cond) ∈ TB := tb_of 606 (by decide +kernel) (by decide +kernel)
theorem im_X6_slotOf : (Cond.instanceMethod yX6_slotOf : Cond) ∈ TB := tb_of 608 (by decide +kernel) (by decide +kernel)
theorem cd_X6_slotOf : (Cond.code yX6_slotOf cX6_slotOf 2 (some (FieldType.object "LiarMaps$Slot")) : Cond) ∈ TB := tb_of 609 (by decide +kernel) (by decide +kernel)
theorem ml_X6_238 : (Cond.methodLink RX6 238 yX0_become : Cond) ∈ TB := tb_of 610 (by decide +kernel) (by decide +kernel)
theorem ml_L_116 : (Cond.methodLink RL 116 yX6_restore : Cond) ∈ TB := tb_of 611 (by decide +kernel) (by decide +kernel)
theorem im_X6_restore : (Cond.instanceMethod yX6_restore : Cond) ∈ TB := tb_of 612 (by decide +kernel) (by decide +kernel)
theorem sel_X6_restore : (Cond.selects RX6 yX6_restore yX6_restore : Cond) ∈ TB := tb_of 613 (by decide +kernel) (by decide +kernel)
theorem cd_X6_restore : (Cond.code yX6_restore cX6_restore 3 (some FieldType.int) : Cond) ∈ TB := tb_of 614 (by decide +kernel) (by decide +kernel)
theorem cl_L_10 : (Cond.classLink RL 10 RX7 : Cond) ∈ TB := tb_of 615 (by decide +kernel) (by decide +kernel)
theorem ins_X7 : (Cond.instantiable RX7 16 : Cond) ∈ TB := tb_of 616 (by decide +kernel) (by decide +kernel)
theorem ml_L_12 : (Cond.methodLink RL 12 yX7_init : Cond) ∈ TB := tb_of 617 (by decide +kernel) (by decide +kernel)
theorem im_X7_init : (Cond.instanceMethod yX7_init : Cond) ∈ TB := tb_of 618 (by decide +kernel) (by decide +kernel)
theorem cd_X7_init : (Cond.code yX7_init cX7_init 2 none : Cond) ∈ TB := tb_of 619 (by decide +kernel) (by decide +kernel)
theorem ml_X7_1 : (Cond.methodLink RX7 1 objectInit : Cond) ∈ TB := tb_of 620 (by decide +kernel) (by decide +kernel)
theorem fl_X7_7 : (Cond.fieldLink RX7 7 "LiarMapsModel" "s" "[I" : Cond) ∈ TB := tb_of 621 (by decide +kernel) (by decide +kernel)
theorem fl_X7_13 : (Cond.fieldLink RX7 13 "LiarMapsModel" "past" "[I" : Cond) ∈ TB := tb_of 622 (by decide +kernel) (by decide +kernel)
theorem fl_X7_33 : (Cond.fieldLink RX7 33 "LiarMapsModel" "pasts" "I" : Cond) ∈ TB := tb_of 623 (by decide +kernel) (by decide +kernel)
theorem fl_X7_16 : (Cond.fieldLink RX7 16 "LiarMapsModel" "slots" "[I" : Cond) ∈ TB := tb_of 624 (by decide +kernel) (by decide +kernel)
theorem fl_X7_19 : (Cond.fieldLink RX7 19 "LiarMapsModel" "isKept" "[Z" : Cond) ∈ TB := tb_of 625 (by decide +kernel) (by decide +kernel)
theorem fl_X7_23 : (Cond.fieldLink RX7 23 "LiarMapsModel" "pad" "[I" : Cond) ∈ TB := tb_of 626 (by decide +kernel) (by decide +kernel)
theorem fl_X7_151 : (Cond.fieldLink RX7 151 "LiarMapsModel" "length" "I" : Cond) ∈ TB := tb_of 627 (by decide +kernel) (by decide +kernel)
theorem fl_X7_45 : (Cond.fieldLink RX7 45 "LiarMapsModel" "known" "I" : Cond) ∈ TB := tb_of 628 (by decide +kernel) (by decide +kernel)
theorem fl_X7_48 : (Cond.fieldLink RX7 48 "LiarMapsModel" "there" "I" : Cond) ∈ TB := tb_of 629 (by decide +kernel) (by decide +kernel)
theorem fl_X7_26 : (Cond.fieldLink RX7 26 "LiarMapsModel" "far" "[I" : Cond) ∈ TB := tb_of 630 (by decide +kernel) (by decide +kernel)
theorem fl_X7_159 : (Cond.fieldLink RX7 159 "LiarMapsModel" "spot" "I" : Cond) ∈ TB := tb_of 631 (by decide +kernel) (by decide +kernel)
theorem fl_X7_162 : (Cond.fieldLink RX7 162 "LiarMapsModel" "isWrong" "Z" : Cond) ∈ TB := tb_of 632 (by decide +kernel) (by decide +kernel)
theorem fl_X7_166 : (Cond.fieldLink RX7 166 "LiarMapsModel" "sign" "I" : Cond) ∈ TB := tb_of 633 (by decide +kernel) (by decide +kernel)
theorem fl_X7_172 : (Cond.fieldLink RX7 172 "LiarMapsModel" "digit" "I" : Cond) ∈ TB := tb_of 634 (by decide +kernel) (by decide +kernel)
theorem fl_X7_175 : (Cond.fieldLink RX7 175 "LiarMapsModel" "first" "I" : Cond) ∈ TB := tb_of 635 (by decide +kernel) (by decide +kernel)
theorem fl_X7_178 : (Cond.fieldLink RX7 178 "LiarMapsModel" "second" "I" : Cond) ∈ TB := tb_of 636 (by decide +kernel) (by decide +kernel)
theorem ac_boolean : (Cond.arrayClass .boolean : Cond) ∈ TB := tb_of 670 (by decide +kernel) (by decide +kernel)
theorem ml_L_17 : (Cond.methodLink RL 17 yX7_set : Cond) ∈ TB := tb_of 671 (by decide +kernel) (by decide +kernel)
theorem im_X7_set : (Cond.instanceMethod yX7_set : Cond) ∈ TB := tb_of 672 (by decide +kernel) (by decide +kernel)
theorem sel_X7_set : (Cond.selects RX7 yX7_set yX7_set : Cond) ∈ TB := tb_of 673 (by decide +kernel) (by decide +kernel)
theorem cd_X7_set : (Cond.code yX7_set cX7_set 4 (some FieldType.int) : Cond) ∈ TB := tb_of 674 (by decide +kernel) (by decide +kernel)
theorem ml_X7_29 : (Cond.methodLink RX7 29 yX7_in : Cond) ∈ TB := tb_of 675 (by decide +kernel) (by decide +kernel)
theorem st_X7_in : (Cond.static yX7_in : Cond) ∈ TB := tb_of 676 (by decide +kernel) (by decide +kernel)
theorem cd_X7_in : (Cond.code yX7_in cX7_in 3 (some FieldType.boolean) : Cond) ∈ TB := tb_of 677 (by decide +kernel) (by decide +kernel)
theorem ml_X7_58 : (Cond.methodLink RX7 58 yX7_least : Cond) ∈ TB := tb_of 678 (by decide +kernel) (by decide +kernel)
theorem st_X7_least : (Cond.static yX7_least : Cond) ∈ TB := tb_of 679 (by decide +kernel) (by decide +kernel)
theorem cd_X7_least : (Cond.code yX7_least cX7_least 1 (some FieldType.int) : Cond) ∈ TB := tb_of 680 (by decide +kernel) (by decide +kernel)
theorem ml_X7_61 : (Cond.methodLink RX7 61 yX7_most : Cond) ∈ TB := tb_of 681 (by decide +kernel) (by decide +kernel)
theorem st_X7_most : (Cond.static yX7_most : Cond) ∈ TB := tb_of 682 (by decide +kernel) (by decide +kernel)
theorem cd_X7_most : (Cond.code yX7_most cX7_most 1 (some FieldType.int) : Cond) ∈ TB := tb_of 683 (by decide +kernel) (by decide +kernel)
theorem ml_X7_64 : (Cond.methodLink RX7 64 yX7_records : Cond) ∈ TB := tb_of 684 (by decide +kernel) (by decide +kernel)
theorem im_X7_records : (Cond.instanceMethod yX7_records : Cond) ∈ TB := tb_of 686 (by decide +kernel) (by decide +kernel)
theorem cd_X7_records : (Cond.code yX7_records cX7_records 2 none : Cond) ∈ TB := tb_of 687 (by decide +kernel) (by decide +kernel)
theorem ml_L_21 : (Cond.methodLink RL 21 yX7_road : Cond) ∈ TB := tb_of 688 (by decide +kernel) (by decide +kernel)
theorem im_X7_road : (Cond.instanceMethod yX7_road : Cond) ∈ TB := tb_of 689 (by decide +kernel) (by decide +kernel)
theorem sel_X7_road : (Cond.selects RX7 yX7_road yX7_road : Cond) ∈ TB := tb_of 690 (by decide +kernel) (by decide +kernel)
theorem cd_X7_road : (Cond.code yX7_road cX7_road 4 (some FieldType.int) : Cond) ∈ TB := tb_of 691 (by decide +kernel) (by decide +kernel)
theorem ml_X7_71 : (Cond.methodLink RX7 71 yX7_barRoad : Cond) ∈ TB := tb_of 692 (by decide +kernel) (by decide +kernel)
theorem im_X7_barRoad : (Cond.instanceMethod yX7_barRoad : Cond) ∈ TB := tb_of 694 (by decide +kernel) (by decide +kernel)
theorem cd_X7_barRoad : (Cond.code yX7_barRoad cX7_barRoad 3 (some FieldType.int) : Cond) ∈ TB := tb_of 695 (by decide +kernel) (by decide +kernel)
theorem ml_X7_67 : (Cond.methodLink RX7 67 yX7_isPlace : Cond) ∈ TB := tb_of 696 (by decide +kernel) (by decide +kernel)
theorem st_X7_isPlace : (Cond.static yX7_isPlace : Cond) ∈ TB := tb_of 697 (by decide +kernel) (by decide +kernel)
theorem cd_X7_isPlace : (Cond.code yX7_isPlace cX7_isPlace 1 (some FieldType.boolean) : Cond) ∈ TB := tb_of 698 (by decide +kernel) (by decide +kernel)
theorem ml_X7_41 : (Cond.methodLink RX7 41 yX7_hasBegun : Cond) ∈ TB := tb_of 699 (by decide +kernel) (by decide +kernel)
theorem im_X7_hasBegun : (Cond.instanceMethod yX7_hasBegun : Cond) ∈ TB := tb_of 701 (by decide +kernel) (by decide +kernel)
theorem cd_X7_hasBegun : (Cond.code yX7_hasBegun cX7_hasBegun 1 (some FieldType.boolean) : Cond) ∈ TB := tb_of 702 (by decide +kernel) (by decide +kernel)
theorem ml_X7_74 : (Cond.methodLink RX7 74 yX7_lays : Cond) ∈ TB := tb_of 703 (by decide +kernel) (by decide +kernel)
theorem im_X7_lays : (Cond.instanceMethod yX7_lays : Cond) ∈ TB := tb_of 705 (by decide +kernel) (by decide +kernel)
theorem cd_X7_lays : (Cond.code yX7_lays cX7_lays 3 (some FieldType.int) : Cond) ∈ TB := tb_of 706 (by decide +kernel) (by decide +kernel)
theorem ml_X7_37 : (Cond.methodLink RX7 37 yX7_edge : Cond) ∈ TB := tb_of 707 (by decide +kernel) (by decide +kernel)
theorem st_X7_edge : (Cond.static yX7_edge : Cond) ∈ TB := tb_of 708 (by decide +kernel) (by decide +kernel)
theorem cd_X7_edge : (Cond.code yX7_edge cX7_edge 4 (some FieldType.int) : Cond) ∈ TB := tb_of 709 (by decide +kernel) (by decide +kernel)
theorem ml_X7_55 : (Cond.methodLink RX7 55 yX7_many : Cond) ∈ TB := tb_of 710 (by decide +kernel) (by decide +kernel)
theorem st_X7_many : (Cond.static yX7_many : Cond) ∈ TB := tb_of 711 (by decide +kernel) (by decide +kernel)
theorem cd_X7_many : (Cond.code yX7_many cX7_many 3 (some FieldType.int) : Cond) ∈ TB := tb_of 712 (by decide +kernel) (by decide +kernel)
theorem ml_L_26 : (Cond.methodLink RL 26 yX7_treasure : Cond) ∈ TB := tb_of 713 (by decide +kernel) (by decide +kernel)
theorem im_X7_treasure : (Cond.instanceMethod yX7_treasure : Cond) ∈ TB := tb_of 714 (by decide +kernel) (by decide +kernel)
theorem sel_X7_treasure : (Cond.selects RX7 yX7_treasure yX7_treasure : Cond) ∈ TB := tb_of 715 (by decide +kernel) (by decide +kernel)
theorem cd_X7_treasure : (Cond.code yX7_treasure cX7_treasure 4 (some FieldType.int) : Cond) ∈ TB := tb_of 716 (by decide +kernel) (by decide +kernel)
theorem ml_X7_77 : (Cond.methodLink RX7 77 yX7_barTreasure : Cond) ∈ TB := tb_of 717 (by decide +kernel) (by decide +kernel)
theorem im_X7_barTreasure : (Cond.instanceMethod yX7_barTreasure : Cond) ∈ TB := tb_of 719 (by decide +kernel) (by decide +kernel)
theorem cd_X7_barTreasure : (Cond.code yX7_barTreasure cX7_barTreasure 2 (some FieldType.int) : Cond) ∈ TB := tb_of 720 (by decide +kernel) (by decide +kernel)
theorem ml_L_31 : (Cond.methodLink RL 31 yX7_begin : Cond) ∈ TB := tb_of 721 (by decide +kernel) (by decide +kernel)
theorem im_X7_begin : (Cond.instanceMethod yX7_begin : Cond) ∈ TB := tb_of 722 (by decide +kernel) (by decide +kernel)
theorem sel_X7_begin : (Cond.selects RX7 yX7_begin yX7_begin : Cond) ∈ TB := tb_of 723 (by decide +kernel) (by decide +kernel)
theorem cd_X7_begin : (Cond.code yX7_begin cX7_begin 1 (some FieldType.int) : Cond) ∈ TB := tb_of 724 (by decide +kernel) (by decide +kernel)
theorem ml_X7_80 : (Cond.methodLink RX7 80 yX7_follows : Cond) ∈ TB := tb_of 725 (by decide +kernel) (by decide +kernel)
theorem im_X7_follows : (Cond.instanceMethod yX7_follows : Cond) ∈ TB := tb_of 727 (by decide +kernel) (by decide +kernel)
theorem cd_X7_follows : (Cond.code yX7_follows cX7_follows 8 none : Cond) ∈ TB := tb_of 728 (by decide +kernel) (by decide +kernel)
theorem ml_X7_51 : (Cond.methodLink RX7 51 yX7_around : Cond) ∈ TB := tb_of 729 (by decide +kernel) (by decide +kernel)
theorem st_X7_around : (Cond.static yX7_around : Cond) ∈ TB := tb_of 730 (by decide +kernel) (by decide +kernel)
theorem cd_X7_around : (Cond.code yX7_around cX7_around 3 (some FieldType.int) : Cond) ∈ TB := tb_of 731 (by decide +kernel) (by decide +kernel)
theorem ml_L_36 : (Cond.methodLink RL 36 yX7_claim : Cond) ∈ TB := tb_of 732 (by decide +kernel) (by decide +kernel)
theorem im_X7_claim : (Cond.instanceMethod yX7_claim : Cond) ∈ TB := tb_of 733 (by decide +kernel) (by decide +kernel)
theorem sel_X7_claim : (Cond.selects RX7 yX7_claim yX7_claim : Cond) ∈ TB := tb_of 734 (by decide +kernel) (by decide +kernel)
theorem cd_X7_claim : (Cond.code yX7_claim cX7_claim 5 (some FieldType.int) : Cond) ∈ TB := tb_of 735 (by decide +kernel) (by decide +kernel)
theorem ml_X7_97 : (Cond.methodLink RX7 97 yX7_barClaim : Cond) ∈ TB := tb_of 736 (by decide +kernel) (by decide +kernel)
theorem im_X7_barClaim : (Cond.instanceMethod yX7_barClaim : Cond) ∈ TB := tb_of 738 (by decide +kernel) (by decide +kernel)
theorem cd_X7_barClaim : (Cond.code yX7_barClaim cX7_barClaim 4 (some FieldType.int) : Cond) ∈ TB := tb_of 739 (by decide +kernel) (by decide +kernel)
theorem ml_X7_84 : (Cond.methodLink RX7 84 yX7_goes : Cond) ∈ TB := tb_of 740 (by decide +kernel) (by decide +kernel)
theorem im_X7_goes : (Cond.instanceMethod yX7_goes : Cond) ∈ TB := tb_of 742 (by decide +kernel) (by decide +kernel)
theorem cd_X7_goes : (Cond.code yX7_goes cX7_goes 1 (some FieldType.boolean) : Cond) ∈ TB := tb_of 743 (by decide +kernel) (by decide +kernel)
theorem ml_X7_101 : (Cond.methodLink RX7 101 yX7_says : Cond) ∈ TB := tb_of 744 (by decide +kernel) (by decide +kernel)
theorem im_X7_says : (Cond.instanceMethod yX7_says : Cond) ∈ TB := tb_of 746 (by decide +kernel) (by decide +kernel)
theorem cd_X7_says : (Cond.code yX7_says cX7_says 6 (some FieldType.int) : Cond) ∈ TB := tb_of 747 (by decide +kernel) (by decide +kernel)
theorem ml_X7_87 : (Cond.methodLink RX7 87 yX7_turn : Cond) ∈ TB := tb_of 748 (by decide +kernel) (by decide +kernel)
theorem im_X7_turn : (Cond.instanceMethod yX7_turn : Cond) ∈ TB := tb_of 750 (by decide +kernel) (by decide +kernel)
theorem cd_X7_turn : (Cond.code yX7_turn cX7_turn 1 (some FieldType.int) : Cond) ∈ TB := tb_of 751 (by decide +kernel) (by decide +kernel)
theorem ml_X7_91 : (Cond.methodLink RX7 91 yX7_ends : Cond) ∈ TB := tb_of 752 (by decide +kernel) (by decide +kernel)
theorem im_X7_ends : (Cond.instanceMethod yX7_ends : Cond) ∈ TB := tb_of 754 (by decide +kernel) (by decide +kernel)
theorem cd_X7_ends : (Cond.code yX7_ends cX7_ends 1 none : Cond) ∈ TB := tb_of 755 (by decide +kernel) (by decide +kernel)
theorem ml_X7_94 : (Cond.methodLink RX7 94 yX7_claims : Cond) ∈ TB := tb_of 756 (by decide +kernel) (by decide +kernel)
theorem im_X7_claims : (Cond.instanceMethod yX7_claims : Cond) ∈ TB := tb_of 758 (by decide +kernel) (by decide +kernel)
theorem cd_X7_claims : (Cond.code yX7_claims cX7_claims 2 (some FieldType.int) : Cond) ∈ TB := tb_of 759 (by decide +kernel) (by decide +kernel)
theorem ml_L_40 : (Cond.methodLink RL 40 yX7_check : Cond) ∈ TB := tb_of 760 (by decide +kernel) (by decide +kernel)
theorem im_X7_check : (Cond.instanceMethod yX7_check : Cond) ∈ TB := tb_of 761 (by decide +kernel) (by decide +kernel)
theorem sel_X7_check : (Cond.selects RX7 yX7_check yX7_check : Cond) ∈ TB := tb_of 762 (by decide +kernel) (by decide +kernel)
theorem cd_X7_check : (Cond.code yX7_check cX7_check 5 (some FieldType.int) : Cond) ∈ TB := tb_of 763 (by decide +kernel) (by decide +kernel)
theorem ml_X7_115 : (Cond.methodLink RX7 115 yX7_barCheck : Cond) ∈ TB := tb_of 764 (by decide +kernel) (by decide +kernel)
theorem im_X7_barCheck : (Cond.instanceMethod yX7_barCheck : Cond) ∈ TB := tb_of 766 (by decide +kernel) (by decide +kernel)
theorem cd_X7_barCheck : (Cond.code yX7_barCheck cX7_barCheck 5 (some FieldType.int) : Cond) ∈ TB := tb_of 767 (by decide +kernel) (by decide +kernel)
theorem ml_X7_104 : (Cond.methodLink RX7 104 yX7_isPlayer : Cond) ∈ TB := tb_of 768 (by decide +kernel) (by decide +kernel)
theorem st_X7_isPlayer : (Cond.static yX7_isPlayer : Cond) ∈ TB := tb_of 769 (by decide +kernel) (by decide +kernel)
theorem cd_X7_isPlayer : (Cond.code yX7_isPlayer cX7_isPlayer 1 (some FieldType.boolean) : Cond) ∈ TB := tb_of 770 (by decide +kernel) (by decide +kernel)
theorem ml_X7_118 : (Cond.methodLink RX7 118 yX7_checks : Cond) ∈ TB := tb_of 771 (by decide +kernel) (by decide +kernel)
theorem im_X7_checks : (Cond.instanceMethod yX7_checks : Cond) ∈ TB := tb_of 773 (by decide +kernel) (by decide +kernel)
theorem cd_X7_checks : (Cond.code yX7_checks cX7_checks 7 (some FieldType.int) : Cond) ∈ TB := tb_of 774 (by decide +kernel) (by decide +kernel)
theorem ml_X7_111 : (Cond.methodLink RX7 111 yX7_pays : Cond) ∈ TB := tb_of 775 (by decide +kernel) (by decide +kernel)
theorem im_X7_pays : (Cond.instanceMethod yX7_pays : Cond) ∈ TB := tb_of 777 (by decide +kernel) (by decide +kernel)
theorem cd_X7_pays : (Cond.code yX7_pays cX7_pays 5 none : Cond) ∈ TB := tb_of 778 (by decide +kernel) (by decide +kernel)
theorem ml_X7_107 : (Cond.methodLink RX7 107 yX7_gets : Cond) ∈ TB := tb_of 779 (by decide +kernel) (by decide +kernel)
theorem im_X7_gets : (Cond.instanceMethod yX7_gets : Cond) ∈ TB := tb_of 781 (by decide +kernel) (by decide +kernel)
theorem cd_X7_gets : (Cond.code yX7_gets cX7_gets 3 none : Cond) ∈ TB := tb_of 782 (by decide +kernel) (by decide +kernel)
theorem ml_L_44 : (Cond.methodLink RL 44 yX7_dig : Cond) ∈ TB := tb_of 783 (by decide +kernel) (by decide +kernel)
theorem im_X7_dig : (Cond.instanceMethod yX7_dig : Cond) ∈ TB := tb_of 784 (by decide +kernel) (by decide +kernel)
theorem sel_X7_dig : (Cond.selects RX7 yX7_dig yX7_dig : Cond) ∈ TB := tb_of 785 (by decide +kernel) (by decide +kernel)
theorem cd_X7_dig : (Cond.code yX7_dig cX7_dig 3 (some FieldType.int) : Cond) ∈ TB := tb_of 786 (by decide +kernel) (by decide +kernel)
theorem ml_X7_124 : (Cond.methodLink RX7 124 yX7_barDig : Cond) ∈ TB := tb_of 787 (by decide +kernel) (by decide +kernel)
theorem im_X7_barDig : (Cond.instanceMethod yX7_barDig : Cond) ∈ TB := tb_of 789 (by decide +kernel) (by decide +kernel)
theorem cd_X7_barDig : (Cond.code yX7_barDig cX7_barDig 2 (some FieldType.int) : Cond) ∈ TB := tb_of 790 (by decide +kernel) (by decide +kernel)
theorem ml_X7_127 : (Cond.methodLink RX7 127 yX7_digs : Cond) ∈ TB := tb_of 791 (by decide +kernel) (by decide +kernel)
theorem im_X7_digs : (Cond.instanceMethod yX7_digs : Cond) ∈ TB := tb_of 793 (by decide +kernel) (by decide +kernel)
theorem cd_X7_digs : (Cond.code yX7_digs cX7_digs 4 (some FieldType.int) : Cond) ∈ TB := tb_of 794 (by decide +kernel) (by decide +kernel)
theorem ml_X7_121 : (Cond.methodLink RX7 121 yX7_measures : Cond) ∈ TB := tb_of 795 (by decide +kernel) (by decide +kernel)
theorem im_X7_measures : (Cond.instanceMethod yX7_measures : Cond) ∈ TB := tb_of 797 (by decide +kernel) (by decide +kernel)
theorem cd_X7_measures : (Cond.code yX7_measures cX7_measures 7 none : Cond) ∈ TB := tb_of 798 (by decide +kernel) (by decide +kernel)
theorem ml_L_48 : (Cond.methodLink RL 48 yX7_pass : Cond) ∈ TB := tb_of 799 (by decide +kernel) (by decide +kernel)
theorem im_X7_pass : (Cond.instanceMethod yX7_pass : Cond) ∈ TB := tb_of 800 (by decide +kernel) (by decide +kernel)
theorem sel_X7_pass : (Cond.selects RX7 yX7_pass yX7_pass : Cond) ∈ TB := tb_of 801 (by decide +kernel) (by decide +kernel)
theorem cd_X7_pass : (Cond.code yX7_pass cX7_pass 1 (some FieldType.int) : Cond) ∈ TB := tb_of 802 (by decide +kernel) (by decide +kernel)
theorem ml_L_52 : (Cond.methodLink RL 52 yX7_ofRoad : Cond) ∈ TB := tb_of 803 (by decide +kernel) (by decide +kernel)
theorem im_X7_ofRoad : (Cond.instanceMethod yX7_ofRoad : Cond) ∈ TB := tb_of 804 (by decide +kernel) (by decide +kernel)
theorem sel_X7_ofRoad : (Cond.selects RX7 yX7_ofRoad yX7_ofRoad : Cond) ∈ TB := tb_of 805 (by decide +kernel) (by decide +kernel)
theorem cd_X7_ofRoad : (Cond.code yX7_ofRoad cX7_ofRoad 6 (some FieldType.int) : Cond) ∈ TB := tb_of 806 (by decide +kernel) (by decide +kernel)
theorem ml_X7_130 : (Cond.methodLink RX7 130 yX7_barPair : Cond) ∈ TB := tb_of 807 (by decide +kernel) (by decide +kernel)
theorem st_X7_barPair : (Cond.static yX7_barPair : Cond) ∈ TB := tb_of 808 (by decide +kernel) (by decide +kernel)
theorem cd_X7_barPair : (Cond.code yX7_barPair cX7_barPair 2 (some FieldType.int) : Cond) ∈ TB := tb_of 809 (by decide +kernel) (by decide +kernel)
theorem ml_X7_133 : (Cond.methodLink RX7 133 yX7_seen : Cond) ∈ TB := tb_of 810 (by decide +kernel) (by decide +kernel)
theorem im_X7_seen : (Cond.instanceMethod yX7_seen : Cond) ∈ TB := tb_of 812 (by decide +kernel) (by decide +kernel)
theorem cd_X7_seen : (Cond.code yX7_seen cX7_seen 2 (some FieldType.int) : Cond) ∈ TB := tb_of 813 (by decide +kernel) (by decide +kernel)
theorem ml_X7_136 : (Cond.methodLink RX7 136 yX7_claimers : Cond) ∈ TB := tb_of 814 (by decide +kernel) (by decide +kernel)
theorem im_X7_claimers : (Cond.instanceMethod yX7_claimers : Cond) ∈ TB := tb_of 816 (by decide +kernel) (by decide +kernel)
theorem cd_X7_claimers : (Cond.code yX7_claimers cX7_claimers 5 (some FieldType.int) : Cond) ∈ TB := tb_of 817 (by decide +kernel) (by decide +kernel)
theorem ml_L_56 : (Cond.methodLink RL 56 yX7_knows : Cond) ∈ TB := tb_of 818 (by decide +kernel) (by decide +kernel)
theorem im_X7_knows : (Cond.instanceMethod yX7_knows : Cond) ∈ TB := tb_of 819 (by decide +kernel) (by decide +kernel)
theorem sel_X7_knows : (Cond.selects RX7 yX7_knows yX7_knows : Cond) ∈ TB := tb_of 820 (by decide +kernel) (by decide +kernel)
theorem cd_X7_knows : (Cond.code yX7_knows cX7_knows 6 (some FieldType.int) : Cond) ∈ TB := tb_of 821 (by decide +kernel) (by decide +kernel)
theorem ml_L_60 : (Cond.methodLink RL 60 yX7_player : Cond) ∈ TB := tb_of 822 (by decide +kernel) (by decide +kernel)
theorem im_X7_player : (Cond.instanceMethod yX7_player : Cond) ∈ TB := tb_of 823 (by decide +kernel) (by decide +kernel)
theorem sel_X7_player : (Cond.selects RX7 yX7_player yX7_player : Cond) ∈ TB := tb_of 824 (by decide +kernel) (by decide +kernel)
theorem cd_X7_player : (Cond.code yX7_player cX7_player 3 (some FieldType.int) : Cond) ∈ TB := tb_of 825 (by decide +kernel) (by decide +kernel)
theorem ml_X7_139 : (Cond.methodLink RX7 139 yX7_shown : Cond) ∈ TB := tb_of 826 (by decide +kernel) (by decide +kernel)
theorem im_X7_shown : (Cond.instanceMethod yX7_shown : Cond) ∈ TB := tb_of 828 (by decide +kernel) (by decide +kernel)
theorem cd_X7_shown : (Cond.code yX7_shown cX7_shown 2 (some FieldType.int) : Cond) ∈ TB := tb_of 829 (by decide +kernel) (by decide +kernel)
theorem ml_X7_142 : (Cond.methodLink RX7 142 yX7_third : Cond) ∈ TB := tb_of 830 (by decide +kernel) (by decide +kernel)
theorem st_X7_third : (Cond.static yX7_third : Cond) ∈ TB := tb_of 831 (by decide +kernel) (by decide +kernel)
theorem cd_X7_third : (Cond.code yX7_third cX7_third 3 (some FieldType.int) : Cond) ∈ TB := tb_of 832 (by decide +kernel) (by decide +kernel)
theorem ml_L_64 : (Cond.methodLink RL 64 yX7_place : Cond) ∈ TB := tb_of 833 (by decide +kernel) (by decide +kernel)
theorem im_X7_place : (Cond.instanceMethod yX7_place : Cond) ∈ TB := tb_of 834 (by decide +kernel) (by decide +kernel)
theorem sel_X7_place : (Cond.selects RX7 yX7_place yX7_place : Cond) ∈ TB := tb_of 835 (by decide +kernel) (by decide +kernel)
theorem cd_X7_place : (Cond.code yX7_place cX7_place 3 (some FieldType.int) : Cond) ∈ TB := tb_of 836 (by decide +kernel) (by decide +kernel)
theorem ml_X7_145 : (Cond.methodLink RX7 145 yX7_told : Cond) ∈ TB := tb_of 837 (by decide +kernel) (by decide +kernel)
theorem im_X7_told : (Cond.instanceMethod yX7_told : Cond) ∈ TB := tb_of 839 (by decide +kernel) (by decide +kernel)
theorem cd_X7_told : (Cond.code yX7_told cX7_told 3 (some FieldType.int) : Cond) ∈ TB := tb_of 840 (by decide +kernel) (by decide +kernel)
theorem ml_X7_148 : (Cond.methodLink RX7 148 yX7_neighbours : Cond) ∈ TB := tb_of 841 (by decide +kernel) (by decide +kernel)
theorem im_X7_neighbours : (Cond.instanceMethod yX7_neighbours : Cond) ∈ TB := tb_of 843 (by decide +kernel) (by decide +kernel)
theorem cd_X7_neighbours : (Cond.code yX7_neighbours cX7_neighbours 4 (some FieldType.int) : Cond) ∈ TB := tb_of 844 (by decide +kernel) (by decide +kernel)
theorem ml_L_68 : (Cond.methodLink RL 68 yX7_dug : Cond) ∈ TB := tb_of 845 (by decide +kernel) (by decide +kernel)
theorem im_X7_dug : (Cond.instanceMethod yX7_dug : Cond) ∈ TB := tb_of 846 (by decide +kernel) (by decide +kernel)
theorem sel_X7_dug : (Cond.selects RX7 yX7_dug yX7_dug : Cond) ∈ TB := tb_of 847 (by decide +kernel) (by decide +kernel)
theorem cd_X7_dug : (Cond.code yX7_dug cX7_dug 2 (some FieldType.int) : Cond) ∈ TB := tb_of 848 (by decide +kernel) (by decide +kernel)
theorem ml_L_72 : (Cond.methodLink RL 72 yX7_count : Cond) ∈ TB := tb_of 849 (by decide +kernel) (by decide +kernel)
theorem im_X7_count : (Cond.instanceMethod yX7_count : Cond) ∈ TB := tb_of 850 (by decide +kernel) (by decide +kernel)
theorem sel_X7_count : (Cond.selects RX7 yX7_count yX7_count : Cond) ∈ TB := tb_of 851 (by decide +kernel) (by decide +kernel)
theorem cd_X7_count : (Cond.code yX7_count cX7_count 2 (some FieldType.int) : Cond) ∈ TB := tb_of 852 (by decide +kernel) (by decide +kernel)
theorem ml_L_76 : (Cond.methodLink RL 76 yX7_canBe : Cond) ∈ TB := tb_of 853 (by decide +kernel) (by decide +kernel)
theorem im_X7_canBe : (Cond.instanceMethod yX7_canBe : Cond) ∈ TB := tb_of 854 (by decide +kernel) (by decide +kernel)
theorem sel_X7_canBe : (Cond.selects RX7 yX7_canBe yX7_canBe : Cond) ∈ TB := tb_of 855 (by decide +kernel) (by decide +kernel)
theorem cd_X7_canBe : (Cond.code yX7_canBe cX7_canBe 4 (some FieldType.int) : Cond) ∈ TB := tb_of 856 (by decide +kernel) (by decide +kernel)
theorem ml_L_80 : (Cond.methodLink RL 80 yX7_shows : Cond) ∈ TB := tb_of 857 (by decide +kernel) (by decide +kernel)
theorem im_X7_shows : (Cond.instanceMethod yX7_shows : Cond) ∈ TB := tb_of 858 (by decide +kernel) (by decide +kernel)
theorem sel_X7_shows : (Cond.selects RX7 yX7_shows yX7_shows : Cond) ∈ TB := tb_of 859 (by decide +kernel) (by decide +kernel)
theorem cd_X7_shows : (Cond.code yX7_shows cX7_shows 4 (some FieldType.int) : Cond) ∈ TB := tb_of 860 (by decide +kernel) (by decide +kernel)
theorem ml_X7_154 : (Cond.methodLink RX7 154 yX7_more : Cond) ∈ TB := tb_of 861 (by decide +kernel) (by decide +kernel)
theorem im_X7_more : (Cond.instanceMethod yX7_more : Cond) ∈ TB := tb_of 863 (by decide +kernel) (by decide +kernel)
theorem cd_X7_more : (Cond.code yX7_more cX7_more 3 (some FieldType.int) : Cond) ∈ TB := tb_of 864 (by decide +kernel) (by decide +kernel)
theorem ml_L_84 : (Cond.methodLink RL 84 yX7_bestShow : Cond) ∈ TB := tb_of 865 (by decide +kernel) (by decide +kernel)
theorem im_X7_bestShow : (Cond.instanceMethod yX7_bestShow : Cond) ∈ TB := tb_of 866 (by decide +kernel) (by decide +kernel)
theorem sel_X7_bestShow : (Cond.selects RX7 yX7_bestShow yX7_bestShow : Cond) ∈ TB := tb_of 867 (by decide +kernel) (by decide +kernel)
theorem cd_X7_bestShow : (Cond.code yX7_bestShow cX7_bestShow 6 (some FieldType.int) : Cond) ∈ TB := tb_of 868 (by decide +kernel) (by decide +kernel)
theorem ml_L_88 : (Cond.methodLink RL 88 yX7_knownWay : Cond) ∈ TB := tb_of 869 (by decide +kernel) (by decide +kernel)
theorem im_X7_knownWay : (Cond.instanceMethod yX7_knownWay : Cond) ∈ TB := tb_of 870 (by decide +kernel) (by decide +kernel)
theorem sel_X7_knownWay : (Cond.selects RX7 yX7_knownWay yX7_knownWay : Cond) ∈ TB := tb_of 871 (by decide +kernel) (by decide +kernel)
theorem cd_X7_knownWay : (Cond.code yX7_knownWay cX7_knownWay 3 (some FieldType.int) : Cond) ∈ TB := tb_of 872 (by decide +kernel) (by decide +kernel)
theorem ml_L_95 : (Cond.methodLink RL 95 yX7_put : Cond) ∈ TB := tb_of 873 (by decide +kernel) (by decide +kernel)
theorem im_X7_put : (Cond.instanceMethod yX7_put : Cond) ∈ TB := tb_of 874 (by decide +kernel) (by decide +kernel)
theorem sel_X7_put : (Cond.selects RX7 yX7_put yX7_put : Cond) ∈ TB := tb_of 875 (by decide +kernel) (by decide +kernel)
theorem cd_X7_put : (Cond.code yX7_put cX7_put 7 (some FieldType.int) : Cond) ∈ TB := tb_of 876 (by decide +kernel) (by decide +kernel)
theorem kc_X7_157 : (Cond.constantLong RX7 157 (255) : Cond) ∈ TB := tb_of 877 (by decide +kernel) (by decide +kernel)
theorem ml_L_99 : (Cond.methodLink RL 99 yX7_wipe : Cond) ∈ TB := tb_of 878 (by decide +kernel) (by decide +kernel)
theorem im_X7_wipe : (Cond.instanceMethod yX7_wipe : Cond) ∈ TB := tb_of 879 (by decide +kernel) (by decide +kernel)
theorem sel_X7_wipe : (Cond.selects RX7 yX7_wipe yX7_wipe : Cond) ∈ TB := tb_of 880 (by decide +kernel) (by decide +kernel)
theorem cd_X7_wipe : (Cond.code yX7_wipe cX7_wipe 2 (some FieldType.int) : Cond) ∈ TB := tb_of 881 (by decide +kernel) (by decide +kernel)
theorem ml_L_103 : (Cond.methodLink RL 103 yX7_fault : Cond) ∈ TB := tb_of 882 (by decide +kernel) (by decide +kernel)
theorem im_X7_fault : (Cond.instanceMethod yX7_fault : Cond) ∈ TB := tb_of 883 (by decide +kernel) (by decide +kernel)
theorem sel_X7_fault : (Cond.selects RX7 yX7_fault yX7_fault : Cond) ∈ TB := tb_of 884 (by decide +kernel) (by decide +kernel)
theorem cd_X7_fault : (Cond.code yX7_fault cX7_fault 1 (some FieldType.int) : Cond) ∈ TB := tb_of 885 (by decide +kernel) (by decide +kernel)
theorem ml_X7_184 : (Cond.methodLink RX7 184 yX7_isWhole : Cond) ∈ TB := tb_of 886 (by decide +kernel) (by decide +kernel)
theorem im_X7_isWhole : (Cond.instanceMethod yX7_isWhole : Cond) ∈ TB := tb_of 888 (by decide +kernel) (by decide +kernel)
theorem cd_X7_isWhole : (Cond.code yX7_isWhole cX7_isWhole 3 (some FieldType.boolean) : Cond) ∈ TB := tb_of 889 (by decide +kernel) (by decide +kernel)
theorem ml_X7_181 : (Cond.methodLink RX7 181 yX7_order : Cond) ∈ TB := tb_of 890 (by decide +kernel) (by decide +kernel)
theorem im_X7_order : (Cond.instanceMethod yX7_order : Cond) ∈ TB := tb_of 892 (by decide +kernel) (by decide +kernel)
theorem cd_X7_order : (Cond.code yX7_order cX7_order 3 none : Cond) ∈ TB := tb_of 893 (by decide +kernel) (by decide +kernel)
theorem ml_X7_169 : (Cond.methodLink RX7 169 yX7_within : Cond) ∈ TB := tb_of 894 (by decide +kernel) (by decide +kernel)
theorem im_X7_within : (Cond.instanceMethod yX7_within : Cond) ∈ TB := tb_of 896 (by decide +kernel) (by decide +kernel)
theorem cd_X7_within : (Cond.code yX7_within cX7_within 4 (some FieldType.int) : Cond) ∈ TB := tb_of 897 (by decide +kernel) (by decide +kernel)
theorem ml_L_107 : (Cond.methodLink RL 107 yX7_carryOut : Cond) ∈ TB := tb_of 898 (by decide +kernel) (by decide +kernel)
theorem im_X7_carryOut : (Cond.instanceMethod yX7_carryOut : Cond) ∈ TB := tb_of 899 (by decide +kernel) (by decide +kernel)
theorem sel_X7_carryOut : (Cond.selects RX7 yX7_carryOut yX7_carryOut : Cond) ∈ TB := tb_of 900 (by decide +kernel) (by decide +kernel)
theorem cd_X7_carryOut : (Cond.code yX7_carryOut cX7_carryOut 4 (some FieldType.int) : Cond) ∈ TB := tb_of 901 (by decide +kernel) (by decide +kernel)
theorem ml_X7_187 : (Cond.methodLink RX7 187 yX7_bar : Cond) ∈ TB := tb_of 902 (by decide +kernel) (by decide +kernel)
theorem im_X7_bar : (Cond.instanceMethod yX7_bar : Cond) ∈ TB := tb_of 904 (by decide +kernel) (by decide +kernel)
theorem cd_X7_bar : (Cond.code yX7_bar cX7_bar 1 (some FieldType.int) : Cond) ∈ TB := tb_of 905 (by decide +kernel) (by decide +kernel)
theorem ml_X7_190 : (Cond.methodLink RX7 190 yX7_does : Cond) ∈ TB := tb_of 906 (by decide +kernel) (by decide +kernel)
theorem im_X7_does : (Cond.instanceMethod yX7_does : Cond) ∈ TB := tb_of 908 (by decide +kernel) (by decide +kernel)
theorem cd_X7_does : (Cond.code yX7_does cX7_does 1 (some FieldType.int) : Cond) ∈ TB := tb_of 909 (by decide +kernel) (by decide +kernel)
theorem ml_L_111 : (Cond.methodLink RL 111 yX7_undo : Cond) ∈ TB := tb_of 910 (by decide +kernel) (by decide +kernel)
theorem im_X7_undo : (Cond.instanceMethod yX7_undo : Cond) ∈ TB := tb_of 911 (by decide +kernel) (by decide +kernel)
theorem sel_X7_undo : (Cond.selects RX7 yX7_undo yX7_undo : Cond) ∈ TB := tb_of 912 (by decide +kernel) (by decide +kernel)
theorem cd_X7_undo : (Cond.code yX7_undo cX7_undo 2 (some FieldType.int) : Cond) ∈ TB := tb_of 913 (by decide +kernel) (by decide +kernel)
theorem ml_L_115 : (Cond.methodLink RL 115 yX7_save : Cond) ∈ TB := tb_of 914 (by decide +kernel) (by decide +kernel)
theorem im_X7_save : (Cond.instanceMethod yX7_save : Cond) ∈ TB := tb_of 915 (by decide +kernel) (by decide +kernel)
theorem sel_X7_save : (Cond.selects RX7 yX7_save yX7_save : Cond) ∈ TB := tb_of 916 (by decide +kernel) (by decide +kernel)
theorem cd_X7_save : (Cond.code yX7_save cX7_save 3 (some FieldType.int) : Cond) ∈ TB := tb_of 917 (by decide +kernel) (by decide +kernel)
theorem ml_L_119 : (Cond.methodLink RL 119 yX7_restore : Cond) ∈ TB := tb_of 918 (by decide +kernel) (by decide +kernel)
theorem im_X7_restore : (Cond.instanceMethod yX7_restore : Cond) ∈ TB := tb_of 919 (by decide +kernel) (by decide +kernel)
theorem sel_X7_restore : (Cond.selects RX7 yX7_restore yX7_restore : Cond) ∈ TB := tb_of 920 (by decide +kernel) (by decide +kernel)
theorem cd_X7_restore : (Cond.code yX7_restore cX7_restore 3 (some FieldType.int) : Cond) ∈ TB := tb_of 921 (by decide +kernel) (by decide +kernel)
theorem kc_L_89 : (Cond.constantLong RL 89 (4294967295) : Cond) ∈ TB := tb_of 922 (by decide +kernel) (by decide +kernel)
end
section
/-! An abstract machine over the kit's rows: cells have numbers (0, 1, ..), references in cells, locals and on the stack are such numbers; 'ad' gives each number its address. -/
def cV (ad : Nat → Nat) (v : Value) : Value := match v with
  | .ref k => .ref (ad k)
  | v => v
def cA (cy : Nat → ClassId) (ad : Nat → Nat) (t : Nat) (x : vp_A) : ClassId × vp_A := match x with
  | (n, .inr (.inr (.inr (.inr f)))) => (cy t, n, .inr (.inr (.inr (.inr (fun i => (f i).map ad)))))
  | (n, y) => (cy t, n, y)
def cE (cy : Nat → ClassId) (ad : Nat → Nat) (e : va_E) : va_E := match e with
  | .inr o => .inr (o.1, o.2.map (cV ad))
  | .inl a => .inl (cA cy ad a.1 a.2)
theorem cV_cat (ad : Nat → Nat) (v : Value) : (cV ad v).category = v.category := by cases v <;> rfl
theorem cV_cats (ad : Nat → Nat) (st : List Value) : ((st.map (cV ad)).map fun v => v.category) = st.map fun v => v.category := by
  rw [List.map_map]
  exact List.map_congr_left fun v _ => cV_cat ad v
theorem cV_comp (ad ρ : Nat → Nat) (v : Value) : cV ad (cV ρ v) = cV (fun i => ad (ρ i)) v := by cases v <;> rfl
/-- the cells 0 .. n-1 -/
def wd (cy : Nat → ClassId) (ad : Nat → Nat) (n : Nat) (g : Nat → va_E) : va_W := (List.range n).map (fun k => (ad k, cE cy ad (g k)))
theorem wd_at {cy : Nat → ClassId} {ad : Nat → Nat} {n : Nat} {g : Nat → va_E} {k : Nat} (h : k < n) : (wd cy ad n g)[k]? = some (ad k, cE cy ad (g k)) := by
  simp [wd, List.getElem?_map, List.getElem?_range h]
theorem wd_inv {cy : Nat → ClassId} {ad : Nat → Nat} {n : Nat} {g : Nat → va_E} {k : Nat} {q : Nat × va_E} (h : (wd cy ad n g)[k]? = some q) : k < n ∧ q = (ad k, cE cy ad (g k)) := by
  have hk : k < n := by
    have h1 := (List.getElem?_eq_some_iff.mp h).1
    simpa [wd] using h1
  rw [wd_at hk] at h
  exact ⟨hk, (Option.some.inj h).symm⟩
theorem wd_len (cy : Nat → ClassId) (ad : Nat → Nat) (n : Nat) (g : Nat → va_E) : (wd cy ad n g).length = n := by simp [wd]
theorem wd_set {cy : Nat → ClassId} {ad : Nat → Nat} {n : Nat} {g : Nat → va_E} {k : Nat} {e : va_E} (h : k < n) : (wd cy ad n g).set k (ad k, cE cy ad e) = wd cy ad n (va_up g k e) := by
  apply List.ext_getElem?
  intro j
  by_cases hj : j < n
  · by_cases hjk : j = k
    · subst hjk
      rw [List.getElem?_set_self (by rw [wd_len]; exact h), wd_at h, va_up_self]
    · rw [List.getElem?_set_ne (Ne.symm hjk), wd_at hj, wd_at hj, va_up_ne _ _ hjk]
  · rw [List.getElem?_eq_none (by rw [List.length_set, wd_len]; omega), List.getElem?_eq_none (by rw [wd_len]; omega)]
def aI (ad : Nat → Nat) (n : Nat) : Prop := ∀ i j : Nat, i < n → j < n → ad i = ad j → i = j
theorem wd_D {cy : Nat → ClassId} {ad : Nat → Nat} {n : Nat} {g : Nat → va_E} {A : Nat → Prop} (hI : aI ad n) (hA : ∀ k : Nat, k < n → A (ad k)) : va_D A (wd cy ad n g) := by
  refine ⟨fun i j p q hi hj h => ?_, fun k q hk => ?_⟩
  · obtain ⟨a1, a2⟩ := wd_inv hi
    obtain ⟨b1, b2⟩ := wd_inv hj
    subst a2; subst b2
    exact hI i j a1 b1 h
  · obtain ⟨a1, a2⟩ := wd_inv hk
    subst a2
    exact hA k a1
/-- the addresses of the cells 0 .. n-1 -/
def AA (ad : Nat → Nat) (n : Nat) : Nat → Prop := fun q => ∃ k : Nat, k < n ∧ q = ad k
/-- locals, by their numbers -/
def asL (ad : Nat → Nat) : Nat → List (Option Value) → List (Nat × Value)
  | _, [] => []
  | i, some v :: t => (i, cV ad v) :: asL ad (i + 1) t
  | i, none :: t => asL ad (i + 1) t
theorem asL_mem {ad : Nat → Nat} : ∀ (L : List (Option Value)) (j : Nat) (q : Nat × Value), q ∈ asL ad j L ↔ ∃ (i : Nat) (v : Value), L[i]? = some (some v) ∧ q = (j + i, cV ad v)
  | [], j, q => by simp [asL]
  | some w :: t, j, q => by
    rw [asL, List.mem_cons, asL_mem t (j + 1) q]
    constructor
    · rintro (h | ⟨i, v, h1, h2⟩)
      · exact ⟨0, w, rfl, h⟩
      · exact ⟨i + 1, v, h1, by rw [h2]; congr 1; omega⟩
    · rintro ⟨i, v, h1, h2⟩
      cases i with
      | zero => simp at h1; subst h1; exact Or.inl h2
      | succ i => exact Or.inr ⟨i, v, by simpa using h1, by rw [h2]; congr 1; omega⟩
  | none :: t, j, q => by
    rw [asL, asL_mem t (j + 1) q]
    constructor
    · rintro ⟨i, v, h1, h2⟩
      exact ⟨i + 1, v, h1, by rw [h2]; congr 1; omega⟩
    · rintro ⟨i, v, h1, h2⟩
      cases i with
      | zero => simp at h1
      | succ i => exact ⟨i, v, by simpa using h1, by rw [h2]; congr 1; omega⟩
theorem lget {ad : Nat → Nat} {ls : Array Slot} {nL : Nat} {L : List (Option Value)} (h : lv_has ls nL (asL ad 0 L)) {i : Nat} {v : Value} (hv : L[i]? = some (some v)) : ls[i]? = some (.val (cV ad v)) :=
  h.2.2 (i, cV ad v) ((asL_mem L 0 _).mpr ⟨i, v, hv, by simp⟩)
/-- no long stands ahead of the place -/
def okst (L : List (Option Value)) : Nat → Bool
  | 0 => true
  | i + 1 => match L[i]? with
    | some (some v) => v.category == 1
    | _ => true
theorem lsto {ad : Nat → Nat} {ls : Array Slot} {nL : Nat} {L : List (Option Value)} {i : Nat} {v : Value} (h : lv_has ls nL ((i, cV ad v) :: (asL ad 0 L).filter (fun q => !(q.1 == i) && !(q.1 + 1 == i && q.2.category == 2)))) (ho : okst L i = true) : lv_has ls nL (asL ad 0 (L.set i (some v))) := by
  refine ⟨h.1, h.2.1, fun q hq => h.2.2 q ?_⟩
  obtain ⟨j, w, h1, h2⟩ := (asL_mem _ 0 q).mp hq
  by_cases hji : j = i
  · subst hji
    have hlt : j < L.length := by
      have := (List.getElem?_eq_some_iff.mp h1).1
      simpa using this
    rw [List.getElem?_set_self hlt] at h1
    have hw : v = w := by simpa using h1
    subst hw
    rw [h2]
    simp
  · rw [List.getElem?_set_ne (Ne.symm hji)] at h1
    refine List.mem_cons_of_mem _ (List.mem_filter.mpr ⟨(asL_mem L 0 q).mpr ⟨j, w, h1, h2⟩, ?_⟩)
    rw [h2]
    have e1 : (0 + j == i) = false := by simpa using hji
    by_cases hj1 : j + 1 = i
    · subst hj1
      have hc : w.category = 1 := by
        have ho2 : (match L[j]? with
          | some (some v) => v.category == 1
          | _ => true) = true := ho
        rw [h1] at ho2
        simpa using ho2
      simp [cV_cat, hc]
    · have e2 : (0 + j + 1 == i) = false := by simpa using hj1
      simp only [e1, e2]
      simp
/-- the array classes: of chars, ints, booleans, games -/
def tysA (cy : Nat → ClassId) : List (ClassId × FieldType) := [(cy 0, .char), (cy 1, .int), (cy 2, .boolean), (cy 3, .object RX0)]
/-- a static array of ints that nobody writes -/
def SA (C n : String) (N : Nat) (f : Nat → Int32) (A : Nat → Prop) (U : State) (H : Heap) : Prop := ∃ t : Nat, va_Z C n "[I" (.ref t) A U H ∧ va_T .int t N (fun j => .int (f j)) A U H
theorem SA.moved {C n : String} {N : Nat} {f : Nat → Int32} {A : Nat → Prop} {u U : State} {H : Heap} (hvm : u.vm.Alike U.vm) (h : SA C n N f A u H) : SA C n N f A U H := by
  obtain ⟨t, h1, h2⟩ := h
  exact ⟨t, h1.moved hvm, h2.moved hvm⟩
theorem SA.kept {C n : String} {N : Nat} {f : Nat → Int32} {A : Nat → Prop} {U : State} {H H1 : Heap} (h : SA C n N f A U H) (hq : ∀ a : Nat, a < H.size → ¬ A a → H1[a]? = H[a]?) : SA C n N f A U H1 := by
  obtain ⟨t, h1, h2⟩ := h
  exact ⟨t, h1.kept hq, h2.kept hq⟩
theorem SA.narrow {C n : String} {N : Nat} {f : Nat → Int32} {A B : Nat → Prop} {U : State} {H : Heap} (h : SA C n N f A U H) (hAB : ∀ q, B q → A q) : SA C n N f B U H := by
  obtain ⟨t, h1, h2⟩ := h
  exact ⟨t, h1.narrow hAB, h2.narrow hAB⟩
def k_first (j : Nat) : Int32 := if j = 0 then 2 else if j = 1 then 5 else if j = 2 then 4 else 40
def k_least (j : Nat) : Int32 := if j = 0 then 0 else if j = 1 then 1 else if j = 2 then 0 else 1
def k_most (j : Nat) : Int32 := if j = 0 then 20 else if j = 1 then 50 else if j = 2 then 50 else 200
def k_at (j : Nat) : Int32 := if j = 0 then 127 else if j = 1 then 8065 else if j = 2 then 254082 else if j = 3 then 3940612 else if j = 4 then 29639176 else if j = 5 then 105415696 else if j = 6 then 177276960 else 220336192
def nestW : List Cond := [.methodLinkNest RX6 25 yX2_init RX6, .methodLinkNest RX6 32 yX5_init RX6, .methodLinkNest RX0 118 yX6_isPlayer RX6, .methodLinkNest RX0 171 yX6_isIn RX6, .methodLinkNest RX0 21 yX4_init RX6, .methodLinkNest RX0 43 yX6_copyRow RX6]
/-- what stays: the static arrays, the links between nest mates, the class of arrays of games -/
def EN (A : Nat → Prop) (U : State) (H : Heap) : Prop := (SA RX0 "FIRST_SETTINGS" 4 k_first A U H ∧ SA RX0 "LEAST_SETTINGS" 4 k_least A U H ∧ SA RX0 "MOST_SETTINGS" 4 k_most A U H ∧ SA RX1 "ROADS_AT" 8 k_at A U H) ∧ (∀ w ∈ nestW, va_Nw w U) ∧ va_AO RX0 U
theorem EN.kept {A : Nat → Prop} {U : State} {H H1 : Heap} (h : EN A U H) (hq : ∀ a : Nat, a < H.size → ¬ A a → H1[a]? = H[a]?) : EN A U H1 := ⟨⟨h.1.1.kept hq, h.1.2.1.kept hq, h.1.2.2.1.kept hq, h.1.2.2.2.kept hq⟩, h.2⟩
theorem EN.narrow {A B : Nat → Prop} {U : State} {H : Heap} (h : EN A U H) (hAB : ∀ q, B q → A q) : EN B U H := ⟨⟨h.1.1.narrow hAB, h.1.2.1.narrow hAB, h.1.2.2.1.narrow hAB, h.1.2.2.2.narrow hAB⟩, h.2⟩
theorem EN.warm {A : Nat → Prop} {s U : State} {H : Heap} (hW : s.WarmedH U.vm) (h : EN A s H) : EN A U H := by
  have hvm := hW.alike
  refine ⟨⟨h.1.1.moved hvm, h.1.2.1.moved hvm, h.1.2.2.1.moved hvm, h.1.2.2.2.moved hvm⟩, fun w hw => ?_, va_AO.moved hvm h.2.2⟩
  have h1 := h.2.1 w hw
  simp only [nestW, List.mem_cons, List.not_mem_nil, or_false] at hw
  rcases hw with rfl | rfl | rfl | rfl | rfl | rfl <;> exact va_Nw.warmM hW h1
/-- what does not change in a method -/
def Cx (p : Program) (s : State) (m : MethodId) (args : Array Value) (meth : Method) (c : Code) (own : String) (cc : ByteArray) (nL : Nat) (D : va_G) (cy : Nat → ClassId) (A : Nat → Prop) : Prop :=
  p.tables.exec = Jvm.exec ∧ c.code = cc ∧ c.maxLocals = nL ∧ s.vm.findClass own = some m.cls ∧ (∀ w ∈ TB, w.before args s = true) ∧ meth.locks = false ∧ va_K D vwCl (tysA cy) s ∧ EN A s s.heap
abbrev XT : Type := State → Array Value → List Frame → Method → va_G → (Nat → ClassId) → (Nat → Prop) → (Nat → Nat) → (State → Prop) → Prop

def VS (l : Launch) (R : Room) (own : String) (cc : ByteArray) (nL : Nat) (X : XT) (cl sl n : Nat) (g : Nat → va_E) (pc : Nat) (L : List (Option Value)) (st : List Value) : Prop :=
  ∀ (p : Program) (e : Env) (s : State) (m : MethodId) (args : Array Value) (below : List Frame) (meth : Method) (c : Code) (D : va_G) (cy : Nat → ClassId) (A : Nat → Prop) (ad : Nat → Nat) (Q : State → Prop) (H : Heap) (locs : List Loc) (ls : Array Slot), Cx p s m args meth c own cc nL D cy A → X s args below meth D cy A ad Q → aI ad n → (∀ k : Nat, k < n → A (ad k)) → va_P D vwCl (wd cy ad n g) H → va_S A s.heap H locs → lv_has ls nL (asL ad 0 L) → W p l e R s m args below meth c H locs cl sl Q (F0 m pc ls (st.map (cV ad)))
section VSR
variable {l : Launch} {R : Room} {own : String} {cc : ByteArray} {nL : Nat} {X : XT} {cl sl n : Nat} {g : Nat → va_E} {pc : Nat} {L : List (Option Value)} {st : List Value}
theorem VS.iconst {z : Int} (v : Int32) (d : decode cc pc = .ok (.iconst z, 1)) (hv : Int32.ofInt z = v) (kk : VS l R own cc nL X cl sl n g  (pc + 1) L (.int v :: st)) : VS l R own cc nL X cl sl n g  pc L st := fun p e s m args below meth c D cy A ad Q H locs ls C0 x i a hP hS hl => lv_iconst C0.1 C0.2.1 d hv (kk p e s m args below meth c D cy A ad Q H locs ls C0 x i a hP hS hl)
theorem VS.bipush {z : Int} (v : Int32) (d : decode cc pc = .ok (.bipush z, 2)) (hv : (Int8.ofInt z).toInt32 = v) (kk : VS l R own cc nL X cl sl n g  (pc + 2) L (.int v :: st)) : VS l R own cc nL X cl sl n g  pc L st := fun p e s m args below meth c D cy A ad Q H locs ls C0 x i a hP hS hl => lv_bipush C0.1 C0.2.1 d hv (kk p e s m args below meth c D cy A ad Q H locs ls C0 x i a hP hS hl)
theorem VS.sipush {z : Int} (v : Int32) (d : decode cc pc = .ok (.sipush z, 3)) (hv : (Int16.ofInt z).toInt32 = v) (kk : VS l R own cc nL X cl sl n g  (pc + 3) L (.int v :: st)) : VS l R own cc nL X cl sl n g  pc L st := fun p e s m args below meth c D cy A ad Q H locs ls C0 x i a hP hS hl => lv_sipush C0.1 C0.2.1 d hv (kk p e s m args below meth c D cy A ad Q H locs ls C0 x i a hP hS hl)
theorem VS.lconst {z : Fin 2} (v : Int64) (d : decode cc pc = .ok (.lconst z, 1)) (hv : Int64.ofNat (z : Nat) = v) (kk : VS l R own cc nL X cl sl n g  (pc + 1) L (.long v :: st)) : VS l R own cc nL X cl sl n g  pc L st := fun p e s m args below meth c D cy A ad Q H locs ls C0 x i a hP hS hl => lv_lconst C0.1 C0.2.1 d hv (kk p e s m args below meth c D cy A ad Q H locs ls C0 x i a hP hS hl)
theorem VS.iload_n {k : Fin 4} {v : Int32} (d : decode cc pc = .ok (.iload_n k, 1)) (hv : L[(k : Nat)]? = some (some (.int v))) (kk : VS l R own cc nL X cl sl n g  (pc + 1) L (.int v :: st)) : VS l R own cc nL X cl sl n g  pc L st := fun p e s m args below meth c D cy A ad Q H locs ls C0 x i a hP hS hl => lv_iload_n C0.1 C0.2.1 d rfl (lget hl hv) (kk p e s m args below meth c D cy A ad Q H locs ls C0 x i a hP hS hl)
theorem VS.iload {k : Nat} {v : Int32} (d : decode cc pc = .ok (.iload k, 2)) (hv : L[k]? = some (some (.int v))) (kk : VS l R own cc nL X cl sl n g  (pc + 2) L (.int v :: st)) : VS l R own cc nL X cl sl n g  pc L st := fun p e s m args below meth c D cy A ad Q H locs ls C0 x i a hP hS hl => lv_iload C0.1 C0.2.1 d (lget hl hv) (kk p e s m args below meth c D cy A ad Q H locs ls C0 x i a hP hS hl)
theorem VS.lload_n {k : Fin 4} {v : Int64} (d : decode cc pc = .ok (.lload_n k, 1)) (hv : L[(k : Nat)]? = some (some (.long v))) (kk : VS l R own cc nL X cl sl n g  (pc + 1) L (.long v :: st)) : VS l R own cc nL X cl sl n g  pc L st := fun p e s m args below meth c D cy A ad Q H locs ls C0 x i a hP hS hl => lv_lload_n C0.1 C0.2.1 d rfl (lget hl hv) (kk p e s m args below meth c D cy A ad Q H locs ls C0 x i a hP hS hl)
theorem VS.lload {k : Nat} {v : Int64} (d : decode cc pc = .ok (.lload k, 2)) (hv : L[k]? = some (some (.long v))) (kk : VS l R own cc nL X cl sl n g  (pc + 2) L (.long v :: st)) : VS l R own cc nL X cl sl n g  pc L st := fun p e s m args below meth c D cy A ad Q H locs ls C0 x i a hP hS hl => lv_lload C0.1 C0.2.1 d (lget hl hv) (kk p e s m args below meth c D cy A ad Q H locs ls C0 x i a hP hS hl)
theorem VS.aload_n {k : Fin 4} {v : Nat} (d : decode cc pc = .ok (.aload_n k, 1)) (hv : L[(k : Nat)]? = some (some (.ref v))) (kk : VS l R own cc nL X cl sl n g  (pc + 1) L (.ref v :: st)) : VS l R own cc nL X cl sl n g  pc L st := fun p e s m args below meth c D cy A ad Q H locs ls C0 x i a hP hS hl => lv_aload_n C0.1 C0.2.1 d rfl (lget hl hv) (kk p e s m args below meth c D cy A ad Q H locs ls C0 x i a hP hS hl)
theorem VS.aload_nN {k : Fin 4} (d : decode cc pc = .ok (.aload_n k, 1)) (hv : L[(k : Nat)]? = some (some .null)) (kk : VS l R own cc nL X cl sl n g  (pc + 1) L (.null :: st)) : VS l R own cc nL X cl sl n g  pc L st := fun p e s m args below meth c D cy A ad Q H locs ls C0 x i a hP hS hl => lv_aload_nN C0.1 C0.2.1 d rfl (lget hl hv) (kk p e s m args below meth c D cy A ad Q H locs ls C0 x i a hP hS hl)
theorem VS.aload {k : Nat} {v : Nat} (d : decode cc pc = .ok (.aload k, 2)) (hv : L[k]? = some (some (.ref v))) (kk : VS l R own cc nL X cl sl n g  (pc + 2) L (.ref v :: st)) : VS l R own cc nL X cl sl n g  pc L st := fun p e s m args below meth c D cy A ad Q H locs ls C0 x i a hP hS hl => lv_aload C0.1 C0.2.1 d (lget hl hv) (kk p e s m args below meth c D cy A ad Q H locs ls C0 x i a hP hS hl)
theorem VS.istore_n {k : Fin 4} {v : Int32} (d : decode cc pc = .ok (.istore_n k, 1)) (hn : (k : Nat) < nL) (ho : okst L k = true) (kk : VS l R own cc nL X cl sl n g  (pc + 1) (L.set k (some (.int v))) st) : VS l R own cc nL X cl sl n g  pc L (.int v :: st) := fun p e s m args below meth c D cy A ad Q H locs ls C0 x i a hP hS hl => lv_istore_n C0.1 C0.2.1 d rfl hl hn rfl (fun ls hl2 => kk p e s m args below meth c D cy A ad Q H locs ls C0 x i a hP hS (lsto (v := .int v) hl2 ho))
theorem VS.istore {k : Nat} {v : Int32} (d : decode cc pc = .ok (.istore k, 2)) (hn : k < nL) (ho : okst L k = true) (kk : VS l R own cc nL X cl sl n g  (pc + 2) (L.set k (some (.int v))) st) : VS l R own cc nL X cl sl n g  pc L (.int v :: st) := fun p e s m args below meth c D cy A ad Q H locs ls C0 x i a hP hS hl => lv_istore C0.1 C0.2.1 d hl hn rfl (fun ls hl2 => kk p e s m args below meth c D cy A ad Q H locs ls C0 x i a hP hS (lsto (v := .int v) hl2 ho))
theorem VS.astore_n {k : Fin 4} {v : Nat} (d : decode cc pc = .ok (.astore_n k, 1)) (hn : (k : Nat) < nL) (ho : okst L k = true) (kk : VS l R own cc nL X cl sl n g  (pc + 1) (L.set k (some (.ref v))) st) : VS l R own cc nL X cl sl n g  pc L (.ref v :: st) := fun p e s m args below meth c D cy A ad Q H locs ls C0 x i a hP hS hl => lv_astore_n C0.1 C0.2.1 d rfl hl hn rfl (fun ls hl2 => kk p e s m args below meth c D cy A ad Q H locs ls C0 x i a hP hS (lsto (v := .ref v) hl2 ho))
theorem VS.astore {k : Nat} {v : Nat} (d : decode cc pc = .ok (.astore k, 2)) (hn : k < nL) (ho : okst L k = true) (kk : VS l R own cc nL X cl sl n g  (pc + 2) (L.set k (some (.ref v))) st) : VS l R own cc nL X cl sl n g  pc L (.ref v :: st) := fun p e s m args below meth c D cy A ad Q H locs ls C0 x i a hP hS hl => lv_astore C0.1 C0.2.1 d hl hn rfl (fun ls hl2 => kk p e s m args below meth c D cy A ad Q H locs ls C0 x i a hP hS (lsto (v := .ref v) hl2 ho))
theorem VS.iadd {x y : Int32} (d : decode cc pc = .ok (.iadd, 1)) (kk : VS l R own cc nL X cl sl n g  (pc + 1) L (.int (x + y) :: st)) : VS l R own cc nL X cl sl n g  pc L (.int y :: .int x :: st) := fun p e s m args below meth c D cy A ad Q H locs ls C0 x0 i a hP hS hl => lv_iadd C0.1 C0.2.1 d (kk p e s m args below meth c D cy A ad Q H locs ls C0 x0 i a hP hS hl)
theorem VS.isub {x y : Int32} (d : decode cc pc = .ok (.isub, 1)) (kk : VS l R own cc nL X cl sl n g  (pc + 1) L (.int (x - y) :: st)) : VS l R own cc nL X cl sl n g  pc L (.int y :: .int x :: st) := fun p e s m args below meth c D cy A ad Q H locs ls C0 x0 i a hP hS hl => lv_isub C0.1 C0.2.1 d (kk p e s m args below meth c D cy A ad Q H locs ls C0 x0 i a hP hS hl)
theorem VS.imul {x y : Int32} (d : decode cc pc = .ok (.imul, 1)) (kk : VS l R own cc nL X cl sl n g  (pc + 1) L (.int (x * y) :: st)) : VS l R own cc nL X cl sl n g  pc L (.int y :: .int x :: st) := fun p e s m args below meth c D cy A ad Q H locs ls C0 x0 i a hP hS hl => lv_imul C0.1 C0.2.1 d (kk p e s m args below meth c D cy A ad Q H locs ls C0 x0 i a hP hS hl)
theorem VS.iand {x y : Int32} (d : decode cc pc = .ok (.iand, 1)) (kk : VS l R own cc nL X cl sl n g  (pc + 1) L (.int (x &&& y) :: st)) : VS l R own cc nL X cl sl n g  pc L (.int y :: .int x :: st) := fun p e s m args below meth c D cy A ad Q H locs ls C0 x0 i a hP hS hl => lv_iand C0.1 C0.2.1 d (kk p e s m args below meth c D cy A ad Q H locs ls C0 x0 i a hP hS hl)
theorem VS.ior {x y : Int32} (d : decode cc pc = .ok (.ior, 1)) (kk : VS l R own cc nL X cl sl n g  (pc + 1) L (.int (x ||| y) :: st)) : VS l R own cc nL X cl sl n g  pc L (.int y :: .int x :: st) := fun p e s m args below meth c D cy A ad Q H locs ls C0 x0 i a hP hS hl => lv_ior C0.1 C0.2.1 d (kk p e s m args below meth c D cy A ad Q H locs ls C0 x0 i a hP hS hl)
theorem VS.ixor {x y : Int32} (d : decode cc pc = .ok (.ixor, 1)) (kk : VS l R own cc nL X cl sl n g  (pc + 1) L (.int (x ^^^ y) :: st)) : VS l R own cc nL X cl sl n g  pc L (.int y :: .int x :: st) := fun p e s m args below meth c D cy A ad Q H locs ls C0 x0 i a hP hS hl => lv_ixor C0.1 C0.2.1 d (kk p e s m args below meth c D cy A ad Q H locs ls C0 x0 i a hP hS hl)
theorem VS.ishl {x y : Int32} (d : decode cc pc = .ok (.ishl, 1)) (kk : VS l R own cc nL X cl sl n g  (pc + 1) L (.int (x <<< (y &&& 31)) :: st)) : VS l R own cc nL X cl sl n g  pc L (.int y :: .int x :: st) := fun p e s m args below meth c D cy A ad Q H locs ls C0 x0 i a hP hS hl => lv_ishl C0.1 C0.2.1 d (kk p e s m args below meth c D cy A ad Q H locs ls C0 x0 i a hP hS hl)
theorem VS.ishr {x y : Int32} (d : decode cc pc = .ok (.ishr, 1)) (kk : VS l R own cc nL X cl sl n g  (pc + 1) L (.int (x >>> (y &&& 31)) :: st)) : VS l R own cc nL X cl sl n g  pc L (.int y :: .int x :: st) := fun p e s m args below meth c D cy A ad Q H locs ls C0 x0 i a hP hS hl => lv_ishr C0.1 C0.2.1 d (kk p e s m args below meth c D cy A ad Q H locs ls C0 x0 i a hP hS hl)
theorem VS.idiv {x y : Int32} (d : decode cc pc = .ok (.idiv, 1)) (hne : ¬ y = 0) (kk : VS l R own cc nL X cl sl n g  (pc + 1) L (.int (x / y) :: st)) : VS l R own cc nL X cl sl n g  pc L (.int y :: .int x :: st) := fun p e s m args below meth c D cy A ad Q H locs ls C0 x0 i a hP hS hl => lv_idiv C0.1 C0.2.1 d hne (kk p e s m args below meth c D cy A ad Q H locs ls C0 x0 i a hP hS hl)
theorem VS.irem {x y : Int32} (d : decode cc pc = .ok (.irem, 1)) (hne : ¬ y = 0) (kk : VS l R own cc nL X cl sl n g  (pc + 1) L (.int (x - x / y * y) :: st)) : VS l R own cc nL X cl sl n g  pc L (.int y :: .int x :: st) := fun p e s m args below meth c D cy A ad Q H locs ls C0 x0 i a hP hS hl => lv_irem C0.1 C0.2.1 d hne (kk p e s m args below meth c D cy A ad Q H locs ls C0 x0 i a hP hS hl)
theorem VS.iushr {x y : Int32} (d : decode cc pc = .ok (.iushr, 1)) (kk : VS l R own cc nL X cl sl n g  (pc + 1) L (.int (x.toUInt32 >>> (y.toUInt32 &&& Int32.toUInt32 31)).toInt32 :: st)) : VS l R own cc nL X cl sl n g  pc L (.int y :: .int x :: st) := fun p e s m args below meth c D cy A ad Q H locs ls C0 x0 i a hP hS hl => lv_iushr C0.1 C0.2.1 d rfl (kk p e s m args below meth c D cy A ad Q H locs ls C0 x0 i a hP hS hl)
theorem VS.lushr {x : Int64} {y : Int32} (d : decode cc pc = .ok (.lushr, 1)) (kk : VS l R own cc nL X cl sl n g  (pc + 1) L (.long (x.toUInt64 >>> (y.toInt64.toUInt64 &&& Int64.toUInt64 63)).toInt64 :: st)) : VS l R own cc nL X cl sl n g  pc L (.int y :: .long x :: st) := fun p e s m args below meth c D cy A ad Q H locs ls C0 x0 i a hP hS hl => lv_lushr C0.1 C0.2.1 d rfl (kk p e s m args below meth c D cy A ad Q H locs ls C0 x0 i a hP hS hl)
theorem VS.lshl {x : Int64} {y : Int32} (d : decode cc pc = .ok (.lshl, 1)) (kk : VS l R own cc nL X cl sl n g  (pc + 1) L (.long (x <<< (y.toInt64 &&& 63)) :: st)) : VS l R own cc nL X cl sl n g  pc L (.int y :: .long x :: st) := fun p e s m args below meth c D cy A ad Q H locs ls C0 x0 i a hP hS hl => lv_lshl C0.1 C0.2.1 d rfl (kk p e s m args below meth c D cy A ad Q H locs ls C0 x0 i a hP hS hl)
theorem VS.land {x y : Int64} (d : decode cc pc = .ok (.land, 1)) (kk : VS l R own cc nL X cl sl n g  (pc + 1) L (.long (x &&& y) :: st)) : VS l R own cc nL X cl sl n g  pc L (.long y :: .long x :: st) := fun p e s m args below meth c D cy A ad Q H locs ls C0 x0 i a hP hS hl => lv_land C0.1 C0.2.1 d (kk p e s m args below meth c D cy A ad Q H locs ls C0 x0 i a hP hS hl)
theorem VS.lor {x y : Int64} (d : decode cc pc = .ok (.lor, 1)) (kk : VS l R own cc nL X cl sl n g  (pc + 1) L (.long (x ||| y) :: st)) : VS l R own cc nL X cl sl n g  pc L (.long y :: .long x :: st) := fun p e s m args below meth c D cy A ad Q H locs ls C0 x0 i a hP hS hl => lv_lor C0.1 C0.2.1 d (kk p e s m args below meth c D cy A ad Q H locs ls C0 x0 i a hP hS hl)
theorem VS.i2l {x : Int32} (d : decode cc pc = .ok (.i2l, 1)) (kk : VS l R own cc nL X cl sl n g  (pc + 1) L (.long x.toInt64 :: st)) : VS l R own cc nL X cl sl n g  pc L (.int x :: st) := fun p e s m args below meth c D cy A ad Q H locs ls C0 x0 i a hP hS hl => lv_i2l C0.1 C0.2.1 d rfl (kk p e s m args below meth c D cy A ad Q H locs ls C0 x0 i a hP hS hl)
theorem VS.l2i {x : Int64} (d : decode cc pc = .ok (.l2i, 1)) (kk : VS l R own cc nL X cl sl n g  (pc + 1) L (.int x.toInt32 :: st)) : VS l R own cc nL X cl sl n g  pc L (.long x :: st) := fun p e s m args below meth c D cy A ad Q H locs ls C0 x0 i a hP hS hl => lv_l2i C0.1 C0.2.1 d rfl (kk p e s m args below meth c D cy A ad Q H locs ls C0 x0 i a hP hS hl)
theorem VS.i2c {x : Int32} (d : decode cc pc = .ok (.i2c, 1)) (kk : VS l R own cc nL X cl sl n g  (pc + 1) L (.int (x.toUInt32 % 65536).toInt32 :: st)) : VS l R own cc nL X cl sl n g  pc L (.int x :: st) := fun p e s m args below meth c D cy A ad Q H locs ls C0 x0 i a hP hS hl => lv_i2c C0.1 C0.2.1 d rfl (kk p e s m args below meth c D cy A ad Q H locs ls C0 x0 i a hP hS hl)
theorem VS.dup {v : Value} (d : decode cc pc = .ok (.dup, 1)) (hv : v.category = 1) (kk : VS l R own cc nL X cl sl n g  (pc + 1) L (v :: v :: st)) : VS l R own cc nL X cl sl n g  pc L (v :: st) := fun p e s m args below meth c D cy A ad Q H locs ls C0 x i a hP hS hl => lv_dup C0.1 C0.2.1 d (by rw [cV_cat]; exact hv) (kk p e s m args below meth c D cy A ad Q H locs ls C0 x i a hP hS hl)
theorem VS.pop {v : Value} (d : decode cc pc = .ok (.pop, 1)) (hv : v.category = 1) (kk : VS l R own cc nL X cl sl n g  (pc + 1) L st) : VS l R own cc nL X cl sl n g  pc L (v :: st) := fun p e s m args below meth c D cy A ad Q H locs ls C0 x i a hP hS hl => lv_pop C0.1 C0.2.1 d (by rw [cV_cat]; exact hv) (kk p e s m args below meth c D cy A ad Q H locs ls C0 x i a hP hS hl)
theorem VS.dup2 {v w : Value} (d : decode cc pc = .ok (.dup2, 1)) (hv : v.category = 1) (hw : w.category = 1) (kk : VS l R own cc nL X cl sl n g  (pc + 1) L (v :: w :: v :: w :: st)) : VS l R own cc nL X cl sl n g  pc L (v :: w :: st) := fun p e s m args below meth c D cy A ad Q H locs ls C0 x i a hP hS hl => lv_dup2_11 C0.1 C0.2.1 d (by rw [cV_cat]; exact hv) (by rw [cV_cat]; exact hw) (kk p e s m args below meth c D cy A ad Q H locs ls C0 x i a hP hS hl)
theorem VS.aconst_null (d : decode cc pc = .ok (.aconst_null, 1)) (kk : VS l R own cc nL X cl sl n g  (pc + 1) L (.null :: st)) : VS l R own cc nL X cl sl n g  pc L st := fun p e s m args below meth c D cy A ad Q H locs ls C0 x i a hP hS hl => lv_null C0.1 C0.2.1 d (kk p e s m args below meth c D cy A ad Q H locs ls C0 x i a hP hS hl)
theorem VS.topi {x : Int32} (kk : ∀ y : Int32, y = x → VS l R own cc nL X cl sl n g  pc L (.int y :: st)) : VS l R own cc nL X cl sl n g  pc L (.int x :: st) := kk x rfl
theorem VS.val {x y : Int32} (h : x = y) (kk : VS l R own cc nL X cl sl n g  pc L (.int y :: st)) : VS l R own cc nL X cl sl n g  pc L (.int x :: st) := h ▸ kk
theorem VS.heap {g2 : Nat → va_E} (h : ∀ k, k < n → g k = g2 k) (kk : VS l R own cc nL X cl sl n g2 pc L st) : VS l R own cc nL X cl sl n g  pc L st := by
  intro p e s m args below meth c D cy A ad Q H locs ls C0 x i a hP
  refine kk p e s m args below meth c D cy A ad Q H locs ls C0 x i a ?_
  have e : wd cy ad n g = wd cy ad n g2 := List.map_congr_left fun k hk => by rw [h k (List.mem_range.mp hk)]
  rw [← e]; exact hP
theorem VS.locals {L2 : List (Option Value)} (h : ∀ (j : Nat) (v : Value), L2[j]? = some (some v) → L[j]? = some (some v)) (kk : VS l R own cc nL X cl sl n g  pc L2 st) : VS l R own cc nL X cl sl n g  pc L st := fun p e s m args below meth c D cy A ad Q H locs ls C0 x i a hP hS hl => kk p e s m args below meth c D cy A ad Q H locs ls C0 x i a hP hS ⟨hl.1, hl.2.1, fun q hq => hl.2.2 q (by
  obtain ⟨j, v, h1, h2⟩ := (asL_mem L2 0 q).mp hq
  exact (asL_mem L 0 q).mpr ⟨j, v, h j v h1, h2⟩)⟩
theorem VS.iinc {k : Nat} {z : Int} {x : Int32} (v : Int32) (d : decode cc pc = .ok (.iinc k z, 3)) (hx : L[k]? = some (some (.int x))) (hn : k < nL) (hv : x + Int32.ofInt z = v) (ho : okst L k = true) (kk : VS l R own cc nL X cl sl n g  (pc + 3) (L.set k (some (.int v))) st) : VS l R own cc nL X cl sl n g  pc L st := by
  intro p e s m args below meth c D cy A ad Q H locs ls C0 x0 i a hP hS hl
  obtain ⟨q0, hq0⟩ : ∃ q0 : Nat, (asL ad 0 L)[q0]? = some (k, .int x) := List.getElem?_of_mem ((asL_mem L 0 _).mpr ⟨k, _, hx, by simp [cV]⟩)
  exact lv_iinc (v := v) C0.1 C0.2.1 d hl hq0 hv hn rfl (fun ls hl2 => kk p e s m args below meth c D cy A ad Q H locs ls C0 x0 i a hP hS (lsto (v := .int v) hl2 ho))
theorem VS.if_eq {x : Int32} {off : Int} (tgt : Nat) (d : decode cc pc = .ok (.ifCond .eq off, 3)) (ht : (pc : Int) + off = (tgt : Int)) (kt : x = 0 → VS l R own cc nL X cl sl n g  tgt L st) (kf : ¬ (x = 0) → VS l R own cc nL X cl sl n g  (pc + 3) L st) : VS l R own cc nL X cl sl n g  pc L (.int x :: st) := fun p e s m args below meth c D cy A ad Q H locs ls C0 x0 i a hP hS hl => lv_if_eq C0.1 C0.2.1 d ht (fun h => kt h p e s m args below meth c D cy A ad Q H locs ls C0 x0 i a hP hS hl) (fun h => kf h p e s m args below meth c D cy A ad Q H locs ls C0 x0 i a hP hS hl)
theorem VS.icmp_eq {x y : Int32} {off : Int} (tgt : Nat) (d : decode cc pc = .ok (.if_icmp .eq off, 3)) (ht : (pc : Int) + off = (tgt : Int)) (kt : x = y → VS l R own cc nL X cl sl n g  tgt L st) (kf : ¬ (x = y) → VS l R own cc nL X cl sl n g  (pc + 3) L st) : VS l R own cc nL X cl sl n g  pc L (.int y :: .int x :: st) := fun p e s m args below meth c D cy A ad Q H locs ls C0 x0 i a hP hS hl => lv_icmp_eq C0.1 C0.2.1 d ht (fun h => kt h p e s m args below meth c D cy A ad Q H locs ls C0 x0 i a hP hS hl) (fun h => kf h p e s m args below meth c D cy A ad Q H locs ls C0 x0 i a hP hS hl)
theorem VS.if_ne {x : Int32} {off : Int} (tgt : Nat) (d : decode cc pc = .ok (.ifCond .ne off, 3)) (ht : (pc : Int) + off = (tgt : Int)) (kt : ¬ x = 0 → VS l R own cc nL X cl sl n g  tgt L st) (kf : x = 0 → VS l R own cc nL X cl sl n g  (pc + 3) L st) : VS l R own cc nL X cl sl n g  pc L (.int x :: st) := fun p e s m args below meth c D cy A ad Q H locs ls C0 x0 i a hP hS hl => lv_if_ne C0.1 C0.2.1 d ht (fun h => kt h p e s m args below meth c D cy A ad Q H locs ls C0 x0 i a hP hS hl) (fun h => kf h p e s m args below meth c D cy A ad Q H locs ls C0 x0 i a hP hS hl)
theorem VS.icmp_ne {x y : Int32} {off : Int} (tgt : Nat) (d : decode cc pc = .ok (.if_icmp .ne off, 3)) (ht : (pc : Int) + off = (tgt : Int)) (kt : ¬ x = y → VS l R own cc nL X cl sl n g  tgt L st) (kf : x = y → VS l R own cc nL X cl sl n g  (pc + 3) L st) : VS l R own cc nL X cl sl n g  pc L (.int y :: .int x :: st) := fun p e s m args below meth c D cy A ad Q H locs ls C0 x0 i a hP hS hl => lv_icmp_ne C0.1 C0.2.1 d ht (fun h => kt h p e s m args below meth c D cy A ad Q H locs ls C0 x0 i a hP hS hl) (fun h => kf h p e s m args below meth c D cy A ad Q H locs ls C0 x0 i a hP hS hl)
theorem VS.if_lt {x : Int32} {off : Int} (tgt : Nat) (d : decode cc pc = .ok (.ifCond .lt off, 3)) (ht : (pc : Int) + off = (tgt : Int)) (kt : x < 0 → VS l R own cc nL X cl sl n g  tgt L st) (kf : ¬ (x < 0) → VS l R own cc nL X cl sl n g  (pc + 3) L st) : VS l R own cc nL X cl sl n g  pc L (.int x :: st) := fun p e s m args below meth c D cy A ad Q H locs ls C0 x0 i a hP hS hl => lv_if_lt C0.1 C0.2.1 d ht (fun h => kt h p e s m args below meth c D cy A ad Q H locs ls C0 x0 i a hP hS hl) (fun h => kf h p e s m args below meth c D cy A ad Q H locs ls C0 x0 i a hP hS hl)
theorem VS.icmp_lt {x y : Int32} {off : Int} (tgt : Nat) (d : decode cc pc = .ok (.if_icmp .lt off, 3)) (ht : (pc : Int) + off = (tgt : Int)) (kt : x < y → VS l R own cc nL X cl sl n g  tgt L st) (kf : ¬ (x < y) → VS l R own cc nL X cl sl n g  (pc + 3) L st) : VS l R own cc nL X cl sl n g  pc L (.int y :: .int x :: st) := fun p e s m args below meth c D cy A ad Q H locs ls C0 x0 i a hP hS hl => lv_icmp_lt C0.1 C0.2.1 d ht (fun h => kt h p e s m args below meth c D cy A ad Q H locs ls C0 x0 i a hP hS hl) (fun h => kf h p e s m args below meth c D cy A ad Q H locs ls C0 x0 i a hP hS hl)
theorem VS.if_ge {x : Int32} {off : Int} (tgt : Nat) (d : decode cc pc = .ok (.ifCond .ge off, 3)) (ht : (pc : Int) + off = (tgt : Int)) (kt : 0 ≤ x → VS l R own cc nL X cl sl n g  tgt L st) (kf : ¬ (0 ≤ x) → VS l R own cc nL X cl sl n g  (pc + 3) L st) : VS l R own cc nL X cl sl n g  pc L (.int x :: st) := fun p e s m args below meth c D cy A ad Q H locs ls C0 x0 i a hP hS hl => lv_if_ge C0.1 C0.2.1 d ht (fun h => kt h p e s m args below meth c D cy A ad Q H locs ls C0 x0 i a hP hS hl) (fun h => kf h p e s m args below meth c D cy A ad Q H locs ls C0 x0 i a hP hS hl)
theorem VS.icmp_ge {x y : Int32} {off : Int} (tgt : Nat) (d : decode cc pc = .ok (.if_icmp .ge off, 3)) (ht : (pc : Int) + off = (tgt : Int)) (kt : y ≤ x → VS l R own cc nL X cl sl n g  tgt L st) (kf : ¬ (y ≤ x) → VS l R own cc nL X cl sl n g  (pc + 3) L st) : VS l R own cc nL X cl sl n g  pc L (.int y :: .int x :: st) := fun p e s m args below meth c D cy A ad Q H locs ls C0 x0 i a hP hS hl => lv_icmp_ge C0.1 C0.2.1 d ht (fun h => kt h p e s m args below meth c D cy A ad Q H locs ls C0 x0 i a hP hS hl) (fun h => kf h p e s m args below meth c D cy A ad Q H locs ls C0 x0 i a hP hS hl)
theorem VS.if_gt {x : Int32} {off : Int} (tgt : Nat) (d : decode cc pc = .ok (.ifCond .gt off, 3)) (ht : (pc : Int) + off = (tgt : Int)) (kt : 0 < x → VS l R own cc nL X cl sl n g  tgt L st) (kf : ¬ (0 < x) → VS l R own cc nL X cl sl n g  (pc + 3) L st) : VS l R own cc nL X cl sl n g  pc L (.int x :: st) := fun p e s m args below meth c D cy A ad Q H locs ls C0 x0 i a hP hS hl => lv_if_gt C0.1 C0.2.1 d ht (fun h => kt h p e s m args below meth c D cy A ad Q H locs ls C0 x0 i a hP hS hl) (fun h => kf h p e s m args below meth c D cy A ad Q H locs ls C0 x0 i a hP hS hl)
theorem VS.icmp_gt {x y : Int32} {off : Int} (tgt : Nat) (d : decode cc pc = .ok (.if_icmp .gt off, 3)) (ht : (pc : Int) + off = (tgt : Int)) (kt : y < x → VS l R own cc nL X cl sl n g  tgt L st) (kf : ¬ (y < x) → VS l R own cc nL X cl sl n g  (pc + 3) L st) : VS l R own cc nL X cl sl n g  pc L (.int y :: .int x :: st) := fun p e s m args below meth c D cy A ad Q H locs ls C0 x0 i a hP hS hl => lv_icmp_gt C0.1 C0.2.1 d ht (fun h => kt h p e s m args below meth c D cy A ad Q H locs ls C0 x0 i a hP hS hl) (fun h => kf h p e s m args below meth c D cy A ad Q H locs ls C0 x0 i a hP hS hl)
theorem VS.if_le {x : Int32} {off : Int} (tgt : Nat) (d : decode cc pc = .ok (.ifCond .le off, 3)) (ht : (pc : Int) + off = (tgt : Int)) (kt : x ≤ 0 → VS l R own cc nL X cl sl n g  tgt L st) (kf : ¬ (x ≤ 0) → VS l R own cc nL X cl sl n g  (pc + 3) L st) : VS l R own cc nL X cl sl n g  pc L (.int x :: st) := fun p e s m args below meth c D cy A ad Q H locs ls C0 x0 i a hP hS hl => lv_if_le C0.1 C0.2.1 d ht (fun h => kt h p e s m args below meth c D cy A ad Q H locs ls C0 x0 i a hP hS hl) (fun h => kf h p e s m args below meth c D cy A ad Q H locs ls C0 x0 i a hP hS hl)
theorem VS.icmp_le {x y : Int32} {off : Int} (tgt : Nat) (d : decode cc pc = .ok (.if_icmp .le off, 3)) (ht : (pc : Int) + off = (tgt : Int)) (kt : x ≤ y → VS l R own cc nL X cl sl n g  tgt L st) (kf : ¬ (x ≤ y) → VS l R own cc nL X cl sl n g  (pc + 3) L st) : VS l R own cc nL X cl sl n g  pc L (.int y :: .int x :: st) := fun p e s m args below meth c D cy A ad Q H locs ls C0 x0 i a hP hS hl => lv_icmp_le C0.1 C0.2.1 d ht (fun h => kt h p e s m args below meth c D cy A ad Q H locs ls C0 x0 i a hP hS hl) (fun h => kf h p e s m args below meth c D cy A ad Q H locs ls C0 x0 i a hP hS hl)
theorem VS.goto {off : Int} (tgt : Nat) (d : decode cc pc = .ok (.goto off, 3)) (ht : (pc : Int) + off = (tgt : Int)) (kk : VS l R own cc nL X cl sl n g  tgt L st) : VS l R own cc nL X cl sl n g  pc L st := fun p e s m args below meth c D cy A ad Q H locs ls C0 x i a hP hS hl => lv_goto C0.1 C0.2.1 d ht (kk p e s m args below meth c D cy A ad Q H locs ls C0 x i a hP hS hl)
theorem VS.ifnull {v : Nat} {off : Int} (d : decode cc pc = .ok (.ifnull off, 3)) (kk : VS l R own cc nL X cl sl n g  (pc + 3) L st) : VS l R own cc nL X cl sl n g  pc L (.ref v :: st) := fun p e s m args below meth c D cy A ad Q H locs ls C0 x i a hP hS hl => lv_ifnull C0.1 C0.2.1 d (kk p e s m args below meth c D cy A ad Q H locs ls C0 x i a hP hS hl)
theorem VS.ifnonnull {v : Nat} {off : Int} (tgt : Nat) (d : decode cc pc = .ok (.ifnonnull off, 3)) (ht : (pc : Int) + off = (tgt : Int)) (kk : VS l R own cc nL X cl sl n g  tgt L st) : VS l R own cc nL X cl sl n g  pc L (.ref v :: st) := fun p e s m args below meth c D cy A ad Q H locs ls C0 x i a hP hS hl => lv_ifnonnull C0.1 C0.2.1 d ht (kk p e s m args below meth c D cy A ad Q H locs ls C0 x i a hP hS hl)
theorem VS.tableIn {dflt lo hi : Int} {offs : Array Int} {len : Nat} {x : Int32} {off : Int} (tgt : Nat) (d : decode cc pc = .ok (.tableswitch dflt lo hi offs, len)) (h1 : ¬ x.toInt < lo) (h2 : ¬ hi < x.toInt) (ho : offs[(x.toInt - lo).toNat]? = some off) (ht : (pc : Int) + off = (tgt : Int)) (kk : VS l R own cc nL X cl sl n g  tgt L st) : VS l R own cc nL X cl sl n g  pc L (.int x :: st) := fun p e s m args below meth c D cy A ad Q H locs ls C0 x0 i a hP hS hl => lv_tableIn C0.1 C0.2.1 d h1 h2 ho ht (kk p e s m args below meth c D cy A ad Q H locs ls C0 x0 i a hP hS hl)
theorem VS.tableOut {dflt lo hi : Int} {offs : Array Int} {len : Nat} {x : Int32} (tgt : Nat) (d : decode cc pc = .ok (.tableswitch dflt lo hi offs, len)) (h : x.toInt < lo ∨ hi < x.toInt) (ht : (pc : Int) + dflt = (tgt : Int)) (kk : VS l R own cc nL X cl sl n g  tgt L st) : VS l R own cc nL X cl sl n g  pc L (.int x :: st) := fun p e s m args below meth c D cy A ad Q H locs ls C0 x0 i a hP hS hl => lv_tableOut C0.1 C0.2.1 d h ht (kk p e s m args below meth c D cy A ad Q H locs ls C0 x0 i a hP hS hl)
theorem VS.lookup {dflt : Int} {ps : Array (Int × Int)} {len : Nat} {x : Int32} {off : Int} (tgt : Nat) (d : decode cc pc = .ok (.lookupswitch dflt ps, len)) (hp : (ps.toList.zip (ps.toList.drop 1)).all (fun (a, next) => a.1 < next.1) = true) (ho : Op.lookupswitch.offset ps.toList dflt x.toInt = off) (ht : (pc : Int) + off = (tgt : Int)) (kk : VS l R own cc nL X cl sl n g  tgt L st) : VS l R own cc nL X cl sl n g  pc L (.int x :: st) := fun p e s m args below meth c D cy A ad Q H locs ls C0 x0 i a hP hS hl => lv_lookup C0.1 C0.2.1 d hp ho ht (kk p e s m args below meth c D cy A ad Q H locs ls C0 x0 i a hP hS hl)
theorem VS.ldc {index : Nat} {v : Int32} (d : decode cc pc = .ok (.ldc index, 2)) (hc : (Cond.constant own index v) ∈ TB) (kk : VS l R own cc nL X cl sl n g  (pc + 2) L (.int v :: st)) : VS l R own cc nL X cl sl n g  pc L st := fun p e s m args below meth c D cy A ad Q H locs ls C0 x i a hP hS hl => lv_ldc C0.1 C0.2.1 C0.2.2.2.1 (C0.2.2.2.2.1 _ hc) d (kk p e s m args below meth c D cy A ad Q H locs ls C0 x i a hP hS hl)
theorem VS.ldc_w {index : Nat} {v : Int32} (d : decode cc pc = .ok (.ldc_w index, 3)) (hc : (Cond.constant own index v) ∈ TB) (kk : VS l R own cc nL X cl sl n g  (pc + 3) L (.int v :: st)) : VS l R own cc nL X cl sl n g  pc L st := fun p e s m args below meth c D cy A ad Q H locs ls C0 x i a hP hS hl => lv_ldcw C0.1 C0.2.1 C0.2.2.2.1 (C0.2.2.2.2.1 _ hc) d (kk p e s m args below meth c D cy A ad Q H locs ls C0 x i a hP hS hl)
theorem VS.ldc2 {index : Nat} {v : Int64} (d : decode cc pc = .ok (.ldc2_w index, 3)) (hc : (Cond.constantLong own index v) ∈ TB) (kk : VS l R own cc nL X cl sl n g  (pc + 3) L (.long v :: st)) : VS l R own cc nL X cl sl n g  pc L st := fun p e s m args below meth c D cy A ad Q H locs ls C0 x i a hP hS hl => lv_ldc2 C0.1 C0.2.1 C0.2.2.2.1 (C0.2.2.2.2.1 _ hc) d (kk p e s m args below meth c D cy A ad Q H locs ls C0 x i a hP hS hl)
theorem wat_r {cy : Nat → ClassId} {ad : Nat → Nat} {k ci : Nat} {fs : List Value} (hk : k < n) (hg : g k = .inr (ci, fs)) : (wd cy ad n g)[k]? = some (ad k, .inr (ci, fs.map (cV ad))) := by
  rw [wd_at hk, hg]; rfl
theorem wat_i {cy : Nat → ClassId} {ad : Nat → Nat} {k t N : Nat} {f : Nat → Int32} (hk : k < n) (hg : g k = .inl (t, N, .inl f)) : (wd cy ad n g)[k]? = some (ad k, .inl (cy t, N, .inl f)) := by
  rw [wd_at hk, hg]; rfl
theorem wat_q {cy : Nat → ClassId} {ad : Nat → Nat} {k t N : Nat} {f : Nat → Option Nat} (hk : k < n) (hg : g k = .inl (t, N, .inr (.inr (.inr (.inr f))))) : (wd cy ad n g)[k]? = some (ad k, .inl (cy t, N, .inr (.inr (.inr (.inr (fun i => (f i).map ad)))))) := by
  rw [wd_at hk, hg]; rfl
theorem VS.getf {o : Nat} {ref C : String} {T : u_T} {N index : Nat} {fs : List Value} {v : Value} (ci : Nat) (d : decode cc pc = .ok (.getfield index, 3)) (hu : ∀ w ∈ u_ws C T N, w ∈ TB) (hc : vwCl[ci]? = some (C, T, N)) (ho : o < n) (k : Nat) (hg : g o = .inr (ci, fs)) (hk : k < N) (hlink : (Cond.fieldLink own index ref (T k).2.1 (T k).2.2.1) ∈ TB) (hsame : (T k).1 = ref) (hv : fs[k]? = some v) (kk : VS l R own cc nL X cl sl n g  (pc + 3) L (v :: st)) : VS l R own cc nL X cl sl n g  pc L (.ref o :: st) := fun p e s m args below meth c D cy A ad Q H locs ls C0 x i a hP hS hl => va_get (D := D) C0.1 C0.2.1 C0.2.2.2.2.1 hu C0.2.2.2.1 C0.2.2.2.2.2.2.1 hP o (wat_r ho hg) hc k hk (C0.2.2.2.2.1 _ hlink) (fun _ h => by rw [← hsame]; exact h) (by rw [List.getElem?_map, hv]; rfl) d (kk p e s m args below meth c D cy A ad Q H locs ls C0 x i a hP hS hl)
theorem VS.putf {o : Nat} {ref C : String} {T : u_T} {N index : Nat} {fs : List Value} {v : Value} (ci : Nat) (d : decode cc pc = .ok (.putfield index, 3)) (hu : ∀ w ∈ u_ws C T N, w ∈ TB) (ty0 : Nat → FieldType) (hty : ∀ k, k < N → parseFieldDescriptor (T k).2.2.1 = some (ty0 k)) (hnm : ∀ a, a < N → ∀ b, b < N → a ≠ b → (T a).2.1 ≠ (T b).2.1) (hc : vwCl[ci]? = some (C, T, N)) (ho : o < n) (k : Nat) (hg : g o = .inr (ci, fs)) (hk : k < N) (hlink : (Cond.fieldLink own index ref (T k).2.1 (T k).2.2.1) ∈ TB) (hsame : (T k).1 = ref) (hfin : (T k).2.2.2 = false) (hn : ∀ ad : Nat → Nat, narrow (ty0 k) (cV ad v) = cV ad v) (hfit : ∀ ad : Nat → Nat, fits (ty0 k) (cV ad v) = true) (hl0 : k < fs.length) (kk : VS l R own cc nL X cl sl n (va_up g o (.inr (ci, fs.set k v))) (pc + 3) L st) : VS l R own cc nL X cl sl n g  pc L (v :: .ref o :: st) := by
  intro p e s m args below meth c D cy A ad Q H locs ls C0 x i a hP hS hl
  refine va_put (D := D) C0.1 C0.2.1 C0.2.2.2.2.1 hu ty0 hty hnm C0.2.2.2.1 C0.2.2.2.2.2.2.1 hP (wd_D i a) hS o (wat_r ho hg) hc k hk (C0.2.2.2.2.1 _ hlink) (fun _ h => by rw [← hsame]; exact h) hfin (hty k hk) (hn ad) (hfit ad) (by simpa using hl0) d (fun H1 locs1 hP1 _ hS1 => ?_)
  have e1 : (o, ad o, cE cy ad (.inr (ci, fs.set k v))) = (o, ad o, .inr (ci, (fs.map (cV ad)).set k (cV ad v))) := by
    simp [cE, List.map_set]
  have e2 : (wd cy ad n g).set o (ad o, .inr (ci, (fs.map (cV ad)).set k (cV ad v))) = wd cy ad n (va_up g o (.inr (ci, fs.set k v))) := by
    rw [← wd_set ho]; congr 2; exact (congrArg (fun z => z.2.2) e1).symm
  rw [e2] at hP1
  exact kk p e s m args below meth c D cy A ad Q H1 locs1 ls C0 x i a hP1 hS1 hl
theorem VS.putF {o : Nat} {ref C : String} {T : u_T} {N index : Nat} {fs : List Value} {v : Value} (ci : Nat) (d : decode cc pc = .ok (.putfield index, 3)) (hu : ∀ w ∈ u_ws C T N, w ∈ TB) (ty0 : Nat → FieldType) (hty : ∀ k, k < N → parseFieldDescriptor (T k).2.2.1 = some (ty0 k)) (hnm : ∀ a, a < N → ∀ b, b < N → a ≠ b → (T a).2.1 ≠ (T b).2.1) (hc : vwCl[ci]? = some (C, T, N)) (ho : o < n) (k : Nat) (hg : g o = .inr (ci, fs)) (hk : k < N) (hlink : (Cond.fieldLink own index ref (T k).2.1 (T k).2.2.1) ∈ TB) (hsame : (T k).1 = ref) (hfin : (T k).2.2.2 = true) (hX : ∀ s args below meth D cy A ad Q, X s args below meth D cy A ad Q → meth.name = "<init>") (hown : (T k).1 = own) (hn : ∀ ad : Nat → Nat, narrow (ty0 k) (cV ad v) = cV ad v) (hfit : ∀ ad : Nat → Nat, fits (ty0 k) (cV ad v) = true) (hl0 : k < fs.length) (kk : VS l R own cc nL X cl sl n (va_up g o (.inr (ci, fs.set k v))) (pc + 3) L st) : VS l R own cc nL X cl sl n g  pc L (v :: .ref o :: st) := by
  intro p e s m args below meth c D cy A ad Q H locs ls C0 x i a hP hS hl
  refine va_putF (D := D) C0.1 C0.2.1 C0.2.2.2.2.1 hu ty0 hty hnm C0.2.2.2.1 C0.2.2.2.2.2.2.1 hP (wd_D i a) hS o (wat_r ho hg) hc k hk (C0.2.2.2.2.1 _ hlink) (fun _ h => by rw [← hsame]; exact h) hfin (hX _ _ _ _ _ _ _ _ _ x) hown (hty k hk) (hn ad) (hfit ad) (by simpa using hl0) d (fun H1 locs1 hP1 _ hS1 => ?_)
  have e1 : (o, ad o, cE cy ad (.inr (ci, fs.set k v))) = (o, ad o, .inr (ci, (fs.map (cV ad)).set k (cV ad v))) := by
    simp [cE, List.map_set]
  have e2 : (wd cy ad n g).set o (ad o, .inr (ci, (fs.map (cV ad)).set k (cV ad v))) = wd cy ad n (va_up g o (.inr (ci, fs.set k v))) := by
    rw [← wd_set ho]; congr 2; exact (congrArg (fun z => z.2.2) e1).symm
  rw [e2] at hP1
  exact kk p e s m args below meth c D cy A ad Q H1 locs1 ls C0 x i a hP1 hS1 hl
theorem VS.iald {o N : Nat} {f : Nat → Int32} {j : Int32} (d : decode cc pc = .ok (.iaload, 1)) (ho : o < n) (hg : g o = .inl (1, N, .inl f)) (hin : vp_in j N) (kk : VS l R own cc nL X cl sl n g  (pc + 1) L (.int (f j.toNatClampNeg) :: st)) : VS l R own cc nL X cl sl n g  pc L (.int j :: .ref o :: st) := fun p e s m args below meth c D cy A ad Q H locs ls C0 x i a hP hS hl => va_iald (D := D) C0.1 C0.2.1 C0.2.2.2.2.2.2.1 hP o 1 (wat_i ho hg) rfl hin d (kk p e s m args below meth c D cy A ad Q H locs ls C0 x i a hP hS hl)
theorem VS.zald {o N : Nat} {f : Nat → Int32} {j : Int32} (d : decode cc pc = .ok (.baload, 1)) (ho : o < n) (hg : g o = .inl (2, N, .inl f)) (hin : vp_in j N) (kk : VS l R own cc nL X cl sl n g  (pc + 1) L (.int (f j.toNatClampNeg) :: st)) : VS l R own cc nL X cl sl n g  pc L (.int j :: .ref o :: st) := fun p e s m args below meth c D cy A ad Q H locs ls C0 x i a hP hS hl => va_zald (D := D) C0.1 C0.2.1 C0.2.2.2.2.2.2.1 hP o 2 (wat_i ho hg) rfl hin d (kk p e s m args below meth c D cy A ad Q H locs ls C0 x i a hP hS hl)
theorem VS.cald {o N : Nat} {f : Nat → Int32} {j : Int32} (d : decode cc pc = .ok (.caload, 1)) (ho : o < n) (hg : g o = .inl (0, N, .inl f)) (hin : vp_in j N) (kk : VS l R own cc nL X cl sl n g  (pc + 1) L (.int (f j.toNatClampNeg) :: st)) : VS l R own cc nL X cl sl n g  pc L (.int j :: .ref o :: st) := fun p e s m args below meth c D cy A ad Q H locs ls C0 x i a hP hS hl => va_cald (D := D) C0.1 C0.2.1 C0.2.2.2.2.2.2.1 hP o 0 (wat_i ho hg) rfl hin d (kk p e s m args below meth c D cy A ad Q H locs ls C0 x i a hP hS hl)
theorem VS.iast {o N : Nat} {f : Nat → Int32} {j z : Int32} (d : decode cc pc = .ok (.iastore, 1)) (ho : o < n) (hg : g o = .inl (1, N, .inl f)) (hin : vp_in j N) (kk : VS l R own cc nL X cl sl n (va_up g o (.inl (1, N, .inl (upd f j.toNatClampNeg z)))) (pc + 1) L st) : VS l R own cc nL X cl sl n g  pc L (.int z :: .int j :: .ref o :: st) := by
  intro p e s m args below meth c D cy A ad Q H locs ls C0 x i a hP hS hl
  refine va_iast (D := D) C0.1 C0.2.1 C0.2.2.2.2.2.2.1 hP (wd_D i a) hS o 1 (wat_i ho hg) rfl hin d (fun H1 locs1 hP1 _ hS1 => ?_)
  have e2 : (wd cy ad n g).set o (ad o, .inl (cy 1, N, .inl (upd f j.toNatClampNeg z))) = wd cy ad n (va_up g o (.inl (1, N, .inl (upd f j.toNatClampNeg z)))) := by
    rw [← wd_set ho]; rfl
  rw [e2] at hP1
  exact kk p e s m args below meth c D cy A ad Q H1 locs1 ls C0 x i a hP1 hS1 hl
theorem VS.zast {o N : Nat} {f : Nat → Int32} {j z : Int32} (d : decode cc pc = .ok (.bastore, 1)) (ho : o < n) (hg : g o = .inl (2, N, .inl f)) (hin : vp_in j N) (kk : VS l R own cc nL X cl sl n (va_up g o (.inl (2, N, .inl (upd f j.toNatClampNeg (vp_nar .boolean z))))) (pc + 1) L st) : VS l R own cc nL X cl sl n g  pc L (.int z :: .int j :: .ref o :: st) := by
  intro p e s m args below meth c D cy A ad Q H locs ls C0 x i a hP hS hl
  refine va_zast (D := D) C0.1 C0.2.1 C0.2.2.2.2.2.2.1 hP (wd_D i a) hS o 2 (wat_i ho hg) rfl hin d (fun H1 locs1 hP1 _ hS1 => ?_)
  have e2 : (wd cy ad n g).set o (ad o, .inl (cy 2, N, .inl (upd f j.toNatClampNeg (vp_nar .boolean z)))) = wd cy ad n (va_up g o (.inl (2, N, .inl (upd f j.toNatClampNeg (vp_nar .boolean z))))) := by
    rw [← wd_set ho]; rfl
  rw [e2] at hP1
  exact kk p e s m args below meth c D cy A ad Q H1 locs1 ls C0 x i a hP1 hS1 hl
theorem VS.cast {o N : Nat} {f : Nat → Int32} {j z : Int32} (d : decode cc pc = .ok (.castore, 1)) (ho : o < n) (hg : g o = .inl (0, N, .inl f)) (hin : vp_in j N) (kk : VS l R own cc nL X cl sl n (va_up g o (.inl (0, N, .inl (upd f j.toNatClampNeg (vp_nar .char z))))) (pc + 1) L st) : VS l R own cc nL X cl sl n g  pc L (.int z :: .int j :: .ref o :: st) := by
  intro p e s m args below meth c D cy A ad Q H locs ls C0 x i a hP hS hl
  refine va_cast (D := D) C0.1 C0.2.1 C0.2.2.2.2.2.2.1 hP (wd_D i a) hS o 0 (wat_i ho hg) rfl hin d (fun H1 locs1 hP1 _ hS1 => ?_)
  have e2 : (wd cy ad n g).set o (ad o, .inl (cy 0, N, .inl (upd f j.toNatClampNeg (vp_nar .char z)))) = wd cy ad n (va_up g o (.inl (0, N, .inl (upd f j.toNatClampNeg (vp_nar .char z))))) := by
    rw [← wd_set ho]; rfl
  rw [e2] at hP1
  exact kk p e s m args below meth c D cy A ad Q H1 locs1 ls C0 x i a hP1 hS1 hl
theorem VS.alen {o t N : Nat} {y} {v : Int32} (ty : FieldType) (d : decode cc pc = .ok (.arraylength, 1)) (ho : o < n) (hg : g o = .inl (t, N, y)) (ht : ∀ cy : Nat → ClassId, (tysA cy)[t]? = some (cy t, ty)) (hv : Int32.ofNat N = v) (kk : VS l R own cc nL X cl sl n g  (pc + 1) L (.int v :: st)) : VS l R own cc nL X cl sl n g  pc L (.ref o :: st) := by
  intro p e s m args below meth c D cy A ad Q H locs ls C0 x i a hP hS hl
  obtain ⟨x2, h1, h2⟩ : ∃ x2 : vp_A, (wd cy ad n g)[o]? = some (ad o, .inl (cy t, x2)) ∧ x2.1 = N := by
    rw [wd_at ho, hg]
    rcases y with y | y | y | y | y <;> exact ⟨_, rfl, rfl⟩
  exact va_alen (D := D) C0.1 C0.2.1 C0.2.2.2.2.2.2.1 hP o t h1 (ht cy) (by rw [h2]; exact hv) d (kk p e s m args below meth c D cy A ad Q H locs ls C0 x i a hP hS hl)
theorem VS.aald {o N : Nat} {f : Nat → Option Nat} {j : Int32} {v : Value} (d : decode cc pc = .ok (.aaload, 1)) (ho : o < n) (hg : g o = .inl (3, N, .inr (.inr (.inr (.inr f))))) (hin : vp_in j N) (hv : va_rf (f j.toNatClampNeg) = v) (kk : VS l R own cc nL X cl sl n g  (pc + 1) L (v :: st)) : VS l R own cc nL X cl sl n g  pc L (.int j :: .ref o :: st) := by
  intro p e s m args below meth c D cy A ad Q H locs ls C0 x i a hP hS hl
  refine va_aldq (D := D) C0.1 C0.2.1 C0.2.2.2.2.2.2.1 hP o 3 (wat_q ho hg) rfl hin d ?_
  have e9 : va_rf ((f j.toNatClampNeg).map ad) = cV ad v := by rw [← hv]; cases f j.toNatClampNeg <;> rfl
  show W p l e R s m args below meth c H locs cl sl Q (F0 m (pc + 1) ls (va_rf ((f j.toNatClampNeg).map ad) :: List.map (cV ad) st))
  rw [e9]
  exact kk p e s m args below meth c D cy A ad Q H locs ls C0 x i a hP hS hl
theorem VS.aast {o o2 N ci : Nat} {f : Nat → Option Nat} {j : Int32} {fs : List Value} {T : u_T} {M : Nat} (d : decode cc pc = .ok (.aastore, 1)) (ho : o < n) (hg : g o = .inl (3, N, .inr (.inr (.inr (.inr f))))) (hin : vp_in j N) (ho2 : o2 < n) (hg2 : g o2 = .inr (ci, fs)) (hc : vwCl[ci]? = some (RX0, T, M)) (kk : VS l R own cc nL X cl sl n (va_up g o (.inl (3, N, .inr (.inr (.inr (.inr (va_up f j.toNatClampNeg (some o2)))))))) (pc + 1) L st) : VS l R own cc nL X cl sl n g  pc L (.ref o2 :: .int j :: .ref o :: st) := by
  intro p e s m args below meth c D cy A ad Q H locs ls C0 x i a hP hS hl
  refine va_astq (D := D) C0.1 C0.2.1 C0.2.2.2.2.2.2.1 hP (wd_D i a) hS o 3 o2 ci (wat_q ho hg) rfl (wat_r ho2 hg2) hc hin d (fun H1 locs1 hP1 _ hS1 => ?_)
  have e3 : va_up (fun i => (f i).map ad) j.toNatClampNeg (some (ad o2)) = fun i => (va_up f j.toNatClampNeg (some o2) i).map ad := by
    funext q; unfold va_up; split <;> rfl
  have e2 : (wd cy ad n g).set o (ad o, .inl (cy 3, N, .inr (.inr (.inr (.inr (va_up (fun i => (f i).map ad) j.toNatClampNeg (some (ad o2)))))))) = wd cy ad n (va_up g o (.inl (3, N, .inr (.inr (.inr (.inr (va_up f j.toNatClampNeg (some o2)))))))) := by
    rw [← wd_set ho, e3]; rfl
  rw [e2] at hP1
  exact kk p e s m args below meth c D cy A ad Q H1 locs1 ls C0 x i a hP1 hS1 hl
theorem VS.gslen {Cn fn ref : String} {N index : Nat} {f : Nat → Int32} {v : Int32} (hsa : ∀ (A : Nat → Prop) (U : State) (H : Heap), EN A U H → SA Cn fn N f A U H) (d : decode cc pc = .ok (.getstatic index, 3)) (d2 : decode cc (pc + 3) = .ok (.arraylength, 1)) (hlink : (Cond.fieldLink own index Cn fn "[I") ∈ TB) (hv : Int32.ofNat N = v) (kk : VS l R own cc nL X cl sl n g  (pc + 4) L (.int v :: st)) : VS l R own cc nL X cl sl n g  pc L st := by
  intro p e s m args below meth c D cy A ad Q H locs ls C0 x i a hP hS hl
  obtain ⟨t, h1, h2⟩ := hsa _ _ _ C0.2.2.2.2.2.2.2
  exact va_gets C0.1 C0.2.1 h1 hS C0.2.2.2.1 (C0.2.2.2.2.1 _ hlink) (fun _ h => h) d (va_tlen C0.1 C0.2.1 h2 hS hv d2 (kk p e s m args below meth c D cy A ad Q H locs ls C0 x i a hP hS hl))
theorem VS.gsld {Cn fn ref : String} {N index : Nat} {f : Nat → Int32} {k : Fin 4} {j : Int32} (hsa : ∀ (A : Nat → Prop) (U : State) (H : Heap), EN A U H → SA Cn fn N f A U H) (d : decode cc pc = .ok (.getstatic index, 3)) (d2 : decode cc (pc + 3) = .ok (.iload_n k, 1)) (d3 : decode cc (pc + 4) = .ok (.iaload, 1)) (hlink : (Cond.fieldLink own index Cn fn "[I") ∈ TB) (hv : L[(k : Nat)]? = some (some (.int j))) (hin : vp_in j N) (kk : VS l R own cc nL X cl sl n g  (pc + 5) L (.int (f j.toNatClampNeg) :: st)) : VS l R own cc nL X cl sl n g  pc L st := by
  intro p e s m args below meth c D cy A ad Q H locs ls C0 x i a hP hS hl
  obtain ⟨t, h1, h2⟩ := hsa _ _ _ C0.2.2.2.2.2.2.2
  exact va_gets C0.1 C0.2.1 h1 hS C0.2.2.2.1 (C0.2.2.2.2.1 _ hlink) (fun _ h => h) d (lv_iload_n C0.1 C0.2.1 d2 rfl (lget hl hv) (va_ti C0.1 C0.2.1 h2 hS hin rfl d3 (kk p e s m args below meth c D cy A ad Q H locs ls C0 x i a hP hS hl)))
theorem VS.mmin {index : Nat} {x y : Int32} (d : decode cc pc = .ok (.invokestatic index, 3)) (hlink : (Cond.methodLink own index Lib.Math.min.name) ∈ TB) (hR : 1 ≤ R.frames ∧ 29 ≤ R.locals ∧ cl ≤ R.cells ∧ sl ≤ R.slots) (hst : (st.map fun v => v.category).sum ≤ 16) (kk : VS l R own cc nL X cl sl n g  (pc + 3) L (.int (if y < x then y else x) :: st)) : VS l R own cc nL X cl sl n g  pc L (.int y :: .int x :: st) := fun p e s m args below meth c D cy A ad Q H locs ls C0 x0 i a hP hS hl => va_mmin C0.1 C0.2.1 (C0.2.2.1.trans hl.1.symm) C0.2.2.2.1 (C0.2.2.2.2.1 _ hlink) (C0.2.2.2.2.1 _ st_J9_min) (C0.2.2.2.2.1 _ ini_J9) (C0.2.2.2.2.1 _ cd_J9_min) hR.1 (by rw [cV_cats]; omega) hR.2.2.1 hR.2.2.2 d (kk p e s m args below meth c D cy A ad Q H locs ls C0 x0 i a hP hS hl)
theorem VS.mmax {index : Nat} {x y : Int32} (d : decode cc pc = .ok (.invokestatic index, 3)) (hlink : (Cond.methodLink own index Lib.Math.max.name) ∈ TB) (hR : 1 ≤ R.frames ∧ 29 ≤ R.locals ∧ cl ≤ R.cells ∧ sl ≤ R.slots) (hst : (st.map fun v => v.category).sum ≤ 16) (kk : VS l R own cc nL X cl sl n g  (pc + 3) L (.int (if x < y then y else x) :: st)) : VS l R own cc nL X cl sl n g  pc L (.int y :: .int x :: st) := fun p e s m args below meth c D cy A ad Q H locs ls C0 x0 i a hP hS hl => va_mmax C0.1 C0.2.1 (C0.2.2.1.trans hl.1.symm) C0.2.2.2.1 (C0.2.2.2.2.1 _ hlink) (C0.2.2.2.2.1 _ st_J9_max) (C0.2.2.2.2.1 _ ini_J9) (C0.2.2.2.2.1 _ cd_J9_max) hR.1 (by rw [cV_cats]; omega) hR.2.2.1 hR.2.2.2 d (kk p e s m args below meth c D cy A ad Q H locs ls C0 x0 i a hP hS hl)
end VSR
end
section
/-! contracts of the abstract machine, calls with a renaming of the cells (the frame rule) -/
def wM (y : MethodName) (cc : ByteArray) (n : Nat) (ret : Option FieldType) : List Cond := Cond.code y cc n ret :: TB
theorem wM_good {y : MethodName} {cc : ByteArray} {n : Nat} {ret : Option FieldType} (h : Cond.code y cc n ret ∈ TB) : GoodIn TB (wM y cc n ret) := fun w hw => by
  rcases List.mem_cons.mp hw with rfl | h1
  · exact tb_good _ h
  · exact tb_good _ h1
def PreF (D : va_G) (cy : Nat → ClassId) (ad : Nat → Nat) (n : Nat) (g : Nat → va_E) : State → Prop := fun U => va_P D vwCl (wd cy ad n g) U.heap ∧ va_K D vwCl (tysA cy) U ∧ aI ad n ∧ EN (AA ad n) U U.heap
def QF (D : va_G) (cy : Nat → ClassId) (ad : Nat → Nat) (n : Nat) (r : Option Value) (g2 : Nat → va_E) : Array Value → State → Outcome → State → Prop := fun _ st oc t => (oc = .returned (r.map (cV ad)) ∧ va_P D vwCl (wd cy ad n g2) t.heap) ∧ va_F (AA ad n) st t
/-- from the cells g the method with the arguments as gives r and leaves the cells g2; nothing else changes, nothing is made -/
def CtF (l : Launch) (y : MethodName) (cc : ByteArray) (nL : Nat) (ret : Option FieldType) (rm : Room) (as : List Value) (n : Nat) (g : Nat → va_E) (r : Option Value) (g2 : Nat → va_E) : Prop := ∀ (D : va_G) (cy : Nat → ClassId) (ad : Nat → Nat), Met l y (wM y cc nL ret) rm (va_Pc (as.map (cV ad)) (PreF D cy ad n g)) (QF D cy ad n r g2) 0 0 (AA ad n)
def XF (ret : Option FieldType) (n : Nat) (r : Option Value) (g2 : Nat → va_E) : XT := fun s args below meth D cy A ad Q => meth.sig.returnType = ret ∧ A = AA ad n ∧ Q = MQ below (QF D cy ad n r g2) args s 0 0 (AA ad n)
theorem CtF.of {l : Launch} {y : MethodName} {cc : ByteArray} {nL : Nat} {ret : Option FieldType} {rm : Room} {as : List Value} {n : Nat} {g : Nat → va_E} {r : Option Value} {g2 : Nat → va_E} {own : String} (L0 : List (Option Value)) (hy : plainName y.cls = true) (hown : y.cls = own) (hlen : ∀ ad : Nat → Nat, (lg_sl (as.map (cV ad))).length ≤ nL) (hL : ∀ ad : Nat → Nat, asL ad 0 L0 = lv_args 0 (as.map (cV ad))) (hv : VS l rm own cc nL (XF ret n r g2) 0 0 n g 0 L0 []) : CtF l y cc nL ret rm as n g r g2 := by
  intro D cy ad
  refine Met.ofW (cc := cc) (maxL := nL) (ret := ret) hy rfl ?_
  intro p e s m args below meth c s₁ B hml hp
  obtain ⟨rfl, hP, hK, hI, hE⟩ := hp
  have hts := atoms_spec (ws := wM y cc nL ret) B.pre
  have hown2 : s.vm.findClass own = some m.cls := by rw [← hown]; exact findClass_of_methodNamed B.named
  rw [lg_entry_eq]
  exact hv p e s m _ below meth c D cy (AA ad n) ad _ s.heap [] _ ⟨B.exec, B.bytes, hml, hown2, fun w hw => hts w (List.mem_cons_of_mem _ hw), B.notSynchronized, hK, hE⟩ ⟨B.returns, rfl, rfl⟩ hI (fun k hk => ⟨k, hk, rfl⟩) hP va_S.rf (by rw [hL]; exact lv_entry _ (hlen ad))
theorem wd_congr {cy : Nat → ClassId} {ad : Nat → Nat} {n : Nat} {g g2 : Nat → va_E} (h : ∀ k, k < n → g k = g2 k) : wd cy ad n g = wd cy ad n g2 := List.map_congr_left fun k hk => by rw [h k (List.mem_range.mp hk)]
section RET
variable {l : Launch} {R : Room} {own : String} {cc : ByteArray} {nL : Nat} {n : Nat} {g g2 : Nat → va_E} {pc : Nat} {L : List (Option Value)} {r : Option Value}
theorem VS.iret {v : Int32} (d : decode cc pc = .ok (.ireturn, 1)) (hr : r = some (.int v)) (hg : ∀ k, k < n → g k = g2 k) : VS l R own cc nL (XF (some .int) n r g2) 0 0 n g pc L [.int v] := by
  intro p e s m args below meth c D cy A ad Q H locs ls C0 x i a hP hS hl
  obtain ⟨h1, h2, h3⟩ := x
  subst h2; subst h3; subst hr
  rw [wd_congr hg] at hP
  exact W.iret C0.1 C0.2.1 h1 (fun t ht _ => ⟨⟨rfl, by rw [ht]; exact hP⟩, hS.F ht⟩) hS.2.2 d (hlocks := C0.2.2.2.2.2.1)
theorem VS.zret {v : Int32} (d : decode cc pc = .ok (.ireturn, 1)) (hn : narrow .boolean (.int v) = .int v) (hr : r = some (.int v)) (hg : ∀ k, k < n → g k = g2 k) : VS l R own cc nL (XF (some .boolean) n r g2) 0 0 n g pc L [.int v] := by
  intro p e s m args below meth c D cy A ad Q H locs ls C0 x i a hP hS hl
  obtain ⟨h1, h2, h3⟩ := x
  subst h2; subst h3; subst hr
  rw [wd_congr hg] at hP
  exact W.zret C0.1 C0.2.1 h1 hn (fun t ht _ => ⟨⟨rfl, by rw [ht]; exact hP⟩, hS.F ht⟩) hS.2.2 d (hlocks := C0.2.2.2.2.2.1)
theorem VS.vret (d : decode cc pc = .ok (.return_, 1)) (hr : r = none) (hg : ∀ k, k < n → g k = g2 k) : VS l R own cc nL (XF none n r g2) 0 0 n g pc L [] := by
  intro p e s m args below meth c D cy A ad Q H locs ls C0 x i a hP hS hl
  obtain ⟨h1, h2, h3⟩ := x
  subst h2; subst h3; subst hr
  rw [wd_congr hg] at hP
  exact W.vret C0.1 C0.2.1 h1 (fun t ht _ => ⟨⟨rfl, by rw [ht]; exact hP⟩, hS.F ht⟩) hS.2.2 d (hlocks := C0.2.2.2.2.2.1)
theorem VS.aret {o : Nat} {C : String} (d : decode cc pc = .ok (.areturn, 1)) (hr : r = some (.ref o)) (hg : ∀ k, k < n → g k = g2 k) : VS l R own cc nL (XF (some (.object C)) n r g2) 0 0 n g pc L [.ref o] := by
  intro p e s m args below meth c D cy A ad Q H locs ls C0 x i a hP hS hl
  obtain ⟨h1, h2, h3⟩ := x
  subst h2; subst h3; subst hr
  rw [wd_congr hg] at hP
  exact W.aret (v := .ref (ad o)) C0.1 C0.2.1 h1 (Or.inl ⟨_, rfl⟩) (Or.inr ⟨_, rfl⟩) (fun t ht _ => ⟨⟨rfl, by rw [ht]; exact hP⟩, hS.F ht⟩) hS.2.2 d (hlocks := C0.2.2.2.2.2.1)
end RET
/-! renaming -/
def rE (ρ : Nat → Nat) (e : va_E) : va_E := cE (fun t => t) ρ e
theorem cE_rE (cy : Nat → ClassId) (ad ρ : Nat → Nat) (e : va_E) : cE cy ad (rE ρ e) = cE cy (fun i => ad (ρ i)) e := by
  rcases e with ⟨t, n, y⟩ | ⟨ci, fs⟩
  · rcases y with y | y | y | y | y <;> try rfl
    show (Sum.inl (cy t, n, _) : va_E) = Sum.inl (cy t, n, _)
    simp only [Option.map_map]
    rfl
  · show (Sum.inr (ci, _) : va_E) = Sum.inr (ci, _)
    simp only [List.map_map]
    congr 2
    exact List.map_congr_left fun v _ => cV_comp ad ρ v
def frm (ρ : Nat → Nat) (n1 : Nat) (g1 g : Nat → va_E) : Nat → va_E := fun k => match (List.range n1).find? (fun i => ρ i == k) with
  | some i => rE ρ (g1 i)
  | none => g k
def Frm (ρ : Nat → Nat) (n1 : Nat) (g1 : Nat → va_E) (n : Nat) (g : Nat → va_E) : Prop := (∀ i, i < n1 → ρ i < n) ∧ (∀ i j, i < n1 → j < n1 → ρ i = ρ j → i = j) ∧ ∀ i, i < n1 → g (ρ i) = rE ρ (g1 i)
theorem frm_in {ρ : Nat → Nat} {n1 : Nat} {g1 g : Nat → va_E} (hi : ∀ i j, i < n1 → j < n1 → ρ i = ρ j → i = j) {i : Nat} (h : i < n1) : frm ρ n1 g1 g (ρ i) = rE ρ (g1 i) := by
  unfold frm
  cases hf : (List.range n1).find? (fun j => ρ j == ρ i) with
  | none =>
    have h1 := List.find?_eq_none.mp hf i (List.mem_range.mpr h)
    simp at h1
  | some j =>
    have h1 := List.find?_some hf
    have h2 := List.mem_range.mp (List.mem_of_find?_eq_some hf)
    have h3 : ρ j = ρ i := by simpa using h1
    rw [hi j i h2 h h3]
theorem frm_out {ρ : Nat → Nat} {n1 : Nat} {g1 g : Nat → va_E} {k : Nat} (h : ∀ i, i < n1 → ρ i ≠ k) : frm ρ n1 g1 g k = g k := by
  unfold frm
  cases hf : (List.range n1).find? (fun j => ρ j == k) with
  | none => rfl
  | some j =>
    have h1 := List.find?_some hf
    have h2 := List.mem_range.mp (List.mem_of_find?_eq_some hf)
    exact absurd (by simpa using h1) (h j h2)
theorem frm_0 {ρ : Nat → Nat} {g1 g : Nat → va_E} : frm ρ 0 g1 g = g := rfl
theorem EN.calling {A : Nat → Prop} {U : State} {H : Heap} (a : Array Value) (g : JFrame) (mk : MethodId) (h : EN A U H) : EN A (U.calling g mk a) H := by
  have hv : U.vm = (U.calling g mk a).vm := rfl
  have hvm : U.vm.Alike (U.calling g mk a).vm := Vm.Alike.refl U.vm
  refine ⟨⟨h.1.1.moved hvm, h.1.2.1.moved hvm, h.1.2.2.1.moved hvm, h.1.2.2.2.moved hvm⟩, fun w hw => ?_, va_AO.moved hvm h.2.2⟩
  have h1 := h.2.1 w hw
  simp only [nestW, List.mem_cons, List.not_mem_nil, or_false] at hw
  rcases hw with rfl | rfl | rfl | rfl | rfl | rfl <;> exact va_Nw.same rfl hv h1
theorem PreF.blind {av : List Value} {D : va_G} {cy : Nat → ClassId} {ad : Nat → Nat} {n : Nat} {g : Nat → va_E} : FrameBlind (va_Pc av (PreF D cy ad n g)) := fun a U gf mk q => by
  obtain ⟨q0, qP, qK, qI, qE⟩ := q
  exact ⟨q0, qP, va_K.moved (u := U) (U := U.calling gf mk a) (Vm.Alike.refl U.vm) qK, qI, qE.calling a gf mk⟩
theorem EN.now {A : Nat → Prop} {s U : State} {H : Heap} {locs : List Loc} (h : EN A s s.heap) (hS : va_S A s.heap H locs) (hW : s.WarmedH U.vm) : EN A U H := (h.kept fun a h1 h2 => hS.2.1 a h1 h2).warm hW
theorem preF_of {D : va_G} {cy : Nat → ClassId} {ad ρ : Nat → Nat} {n n1 : Nat} {g g1 : Nat → va_E} {A : Nat → Prop} {s U : State} {H : Heap} {locs : List Loc} (hF : Frm ρ n1 g1 n g) (hK : va_K D vwCl (tysA cy) s) (hE : EN A s s.heap) (i : aI ad n) (a : ∀ k, k < n → A (ad k)) (hP : va_P D vwCl (wd cy ad n g) H) (hS : va_S A s.heap H locs) (hU : U.heap = H) (hW : s.WarmedH U.vm) : PreF D cy (fun i => ad (ρ i)) n1 g1 U := by
  obtain ⟨f1, f2, f3⟩ := hF
  refine ⟨?_, va_K.moved hW.alike hK, fun x y hx hy h => f2 x y hx hy (i _ _ (f1 x hx) (f1 y hy) h), ?_⟩
  · rw [hU]
    intro k q hq
    obtain ⟨hk, rfl⟩ := wd_inv hq
    have h1 := hP (ρ k) _ (wd_at (f1 k hk))
    rw [f3 k hk, cE_rE] at h1
    exact h1
  · rw [hU]
    refine (hE.now hS hW).narrow ?_
    rintro q ⟨k, hk, rfl⟩
    exact a _ (f1 k hk)
/-- behind a call: the cells that it had are as it left them, the rest is as it was -/
theorem run_endF {p : Program} {l : Launch} {e : Env} {R : Room} {s : State} {m : MethodId} {args : Array Value} {below : List Frame} {meth : Method} {c : Code} {D : va_G} {cy : Nat → ClassId} {A : Nat → Prop} {ad ρ : Nat → Nat} {Q : State → Prop} {H : Heap} {locs : List Loc} {ls : Array Slot} {own : String} {cc : ByteArray} {nL : Nat} {X : XT} {cl sl n n1 : Nat} {g g1 g2 : Nat → va_E} {pc : Nat} {L : List (Option Value)} {st st0 : List Value} {r : Option Value} {av : Array Value}
    (hr : va_Run p l e R s m args below meth c H locs cl sl 0 0 (F0 m pc ls st0) (st.map (cV ad)) (QF D cy (fun i => ad (ρ i)) n1 r g2 av) (AA (fun i => ad (ρ i)) n1)) (hF : Frm ρ n1 g1 n g)
    (C0 : Cx p s m args meth c own cc nL D cy A) (x : X s args below meth D cy A ad Q) (i : aI ad n) (a : ∀ k, k < n → A (ad k)) (hP : va_P D vwCl (wd cy ad n g) H) (hS : va_S A s.heap H locs) (hl : lv_has ls nL (asL ad 0 L))
    (kk : VS l R own cc nL X cl sl n (frm ρ n1 g2 g) (pc + 3) L ((r.map (cV ρ)).toList ++ st)) : W p l e R s m args below meth c H locs cl sl Q (F0 m pc ls st0) := by
  intro T hT X0
  obtain ⟨v, st₀, t, T', L2, h0, X', hL, e1, e2, ⟨⟨hv, hp⟩, hz, hk⟩, stp⟩ := hr T hT X0
  obtain ⟨f1, f2, f3⟩ := hF
  have hv2 : v = (r.map (cV ρ)).map (cV ad) := by
    cases hv
    cases r <;> simp [cV_comp]
  rw [h0] at hz hk
  have hA1 : ∀ q, AA (fun i => ad (ρ i)) n1 q → A q := by
    rintro q ⟨k, hk, rfl⟩
    exact a _ (f1 k hk)
  have hP1 : va_P D vwCl (wd cy ad n (frm ρ n1 g2 g)) T'.heap := by
    rw [e1]
    intro k q hq
    obtain ⟨hk1, rfl⟩ := wd_inv hq
    by_cases hx : ∃ j, j < n1 ∧ ρ j = k
    · obtain ⟨j, hj, rfl⟩ := hx
      rw [frm_in f2 hj, cE_rE]
      exact hp j _ (wd_at hj)
    · rw [frm_out (fun j hj hjk => hx ⟨j, hj, hjk⟩)]
      have h1 := hP k _ (wd_at hk1)
      refine h1.kept (hk _ h1.lt ?_)
      rintro ⟨j, hj, hjk⟩
      exact hx ⟨j, hj, (i _ _ hk1 (f1 j hj) hjk).symm⟩
  have hS1 : va_S A s.heap T'.heap (locs ++ L2) := ⟨Nat.le_trans hS.1 (by rw [e1]; exact hz), fun q h1 h2 => by rw [e1, hk q (Nat.lt_of_lt_of_le h1 hS.1) (fun z => h2 (hA1 q z))]; exact hS.2.1 q h1 h2, fun q hq => by
      rcases List.mem_append.mp hq with h | h
      · exact hS.2.2 q h
      · exact hA1 _ (hL q h)⟩
  obtain ⟨t2, a1, b1⟩ := kk p e s m args below meth c D cy A ad Q T'.heap (locs ++ L2) ls C0 x i a hP1 hS1 hl T' rfl X'
  refine ⟨t2, stp t2 ?_, b1⟩
  have e3 : ((r.map (cV ρ)).toList ++ st).map (cV ad) = v.toList ++ st.map (cV ad) := by
    rw [List.map_append, hv2]
    cases r <;> rfl
  rw [e3] at a1
  exact a1
/-- a method's standing facts -/
def MI (y : MethodName) (cc : ByteArray) (nL : Nat) (ret : Option FieldType) (k : Nat) : Prop := Cond.code y cc nL ret ∈ TB ∧ Cond.initialized y.cls ∈ TB ∧ y.cls ≠ "java/lang/invoke/MethodHandle" ∧ y.cls ≠ "java/lang/invoke/VarHandle" ∧ (parseMethodDescriptor y.desc).map (fun d => d.parameters.length) = some k
section CALLS
variable {l : Launch} {R : Room} {own : String} {cc : ByteArray} {nL : Nat} {X : XT} {cl sl n : Nat} {g : Nat → va_E} {pc : Nat} {L : List (Option Value)} {st stk : List Value}
variable {y : MethodName} {cc1 : ByteArray} {nL1 n1 index : Nat} {ret1 : Option FieldType} {rm1 : Room} {as : List Value} {g1 g2 : Nat → va_E} {r : Option Value}
theorem VS.callS (ρ : Nat → Nat) (hC : CtF l y cc1 nL1 ret1 rm1 as n1 g1 r g2) (d : decode cc pc = .ok (.invokestatic index, 3)) (hF : Frm ρ n1 g1 n g) (hm : MI y cc1 nL1 ret1 as.length) (hst : Cond.static y ∈ TB) (hml : Cond.methodLink own index y ∈ TB)
    (hR : (rm1.frames + 1 ≤ R.frames ∧ 8 + (nL1 + 11) + rm1.locals ≤ R.locals) ∧ (rm1.cells = 0 ∧ rm1.slots = 0) ∧ cl ≤ R.cells ∧ sl ≤ R.slots) (hst8 : (st.map fun v => v.category).sum ≤ 8) (hk : stk = (as.map (cV ρ)).reverse ++ st)
    (kk : VS l R own cc nL X cl sl n (frm ρ n1 g2 g) (pc + 3) L ((r.map (cV ρ)).toList ++ st)) : VS l R own cc nL X cl sl n g pc L stk := by
  intro p e s m args below meth c D cy A ad Q H locs ls C0 x i a hP hS hl
  have hts := C0.2.2.2.2.1
  refine run_endF (va_runS (As := as.map (cV (fun i => ad (ρ i)))) (rest := st.map (cV ad)) (n := as.length) (Ts := TB) ⟨C0.1, C0.2.1, C0.2.2.1, C0.2.2.2.1, hts⟩ (hC D cy (fun i => ad (ρ i))) ⟨callB_of as.length hts (wM_good hm.1) rfl hR.2.1.1 hR.2.1.2 (hts _ hm.2.1) (hts _ hml) hm.2.2 hR.1, hts _ hst⟩ ⟨PreF.blind, fun U hU hW => ⟨rfl, preF_of hF C0.2.2.2.2.2.2.1 C0.2.2.2.2.2.2.2 i a hP hS hU hW⟩⟩ rfl (by rw [List.length_map]) hl.1 ?_ (lv_room (by rw [cV_cats]; exact hst8)) d ⟨hR.2.2.1, hR.2.2.2⟩) hF C0 x i a hP hS hl kk
  show stk.map (cV ad) = _
  rw [hk, List.map_append, List.map_reverse, List.map_map]
  congr 2
  exact List.map_congr_left fun v _ => cV_comp ad ρ v
theorem VS.callSN (ρ : Nat → Nat) (host : String) (hC : CtF l y cc1 nL1 ret1 rm1 as n1 g1 r g2) (d : decode cc pc = .ok (.invokestatic index, 3)) (hF : Frm ρ n1 g1 n g) (hm : MI y cc1 nL1 ret1 as.length) (hst : Cond.static y ∈ TB) (hml : Cond.methodLinkNest own index y host ∈ nestW)
    (hR : (rm1.frames + 1 ≤ R.frames ∧ 8 + (nL1 + 11) + rm1.locals ≤ R.locals) ∧ (rm1.cells = 0 ∧ rm1.slots = 0) ∧ cl ≤ R.cells ∧ sl ≤ R.slots) (hst8 : (st.map fun v => v.category).sum ≤ 8) (hk : stk = (as.map (cV ρ)).reverse ++ st)
    (kk : VS l R own cc nL X cl sl n (frm ρ n1 g2 g) (pc + 3) L ((r.map (cV ρ)).toList ++ st)) : VS l R own cc nL X cl sl n g pc L stk := by
  intro p e s m args below meth c D cy A ad Q H locs ls C0 x i a hP hS hl
  have hts := C0.2.2.2.2.1
  refine run_endF (va_runSN (As := as.map (cV (fun i => ad (ρ i)))) (rest := st.map (cV ad)) (n := as.length) (Ts := TB) ⟨C0.1, C0.2.1, C0.2.2.1, C0.2.2.2.1, hts⟩ (hC D cy (fun i => ad (ρ i))) ⟨va_cnB as.length hts (wM_good hm.1) rfl hR.2.1.1 hR.2.1.2 (C0.2.2.2.2.2.2.2.2.1 _ hml) (hts _ hm.2.1) hm.2.2 hR.1, hts _ hst, trivial⟩ ⟨PreF.blind, fun U hU hW => ⟨rfl, preF_of hF C0.2.2.2.2.2.2.1 C0.2.2.2.2.2.2.2 i a hP hS hU hW⟩⟩ rfl (by rw [List.length_map]) hl.1 ?_ (lv_room (by rw [cV_cats]; exact hst8)) d ⟨hR.2.2.1, hR.2.2.2⟩) hF C0 x i a hP hS hl kk
  show stk.map (cV ad) = _
  rw [hk, List.map_append, List.map_reverse, List.map_map]
  congr 2
  exact List.map_congr_left fun v _ => cV_comp ad ρ v
theorem VS.callV {o ci N : Nat} {T : u_T} {fs : List Value} {as1 : List Value} (ρ : Nat → Nat) (hC : CtF l y cc1 nL1 ret1 rm1 (.ref o :: as1) n1 g1 r g2) (d : decode cc pc = .ok (.invokevirtual index, 3)) (hF : Frm ρ n1 g1 n g) (hm : MI y cc1 nL1 ret1 as1.length) (him : Cond.instanceMethod y ∈ TB) (hse : Cond.selects y.cls y y ∈ TB) (hml : Cond.methodLink own index y ∈ TB)
    (ho : o < n1) (hg1 : g1 o = .inr (ci, fs)) (hc : vwCl[ci]? = some (y.cls, T, N))
    (hR : (rm1.frames + 1 ≤ R.frames ∧ 8 + (nL1 + 11) + rm1.locals ≤ R.locals) ∧ (rm1.cells = 0 ∧ rm1.slots = 0) ∧ cl ≤ R.cells ∧ sl ≤ R.slots) (hst8 : (st.map fun v => v.category).sum ≤ 8) (hk : stk = (as1.map (cV ρ)).reverse ++ .ref (ρ o) :: st)
    (kk : VS l R own cc nL X cl sl n (frm ρ n1 g2 g) (pc + 3) L ((r.map (cV ρ)).toList ++ st)) : VS l R own cc nL X cl sl n g pc L stk := by
  intro p e s m args below meth c D cy A ad Q H locs ls C0 x i a hP hS hl
  have hts := C0.2.2.2.2.1
  have hgo : g (ρ o) = .inr (ci, fs.map (cV ρ)) := by rw [hF.2.2 o ho, hg1]; rfl
  refine run_endF (va_runV (C := y.cls) (b := ad (ρ o)) (As := as1.map (cV (fun i => ad (ρ i)))) (rest := st.map (cV ad)) (n := as1.length) (Ts := TB) ⟨C0.1, C0.2.1, C0.2.2.1, C0.2.2.2.1, hts⟩ (hC D cy (fun i => ad (ρ i))) ⟨callB_of as1.length hts (wM_good hm.1) rfl hR.2.1.1 hR.2.1.2 (hts _ hm.2.1) (hts _ hml) hm.2.2 hR.1, hts _ him, hts _ hse⟩ ⟨PreF.blind, va_recv C0.2.2.2.2.2.2.1 hP hc (wat_r (hF.1 o ho) hgo), fun U hU hW => ⟨rfl, preF_of hF C0.2.2.2.2.2.2.1 C0.2.2.2.2.2.2.2 i a hP hS hU hW⟩⟩ rfl (by rw [List.length_map]) hl.1 ?_ (lv_room (by rw [cV_cats]; exact hst8)) d ⟨hR.2.2.1, hR.2.2.2⟩) hF C0 x i a hP hS hl kk
  show stk.map (cV ad) = _
  rw [hk, List.map_append, List.map_reverse, List.map_map, List.map_cons]
  congr 2
  exact List.map_congr_left fun v _ => cV_comp ad ρ v
end CALLS
end
section
/-! cells of a fixed shape, filled by numbers: cell c, place j holds the number S c j -/
abbrev Shp : Type := (Nat × List (Option Nat)) ⊕ (Nat × Nat) ⊕ (Nat × (Nat → Option Nat))
abbrev SS : Type := Nat → Nat → Int32
def shF (fl : List (Option Nat)) (v : Nat → Int32) : List Value := fl.mapIdx (fun j o => match o with
  | some r => .ref r
  | none => .int (v j))
def shC (h : Shp) (v : Nat → Int32) : va_E := match h with
  | .inl (ci, fl) => .inr (ci, shF fl v)
  | .inr (.inl (t, N)) => .inl (t, N, .inl v)
  | .inr (.inr (N, f)) => .inl (3, N, .inr (.inr (.inr (.inr f))))
def shW (sh : Nat → Shp) (S : SS) (k : Nat) : va_E := shC (sh k) (S k)
/-- cell c is filled by f -/
def upC (S : SS) (c : Nat) (f : Nat → Int32) : SS := fun a => if a = c then f else S a
theorem upC_at (S : SS) (c : Nat) (f : Nat → Int32) : upC S c f c = f := if_pos rfl
theorem upC_ne {S : SS} {c a : Nat} {f : Nat → Int32} (h : a ≠ c) : upC S c f a = S a := if_neg h
theorem upC_upC (S : SS) (c : Nat) (f h : Nat → Int32) : upC (upC S c f) c h = upC S c h := by
  funext a; unfold upC; split <;> rfl
theorem upC_id (S : SS) (c : Nat) : upC S c (S c) = S := by
  funext a; unfold upC; split
  · rename_i h; rw [h]
  · rfl
theorem upC_comm (S : SS) {c d : Nat} (f h : Nat → Int32) (hcd : c ≠ d) : upC (upC S c f) d h = upC (upC S d h) c f := by
  funext a; unfold upC
  by_cases h1 : a = d
  · subst h1; rw [if_pos rfl, if_neg (Ne.symm hcd), if_pos rfl]
  · rw [if_neg h1, if_neg h1]
abbrev up2 (S : SS) (c j : Nat) (v : Int32) : SS := upC S c (upd (S c) j v)
theorem upd_upd (f : Nat → Int32) (k : Nat) (x y : Int32) : upd (upd f k x) k y = upd f k y := by
  funext a; unfold upd; split <;> rfl
theorem upd_at (f : Nat → Int32) (k : Nat) (x : Int32) : upd f k x k = x := if_pos rfl
theorem upd_ne {f : Nat → Int32} {k a : Nat} {x : Int32} (h : a ≠ k) : upd f k x a = f a := if_neg h
theorem upd_comm (f : Nat → Int32) {k j : Nat} (x y : Int32) (h : k ≠ j) : upd (upd f k x) j y = upd (upd f j y) k x := by
  funext a; unfold upd
  by_cases h1 : a = j
  · subst h1; rw [if_pos rfl, if_neg (Ne.symm h), if_pos rfl]
  · rw [if_neg h1, if_neg h1]
theorem shF_set {fl : List (Option Nat)} {v : Nat → Int32} {k : Nat} {x : Int32} (h : fl[k]? = some none) : (shF fl v).set k (.int x) = shF fl (upd v k x) := by
  apply List.ext_getElem?
  intro j
  by_cases hj : j = k
  · subst hj
    have hlt : j < (shF fl v).length := by
      have := (List.getElem?_eq_some_iff.mp h).1
      simpa [shF] using this
    rw [List.getElem?_set_self hlt]
    simp [shF, List.getElem?_mapIdx, h, upd]
  · rw [List.getElem?_set_ne (Ne.symm hj)]
    simp only [shF, List.getElem?_mapIdx]
    cases fl[j]? with
    | none => rfl
    | some o => cases o <;> simp [upd, hj]
theorem shW_up {sh : Nat → Shp} {S : SS} {o j : Nat} {x : Int32} {e : va_E} (h : e = shC (sh o) (upd (S o) j x)) (k : Nat) : va_up (shW sh S) o e k = shW sh (up2 S o j x) k := by
  by_cases hk : k = o
  · subst hk
    rw [va_up_self, h]
    unfold shW up2
    rw [upC_at]
  · rw [va_up_ne _ _ hk]
    unfold shW up2
    rw [upC_ne hk]
section ST
variable {l : Launch} {R : Room} {own : String} {cc : ByteArray} {nL : Nat} {X : XT} {cl sl n : Nat} {pc : Nat} {L : List (Option Value)} {st stk : List Value} {sh : Nat → Shp} {S : SS}
theorem VS.sgetI {o : Nat} {ref C : String} {T : u_T} {N index : Nat} {fl : List (Option Nat)} (ci : Nat) (d : decode cc pc = .ok (.getfield index, 3)) (hu : ∀ w ∈ u_ws C T N, w ∈ TB) (hc : vwCl[ci]? = some (C, T, N)) (ho : o < n) (k : Nat) (hsh : sh o = .inl (ci, fl)) (hf : fl[k]? = some none) (hk : k < N) (hlink : (Cond.fieldLink own index ref (T k).2.1 (T k).2.2.1) ∈ TB) (hsame : (T k).1 = ref) (kk : VS l R own cc nL X cl sl n (shW sh S) (pc + 3) L (.int (S o k) :: st)) : VS l R own cc nL X cl sl n (shW sh S) pc L (.ref o :: st) :=
  VS.getf ci d hu hc ho k (show shW sh S o = .inr (ci, shF fl (S o)) by unfold shW; rw [hsh]; rfl) hk hlink hsame (by simp [shF, List.getElem?_mapIdx, hf]) kk
theorem VS.sgetR {o r : Nat} {ref C : String} {T : u_T} {N index : Nat} {fl : List (Option Nat)} (ci : Nat) (d : decode cc pc = .ok (.getfield index, 3)) (hu : ∀ w ∈ u_ws C T N, w ∈ TB) (hc : vwCl[ci]? = some (C, T, N)) (ho : o < n) (k : Nat) (hsh : sh o = .inl (ci, fl)) (hf : fl[k]? = some (some r)) (hk : k < N) (hlink : (Cond.fieldLink own index ref (T k).2.1 (T k).2.2.1) ∈ TB) (hsame : (T k).1 = ref) (kk : VS l R own cc nL X cl sl n (shW sh S) (pc + 3) L (.ref r :: st)) : VS l R own cc nL X cl sl n (shW sh S) pc L (.ref o :: st) :=
  VS.getf ci d hu hc ho k (show shW sh S o = .inr (ci, shF fl (S o)) by unfold shW; rw [hsh]; rfl) hk hlink hsame (by simp [shF, List.getElem?_mapIdx, hf]) kk
theorem VS.sput {o : Nat} {ref C : String} {T : u_T} {N index : Nat} {fl : List (Option Nat)} {v : Int32} (ci : Nat) (d : decode cc pc = .ok (.putfield index, 3)) (hu : ∀ w ∈ u_ws C T N, w ∈ TB) (ty0 : Nat → FieldType) (hty : ∀ k, k < N → parseFieldDescriptor (T k).2.2.1 = some (ty0 k)) (hnm : ∀ a, a < N → ∀ b, b < N → a ≠ b → (T a).2.1 ≠ (T b).2.1) (hc : vwCl[ci]? = some (C, T, N)) (ho : o < n) (k : Nat) (hsh : sh o = .inl (ci, fl)) (hf : fl[k]? = some none) (hk : k < N) (hlink : (Cond.fieldLink own index ref (T k).2.1 (T k).2.2.1) ∈ TB) (hsame : (T k).1 = ref) (hfin : (T k).2.2.2 = false) (hn : narrow (ty0 k) (.int v) = .int v) (hfit : fits (ty0 k) (.int v) = true) (kk : VS l R own cc nL X cl sl n (shW sh (up2 S o k v)) (pc + 3) L st) : VS l R own cc nL X cl sl n (shW sh S) pc L (.int v :: .ref o :: st) := by
  have hg : shW sh S o = .inr (ci, shF fl (S o)) := by unfold shW; rw [hsh]; rfl
  refine VS.putf ci d hu ty0 hty hnm hc ho k hg hk hlink hsame hfin (fun _ => hn) (fun _ => hfit) ?_ (VS.heap (fun q _ => shW_up ?_ q) kk)
  · have := (List.getElem?_eq_some_iff.mp hf).1
    simpa [shF] using this
  · rw [shF_set hf, hsh]; rfl
theorem VS.siald {o N : Nat} {j : Int32} (k : Nat) (d : decode cc pc = .ok (.iaload, 1)) (ho : o < n) (hsh : sh o = .inr (.inl (1, N))) (hj : j = nI k) (hk : k < N) (hN : N < 2000) (kk : VS l R own cc nL X cl sl n (shW sh S) (pc + 1) L (.int (S o k) :: st)) : VS l R own cc nL X cl sl n (shW sh S) pc L (.int j :: .ref o :: st) := by
  subst hj
  exact VS.iald d ho (show shW sh S o = .inl (1, N, .inl (S o)) by unfold shW; rw [hsh]; rfl) (vp_in_nI hk (by omega)) (by rw [nI_clamp (by omega)]; exact kk)
theorem VS.szald {o N : Nat} {j : Int32} (k : Nat) (d : decode cc pc = .ok (.baload, 1)) (ho : o < n) (hsh : sh o = .inr (.inl (2, N))) (hj : j = nI k) (hk : k < N) (hN : N < 2000) (kk : VS l R own cc nL X cl sl n (shW sh S) (pc + 1) L (.int (S o k) :: st)) : VS l R own cc nL X cl sl n (shW sh S) pc L (.int j :: .ref o :: st) := by
  subst hj
  exact VS.zald d ho (show shW sh S o = .inl (2, N, .inl (S o)) by unfold shW; rw [hsh]; rfl) (vp_in_nI hk (by omega)) (by rw [nI_clamp (by omega)]; exact kk)
theorem VS.scald {o N : Nat} {j : Int32} (k : Nat) (d : decode cc pc = .ok (.caload, 1)) (ho : o < n) (hsh : sh o = .inr (.inl (0, N))) (hj : j = nI k) (hk : k < N) (hN : N < 2000) (kk : VS l R own cc nL X cl sl n (shW sh S) (pc + 1) L (.int (S o k) :: st)) : VS l R own cc nL X cl sl n (shW sh S) pc L (.int j :: .ref o :: st) := by
  subst hj
  exact VS.cald d ho (show shW sh S o = .inl (0, N, .inl (S o)) by unfold shW; rw [hsh]; rfl) (vp_in_nI hk (by omega)) (by rw [nI_clamp (by omega)]; exact kk)
theorem VS.siast {o N : Nat} {j z : Int32} (k : Nat) (d : decode cc pc = .ok (.iastore, 1)) (ho : o < n) (hsh : sh o = .inr (.inl (1, N))) (hj : j = nI k) (hk : k < N) (hN : N < 2000) (kk : VS l R own cc nL X cl sl n (shW sh (up2 S o k z)) (pc + 1) L st) : VS l R own cc nL X cl sl n (shW sh S) pc L (.int z :: .int j :: .ref o :: st) := by
  subst hj
  exact VS.iast d ho (show shW sh S o = .inl (1, N, .inl (S o)) by unfold shW; rw [hsh]; rfl) (vp_in_nI hk (by omega)) (VS.heap (fun q _ => shW_up (by rw [hsh, nI_clamp (by omega)]; rfl) q) kk)
theorem VS.szast {o N : Nat} {j z : Int32} (k : Nat) (d : decode cc pc = .ok (.bastore, 1)) (ho : o < n) (hsh : sh o = .inr (.inl (2, N))) (hj : j = nI k) (hk : k < N) (hN : N < 2000) (kk : VS l R own cc nL X cl sl n (shW sh (up2 S o k (vp_nar .boolean z))) (pc + 1) L st) : VS l R own cc nL X cl sl n (shW sh S) pc L (.int z :: .int j :: .ref o :: st) := by
  subst hj
  exact VS.zast d ho (show shW sh S o = .inl (2, N, .inl (S o)) by unfold shW; rw [hsh]; rfl) (vp_in_nI hk (by omega)) (VS.heap (fun q _ => shW_up (by rw [hsh, nI_clamp (by omega)]; rfl) q) kk)
theorem VS.scast {o N : Nat} {j z : Int32} (k : Nat) (d : decode cc pc = .ok (.castore, 1)) (ho : o < n) (hsh : sh o = .inr (.inl (0, N))) (hj : j = nI k) (hk : k < N) (hN : N < 2000) (kk : VS l R own cc nL X cl sl n (shW sh (up2 S o k (vp_nar .char z))) (pc + 1) L st) : VS l R own cc nL X cl sl n (shW sh S) pc L (.int z :: .int j :: .ref o :: st) := by
  subst hj
  exact VS.cast d ho (show shW sh S o = .inl (0, N, .inl (S o)) by unfold shW; rw [hsh]; rfl) (vp_in_nI hk (by omega)) (VS.heap (fun q _ => shW_up (by rw [hsh, nI_clamp (by omega)]; rfl) q) kk)
theorem VS.salen {o t N : Nat} {v : Int32} (ty : FieldType) (d : decode cc pc = .ok (.arraylength, 1)) (ho : o < n) (hsh : sh o = .inr (.inl (t, N))) (ht : ∀ cy : Nat → ClassId, (tysA cy)[t]? = some (cy t, ty)) (hv : Int32.ofNat N = v) (kk : VS l R own cc nL X cl sl n (shW sh S) (pc + 1) L (.int v :: st)) : VS l R own cc nL X cl sl n (shW sh S) pc L (.ref o :: st) :=
  VS.alen (t := t) (N := N) (y := .inl (S o)) ty d ho (by unfold shW; rw [hsh]; rfl) ht hv kk
theorem VS.stt {S2 : SS} (h : S = S2) (kk : VS l R own cc nL X cl sl n (shW sh S2) pc L st) : VS l R own cc nL X cl sl n (shW sh S) pc L st := h ▸ kk
end ST
/-! renaming of shapes -/
def shR (ρ : Nat → Nat) (h : Shp) : Shp := match h with
  | .inl (ci, fl) => .inl (ci, fl.map (Option.map ρ))
  | .inr (.inl z) => .inr (.inl z)
  | .inr (.inr (N, f)) => .inr (.inr (N, fun i => (f i).map ρ))
theorem shC_R (ρ : Nat → Nat) (h : Shp) (v : Nat → Int32) : shC (shR ρ h) v = rE ρ (shC h v) := by
  rcases h with ⟨ci, fl⟩ | z | ⟨N, f⟩
  · show (Sum.inr (ci, shF (fl.map (Option.map ρ)) v) : va_E) = Sum.inr (ci, (shF fl v).map (cV ρ))
    congr 2
    apply List.ext_getElem?
    intro j
    simp only [shF, List.getElem?_map, List.getElem?_mapIdx]
    cases fl[j]? with
    | none => rfl
    | some o => cases o <;> rfl
  · rfl
  · rfl
/-- the numbers S2 of the first n1 cells, renamed, over S -/
def mg (ρ : Nat → Nat) (n1 : Nat) (S2 S : SS) : SS := fun k => match (List.range n1).find? (fun i => ρ i == k) with
  | some i => S2 i
  | none => S k
def ShI (ρ : Nat → Nat) (n1 : Nat) (sh1 : Nat → Shp) (n : Nat) (sh : Nat → Shp) : Prop := (∀ i, i < n1 → ρ i < n) ∧ (∀ i j, i < n1 → j < n1 → ρ i = ρ j → i = j) ∧ ∀ i, i < n1 → sh (ρ i) = shR ρ (sh1 i)
theorem ShI.toFrm {ρ : Nat → Nat} {n1 : Nat} {sh1 : Nat → Shp} {n : Nat} {sh : Nat → Shp} (h : ShI ρ n1 sh1 n sh) (S : SS) : Frm ρ n1 (shW sh1 (fun i => S (ρ i))) n (shW sh S) := by
  refine ⟨h.1, h.2.1, fun i hi => ?_⟩
  unfold shW
  rw [h.2.2 i hi, shC_R]
theorem ShI.out {ρ : Nat → Nat} {n1 : Nat} {sh1 : Nat → Shp} {n : Nat} {sh : Nat → Shp} (h : ShI ρ n1 sh1 n sh) (S S2 : SS) (k : Nat) : frm ρ n1 (shW sh1 S2) (shW sh S) k = shW sh (mg ρ n1 S2 S) k := by
  unfold frm shW mg
  cases hf : (List.range n1).find? (fun j => ρ j == k) with
  | none => rfl
  | some j =>
    have h1 := List.find?_some hf
    have h2 := List.mem_range.mp (List.mem_of_find?_eq_some hf)
    have h3 : ρ j = k := by simpa using h1
    show rE ρ (shC (sh1 j) (S2 j)) = shC (sh k) (S2 j)
    rw [← h3, h.2.2 j h2, shC_R]
theorem mg_in {ρ : Nat → Nat} {n1 : Nat} {S2 S : SS} (hi : ∀ i j, i < n1 → j < n1 → ρ i = ρ j → i = j) {i : Nat} (h : i < n1) : mg ρ n1 S2 S (ρ i) = S2 i := by
  unfold mg
  cases hf : (List.range n1).find? (fun j => ρ j == ρ i) with
  | none =>
    have h1 := List.find?_eq_none.mp hf i (List.mem_range.mpr h)
    simp at h1
  | some j =>
    have h1 := List.find?_some hf
    have h2 := List.mem_range.mp (List.mem_of_find?_eq_some hf)
    have h3 : ρ j = ρ i := by simpa using h1
    rw [hi j i h2 h h3]
theorem mg_out {ρ : Nat → Nat} {n1 : Nat} {S2 S : SS} {k : Nat} (h : ∀ i, i < n1 → ρ i ≠ k) : mg ρ n1 S2 S k = S k := by
  unfold mg
  cases hf : (List.range n1).find? (fun j => ρ j == k) with
  | none => rfl
  | some j =>
    have h1 := List.find?_some hf
    have h2 := List.mem_range.mp (List.mem_of_find?_eq_some hf)
    exact absurd (by simpa using h1) (h j h2)
theorem rE_id (e : va_E) : rE (fun i => i) e = e := by
  have hv : ∀ v : Value, cV (fun i => i) v = v := fun v => by cases v <;> rfl
  rcases e with ⟨t, n, y⟩ | ⟨ci, fs⟩
  · rcases y with y | y | y | y | y <;> try rfl
    show (Sum.inl (t, n, _) : va_E) = Sum.inl (t, n, _)
    simp
  · show (Sum.inr (ci, _) : va_E) = Sum.inr (ci, _)
    congr 2
    exact (List.map_congr_left fun v _ => hv v).trans (List.map_id fs)
theorem Frm.id {n : Nat} {g : Nat → va_E} : Frm (fun i => i) n g n g := ⟨fun _ h => h, fun _ _ _ _ h => h, fun _ _ => (rE_id _).symm⟩
theorem Frm.zero {n : Nat} {g1 g : Nat → va_E} : Frm (fun i => i) 0 g1 n g := ⟨fun _ h => absurd h (Nat.not_lt_zero _), fun _ _ h => absurd h (Nat.not_lt_zero _), fun _ h => absurd h (Nat.not_lt_zero _)⟩
theorem frm_id {n k : Nat} {g1 g : Nat → va_E} (h : k < n) : frm (fun i => i) n g1 g k = g1 k := by
  have := frm_in (ρ := fun i => i) (n1 := n) (g1 := g1) (g := g) (fun _ _ _ _ h => h) h
  rw [this, rE_id]
def gz : Nat → va_E := fun _ => .inr (0, [])
/-- contracts over shapes -/
abbrev CtS (l : Launch) (y : MethodName) (cc : ByteArray) (nL : Nat) (ret : Option FieldType) (rm : Room) (as : List Value) (n : Nat) (sh : Nat → Shp) (S : SS) (r : Option Value) (S2 : SS) : Prop := CtF l y cc nL ret rm as n (shW sh S) r (shW sh S2)
/-- a static method of numbers -/
abbrev CtN (l : Launch) (y : MethodName) (cc : ByteArray) (nL : Nat) (ret : Option FieldType) (rm : Room) (as : List Value) (v : Int32) : Prop := CtF l y cc nL ret rm as 0 gz (some (.int v)) gz
def RmOk (rm1 : Room) (nL1 : Nat) (R : Room) (cl sl : Nat) : Prop := (rm1.frames + 1 ≤ R.frames ∧ 8 + (nL1 + 11) + rm1.locals ≤ R.locals) ∧ (rm1.cells = 0 ∧ rm1.slots = 0) ∧ cl ≤ R.cells ∧ sl ≤ R.slots
section CALLT
variable {l : Launch} {R : Room} {own : String} {cc : ByteArray} {nL : Nat} {X : XT} {cl sl n : Nat} {g : Nat → va_E} {pc : Nat} {L : List (Option Value)} {st stk : List Value} {sh sh1 : Nat → Shp} {S S2 : SS}
variable {y : MethodName} {cc1 : ByteArray} {nL1 n1 index : Nat} {ret1 : Option FieldType} {rm1 : Room} {as : List Value} {r : Option Value}
/-- a static method of numbers -/
theorem VS.callN {v : Int32} (hC : CtN l y cc1 nL1 ret1 rm1 as v) (d : decode cc pc = .ok (.invokestatic index, 3)) (hm : MI y cc1 nL1 ret1 as.length) (hst : Cond.static y ∈ TB) (hml : Cond.methodLink own index y ∈ TB) (hR : RmOk rm1 nL1 R cl sl) (hst8 : (st.map fun v => v.category).sum ≤ 8) (hk : stk = (as.map (cV (fun i => i))).reverse ++ st)
    (kk : VS l R own cc nL X cl sl n g (pc + 3) L (.int v :: st)) : VS l R own cc nL X cl sl n g pc L stk :=
  VS.callS (fun i => i) hC d Frm.zero hm hst hml hR hst8 hk kk
theorem VS.callNN {v : Int32} (host : String) (hC : CtN l y cc1 nL1 ret1 rm1 as v) (d : decode cc pc = .ok (.invokestatic index, 3)) (hm : MI y cc1 nL1 ret1 as.length) (hst : Cond.static y ∈ TB) (hml : Cond.methodLinkNest own index y host ∈ nestW) (hR : RmOk rm1 nL1 R cl sl) (hst8 : (st.map fun v => v.category).sum ≤ 8) (hk : stk = (as.map (cV (fun i => i))).reverse ++ st)
    (kk : VS l R own cc nL X cl sl n g (pc + 3) L (.int v :: st)) : VS l R own cc nL X cl sl n g pc L stk :=
  VS.callSN (fun i => i) host hC d Frm.zero hm hst hml hR hst8 hk kk
/-- a method on the same cells -/
theorem VS.callT {o ci N : Nat} {T : u_T} {fl : List (Option Nat)} {as1 : List Value} (hC : CtS l y cc1 nL1 ret1 rm1 (.ref o :: as1) n sh S r S2) (d : decode cc pc = .ok (.invokevirtual index, 3)) (hm : MI y cc1 nL1 ret1 as1.length) (him : Cond.instanceMethod y ∈ TB) (hse : Cond.selects y.cls y y ∈ TB) (hml : Cond.methodLink own index y ∈ TB)
    (ho : o < n) (hsh : sh o = .inl (ci, fl)) (hc : vwCl[ci]? = some (y.cls, T, N)) (hR : RmOk rm1 nL1 R cl sl) (hst8 : (st.map fun v => v.category).sum ≤ 8) (hk : stk = (as1.map (cV (fun i => i))).reverse ++ .ref o :: st)
    (kk : VS l R own cc nL X cl sl n (shW sh S2) (pc + 3) L ((r.map (cV (fun i => i))).toList ++ st)) : VS l R own cc nL X cl sl n (shW sh S) pc L stk :=
  VS.callV (fun i => i) hC d Frm.id hm him hse hml ho (show shW sh S o = .inr (ci, shF fl (S o)) by unfold shW; rw [hsh]; rfl) hc hR hst8 hk (VS.heap (fun _ h => frm_id h) kk)
/-- a method on some of the cells -/
theorem VS.callR {o ci N : Nat} {T : u_T} {fl : List (Option Nat)} {as1 : List Value} (ρ : Nat → Nat) (hI : ShI ρ n1 sh1 n sh) (hC : CtS l y cc1 nL1 ret1 rm1 (.ref o :: as1) n1 sh1 (fun i => S (ρ i)) r S2) (d : decode cc pc = .ok (.invokevirtual index, 3)) (hm : MI y cc1 nL1 ret1 as1.length) (him : Cond.instanceMethod y ∈ TB) (hse : Cond.selects y.cls y y ∈ TB) (hml : Cond.methodLink own index y ∈ TB)
    (ho : o < n1) (hsh : sh1 o = .inl (ci, fl)) (hc : vwCl[ci]? = some (y.cls, T, N)) (hR : RmOk rm1 nL1 R cl sl) (hst8 : (st.map fun v => v.category).sum ≤ 8) (hk : stk = (as1.map (cV ρ)).reverse ++ .ref (ρ o) :: st)
    (kk : VS l R own cc nL X cl sl n (shW sh (mg ρ n1 S2 S)) (pc + 3) L ((r.map (cV ρ)).toList ++ st)) : VS l R own cc nL X cl sl n (shW sh S) pc L stk :=
  VS.callV ρ hC d (hI.toFrm S) hm him hse hml ho (show shW sh1 _ o = .inr (ci, shF fl _) by unfold shW; rw [hsh]; rfl) hc hR hst8 hk (VS.heap (fun k _ => hI.out S S2 k) kk)
end CALLT
end
section
/-! shapes, the words of the fields, the standing facts of each method -/
def rmD (k : Nat) : Room := { frames := k, cells := 0, slots := 0, locals := 32 * k }
theorem rmOk_D {j k nL : Nat} (h : j < k) (hn : nL ≤ 13) : RmOk (rmD j) nL (rmD k) 0 0 := ⟨⟨h, by show 8 + (nL + 11) + 32 * j ≤ 32 * k; omega⟩, ⟨rfl, rfl⟩, Nat.le_refl _, Nat.le_refl _⟩
theorem rmM_D {k : Nat} (h : 0 < k) : 1 ≤ (rmD k).frames ∧ 29 ≤ (rmD k).locals ∧ 0 ≤ (rmD k).cells ∧ 0 ≤ (rmD k).slots := ⟨h, by show 29 ≤ 32 * k; omega, Nat.le_refl _, Nat.le_refl _⟩
/-- a game: itself, its settings, three players, the distances told, the places dug -/
def shG (k : Nat) : Shp := match k with
  | 0 => .inl (0, [some 1, none, none, none, none, none, none, none, some 2, some 3, some 4, some 5, some 6, none])
  | 1 => .inr (.inl (1, 4))
  | 2 => .inl (3, [none, none, none, none, none, none, none])
  | 3 => .inl (3, [none, none, none, none, none, none, none])
  | 4 => .inl (3, [none, none, none, none, none, none, none])
  | 5 => .inr (.inl (1, 8))
  | _ => .inr (.inl (1, 150))
/-- players alone -/
def shP (_ : Nat) : Shp := .inl (3, [none, none, none, none, none, none, none])
/-- the pad -/
def shD (k : Nat) : Shp := match k with
  | 0 => .inl (1, [some 1, none])
  | _ => .inr (.inl (0, 80))
/-- the reference: itself, s, past, slots, isKept, pad, far -/
def shM (k : Nat) : Shp := match k with
  | 0 => .inl (6, [some 1, some 2, none, some 3, some 4, some 5, none, none, none, some 6, none, none, none, none, none, none])
  | 1 => .inr (.inl (1, 182))
  | 2 => .inr (.inl (1, 1092))
  | 3 => .inr (.inl (1, 364))
  | 4 => .inr (.inl (2, 2))
  | 5 => .inr (.inl (1, 80))
  | _ => .inr (.inl (1, 8))
theorem uw_X0 : ∀ w ∈ u_ws RX0 TX0 14, w ∈ TB := by decide +kernel
theorem uw_X2 : ∀ w ∈ u_ws RX2 TX2 2, w ∈ TB := by decide +kernel
theorem uw_X3 : ∀ w ∈ u_ws RX3 TX3 3, w ∈ TB := by decide +kernel
theorem uw_X4 : ∀ w ∈ u_ws RX4 TX4 7, w ∈ TB := by decide +kernel
theorem uw_X5 : ∀ w ∈ u_ws RX5 TX5 2, w ∈ TB := by decide +kernel
theorem uw_X6 : ∀ w ∈ u_ws RX6 TX6 5, w ∈ TB := by decide +kernel
theorem uw_X7 : ∀ w ∈ u_ws RX7 TX7 16, w ∈ TB := by decide +kernel
theorem mi_X6_init : MI yX6_init cX6_init 1 none 0 := ⟨cd_X6_init, ini_X6, by decide +kernel, by decide +kernel, by decide +kernel⟩
theorem mi_X0_init : MI yX0_init cX0_init 2 none 0 := ⟨cd_X0_init, ini_X0, by decide +kernel, by decide +kernel, by decide +kernel⟩
theorem mi_X4_init : MI yX4_init cX4_init 1 none 0 := ⟨cd_X4_init, ini_X4, by decide +kernel, by decide +kernel, by decide +kernel⟩
theorem mi_X3_init : MI yX3_init cX3_init 2 none 0 := ⟨cd_X3_init, ini_X3, by decide +kernel, by decide +kernel, by decide +kernel⟩
theorem mi_X2_init : MI yX2_init cX2_init 1 none 0 := ⟨cd_X2_init, ini_X2, by decide +kernel, by decide +kernel, by decide +kernel⟩
theorem mi_X5_init : MI yX5_init cX5_init 1 none 0 := ⟨cd_X5_init, ini_X5, by decide +kernel, by decide +kernel, by decide +kernel⟩
theorem mi_X6_set : MI yX6_set cX6_set 3 (some FieldType.int) 2 := ⟨cd_X6_set, ini_X6, by decide +kernel, by decide +kernel, by decide +kernel⟩
theorem mi_X3_hold : MI yX3_hold cX3_hold 3 none 1 := ⟨cd_X3_hold, ini_X3, by decide +kernel, by decide +kernel, by decide +kernel⟩
theorem mi_X3_cell : MI yX3_cell cX3_cell 2 (some (FieldType.object "LiarMaps$Game")) 1 := ⟨cd_X3_cell, ini_X3, by decide +kernel, by decide +kernel, by decide +kernel⟩
theorem mi_X0_become : MI yX0_become cX0_become 2 none 1 := ⟨cd_X0_become, ini_X0, by decide +kernel, by decide +kernel, by decide +kernel⟩
theorem mi_X6_copyRow : MI yX6_copyRow cX6_copyRow 2 none 2 := ⟨cd_X6_copyRow, ini_X6, by decide +kernel, by decide +kernel, by decide +kernel⟩
theorem mi_X4_become : MI yX4_become cX4_become 2 none 1 := ⟨cd_X4_become, ini_X4, by decide +kernel, by decide +kernel, by decide +kernel⟩
theorem mi_X0_changeSetting : MI yX0_changeSetting cX0_changeSetting 4 (some FieldType.int) 2 := ⟨cd_X0_changeSetting, ini_X0, by decide +kernel, by decide +kernel, by decide +kernel⟩
theorem mi_X6_keptIfDone : MI yX6_keptIfDone cX6_keptIfDone 2 (some FieldType.int) 1 := ⟨cd_X6_keptIfDone, ini_X6, by decide +kernel, by decide +kernel, by decide +kernel⟩
theorem mi_X3_keep : MI yX3_keep cX3_keep 1 none 0 := ⟨cd_X3_keep, ini_X3, by decide +kernel, by decide +kernel, by decide +kernel⟩
theorem mi_X6_road : MI yX6_road cX6_road 3 (some FieldType.int) 2 := ⟨cd_X6_road, ini_X6, by decide +kernel, by decide +kernel, by decide +kernel⟩
theorem mi_X0_layRoad : MI yX0_layRoad cX0_layRoad 4 (some FieldType.int) 2 := ⟨cd_X0_layRoad, ini_X0, by decide +kernel, by decide +kernel, by decide +kernel⟩
theorem mi_X1_wrongEnds : MI yX1_wrongEnds cX1_wrongEnds 2 (some FieldType.int) 2 := ⟨cd_X1_wrongEnds, ini_X1, by decide +kernel, by decide +kernel, by decide +kernel⟩
theorem mi_X1_isPlace : MI yX1_isPlace cX1_isPlace 1 (some FieldType.boolean) 1 := ⟨cd_X1_isPlace, ini_X1, by decide +kernel, by decide +kernel, by decide +kernel⟩
theorem mi_X1_roadBetween : MI yX1_roadBetween cX1_roadBetween 2 (some FieldType.int) 2 := ⟨cd_X1_roadBetween, ini_X1, by decide +kernel, by decide +kernel, by decide +kernel⟩
theorem mi_X1_numberOf : MI yX1_numberOf cX1_numberOf 4 (some FieldType.int) 2 := ⟨cd_X1_numberOf, ini_X1, by decide +kernel, by decide +kernel, by decide +kernel⟩
theorem mi_J6_bitCount_0f7a4 : MI yJ6_bitCount_0f7a4 cJ6_bitCount_0f7a4 1 (some FieldType.int) 1 := ⟨cd_J6_bitCount_0f7a4, ini_J6, by decide +kernel, by decide +kernel, by decide +kernel⟩
theorem mi_X6_treasure : MI yX6_treasure cX6_treasure 2 (some FieldType.int) 1 := ⟨cd_X6_treasure, ini_X6, by decide +kernel, by decide +kernel, by decide +kernel⟩
theorem mi_X0_hideTreasure : MI yX0_hideTreasure cX0_hideTreasure 3 (some FieldType.int) 1 := ⟨cd_X0_hideTreasure, ini_X0, by decide +kernel, by decide +kernel, by decide +kernel⟩
theorem mi_X6_begin : MI yX6_begin cX6_begin 1 (some FieldType.int) 0 := ⟨cd_X6_begin, ini_X6, by decide +kernel, by decide +kernel, by decide +kernel⟩
theorem mi_X0_start : MI yX0_start cX0_start 1 (some FieldType.int) 0 := ⟨cd_X0_start, ini_X0, by decide +kernel, by decide +kernel, by decide +kernel⟩
theorem mi_X1_withWhatFollows : MI yX1_withWhatFollows cX1_withWhatFollows 6 (some FieldType.int) 2 := ⟨cd_X1_withWhatFollows, ini_X1, by decide +kernel, by decide +kernel, by decide +kernel⟩
theorem mi_X1_followingAt : MI yX1_followingAt cX1_followingAt 7 (some FieldType.int) 3 := ⟨cd_X1_followingAt, ini_X1, by decide +kernel, by decide +kernel, by decide +kernel⟩
theorem mi_X1_roadsAt : MI yX1_roadsAt cX1_roadsAt 1 (some FieldType.int) 1 := ⟨cd_X1_roadsAt, ini_X1, by decide +kernel, by decide +kernel, by decide +kernel⟩
theorem mi_X6_claim : MI yX6_claim cX6_claim 4 (some FieldType.int) 3 := ⟨cd_X6_claim, ini_X6, by decide +kernel, by decide +kernel, by decide +kernel⟩
theorem mi_X0_makeClaim : MI yX0_makeClaim cX0_makeClaim 6 (some FieldType.int) 3 := ⟨cd_X0_makeClaim, ini_X0, by decide +kernel, by decide +kernel, by decide +kernel⟩
theorem mi_X0_goesOn : MI yX0_goesOn cX0_goesOn 1 (some FieldType.boolean) 0 := ⟨cd_X0_goesOn, ini_X0, by decide +kernel, by decide +kernel, by decide +kernel⟩
theorem mi_X0_stage : MI yX0_stage cX0_stage 1 (some FieldType.int) 0 := ⟨cd_X0_stage, ini_X0, by decide +kernel, by decide +kernel, by decide +kernel⟩
theorem mi_X0_next : MI yX0_next cX0_next 1 (some FieldType.int) 0 := ⟨cd_X0_next, ini_X0, by decide +kernel, by decide +kernel, by decide +kernel⟩
theorem mi_X0_seat : MI yX0_seat cX0_seat 2 (some (FieldType.object "LiarMaps$Player")) 1 := ⟨cd_X0_seat, ini_X0, by decide +kernel, by decide +kernel, by decide +kernel⟩
theorem mi_X4_say : MI yX4_say cX4_say 3 none 2 := ⟨cd_X4_say, ini_X4, by decide +kernel, by decide +kernel, by decide +kernel⟩
theorem mi_X4_claims : MI yX4_claims cX4_claims 1 (some FieldType.int) 0 := ⟨cd_X4_claims, ini_X4, by decide +kernel, by decide +kernel, by decide +kernel⟩
theorem mi_X6_check : MI yX6_check cX6_check 4 (some FieldType.int) 3 := ⟨cd_X6_check, ini_X6, by decide +kernel, by decide +kernel, by decide +kernel⟩
theorem mi_X0_checkClaim : MI yX0_checkClaim cX0_checkClaim 8 (some FieldType.int) 3 := ⟨cd_X0_checkClaim, ini_X0, by decide +kernel, by decide +kernel, by decide +kernel⟩
theorem mi_X6_isPlayer : MI yX6_isPlayer cX6_isPlayer 1 (some FieldType.boolean) 1 := ⟨cd_X6_isPlayer, ini_X6, by decide +kernel, by decide +kernel, by decide +kernel⟩
theorem mi_X0_settleCheck : MI yX0_settleCheck cX0_settleCheck 5 (some FieldType.int) 3 := ⟨cd_X0_settleCheck, ini_X0, by decide +kernel, by decide +kernel, by decide +kernel⟩
theorem mi_X0_setting : MI yX0_setting cX0_setting 2 (some FieldType.int) 1 := ⟨cd_X0_setting, ini_X0, by decide +kernel, by decide +kernel, by decide +kernel⟩
theorem mi_X4_pay : MI yX4_pay cX4_pay 4 none 2 := ⟨cd_X4_pay, ini_X4, by decide +kernel, by decide +kernel, by decide +kernel⟩
theorem mi_X4_take : MI yX4_take cX4_take 2 none 1 := ⟨cd_X4_take, ini_X4, by decide +kernel, by decide +kernel, by decide +kernel⟩
theorem mi_X4_lies : MI yX4_lies cX4_lies 2 (some FieldType.int) 1 := ⟨cd_X4_lies, ini_X4, by decide +kernel, by decide +kernel, by decide +kernel⟩
theorem mi_X6_dig : MI yX6_dig cX6_dig 2 (some FieldType.int) 1 := ⟨cd_X6_dig, ini_X6, by decide +kernel, by decide +kernel, by decide +kernel⟩
theorem mi_X0_digAt : MI yX0_digAt cX0_digAt 4 (some FieldType.int) 1 := ⟨cd_X0_digAt, ini_X0, by decide +kernel, by decide +kernel, by decide +kernel⟩
theorem mi_X1_distance : MI yX1_distance cX1_distance 6 (some FieldType.int) 3 := ⟨cd_X1_distance, ini_X1, by decide +kernel, by decide +kernel, by decide +kernel⟩
theorem mi_X1_besideAny : MI yX1_besideAny cX1_besideAny 4 (some FieldType.int) 2 := ⟨cd_X1_besideAny, ini_X1, by decide +kernel, by decide +kernel, by decide +kernel⟩
theorem mi_X1_placesBeside : MI yX1_placesBeside cX1_placesBeside 5 (some FieldType.int) 2 := ⟨cd_X1_placesBeside, ini_X1, by decide +kernel, by decide +kernel, by decide +kernel⟩
theorem mi_X0_noteDigging : MI yX0_noteDigging cX0_noteDigging 3 none 2 := ⟨cd_X0_noteDigging, ini_X0, by decide +kernel, by decide +kernel, by decide +kernel⟩
theorem mi_X6_pass : MI yX6_pass cX6_pass 1 (some FieldType.int) 0 := ⟨cd_X6_pass, ini_X6, by decide +kernel, by decide +kernel, by decide +kernel⟩
theorem mi_X0_passTurn : MI yX0_passTurn cX0_passTurn 1 (some FieldType.int) 0 := ⟨cd_X0_passTurn, ini_X0, by decide +kernel, by decide +kernel, by decide +kernel⟩
theorem mi_X6_ofRoad : MI yX6_ofRoad cX6_ofRoad 7 (some FieldType.int) 3 := ⟨cd_X6_ofRoad, ini_X6, by decide +kernel, by decide +kernel, by decide +kernel⟩
theorem mi_X6_isIn : MI yX6_isIn cX6_isIn 2 (some FieldType.int) 2 := ⟨cd_X6_isIn, ini_X6, by decide +kernel, by decide +kernel, by decide +kernel⟩
theorem mi_X0_seenOf : MI yX0_seenOf cX0_seenOf 3 (some FieldType.int) 2 := ⟨cd_X0_seenOf, ini_X0, by decide +kernel, by decide +kernel, by decide +kernel⟩
theorem mi_X0_claimants : MI yX0_claimants cX0_claimants 3 (some FieldType.int) 2 := ⟨cd_X0_claimants, ini_X0, by decide +kernel, by decide +kernel, by decide +kernel⟩
theorem mi_X4_saying : MI yX4_saying cX4_saying 2 (some FieldType.int) 1 := ⟨cd_X4_saying, ini_X4, by decide +kernel, by decide +kernel, by decide +kernel⟩
theorem mi_X6_knows : MI yX6_knows cX6_knows 5 (some FieldType.int) 3 := ⟨cd_X6_knows, ini_X6, by decide +kernel, by decide +kernel, by decide +kernel⟩
theorem mi_X0_knownTo : MI yX0_knownTo cX0_knownTo 2 (some FieldType.int) 1 := ⟨cd_X0_knownTo, ini_X0, by decide +kernel, by decide +kernel, by decide +kernel⟩
theorem mi_X1_thirdOf : MI yX1_thirdOf cX1_thirdOf 1 (some FieldType.int) 1 := ⟨cd_X1_thirdOf, ini_X1, by decide +kernel, by decide +kernel, by decide +kernel⟩
theorem mi_X6_player : MI yX6_player cX6_player 4 (some FieldType.int) 2 := ⟨cd_X6_player, ini_X6, by decide +kernel, by decide +kernel, by decide +kernel⟩
theorem mi_X4_shownLies : MI yX4_shownLies cX4_shownLies 3 (some FieldType.int) 2 := ⟨cd_X4_shownLies, ini_X4, by decide +kernel, by decide +kernel, by decide +kernel⟩
theorem mi_X6_place : MI yX6_place cX6_place 4 (some FieldType.int) 2 := ⟨cd_X6_place, ini_X6, by decide +kernel, by decide +kernel, by decide +kernel⟩
theorem mi_X0_toldOf : MI yX0_toldOf cX0_toldOf 2 (some FieldType.int) 1 := ⟨cd_X0_toldOf, ini_X0, by decide +kernel, by decide +kernel, by decide +kernel⟩
theorem mi_X6_dug : MI yX6_dug cX6_dug 2 (some FieldType.int) 1 := ⟨cd_X6_dug, ini_X6, by decide +kernel, by decide +kernel, by decide +kernel⟩
theorem mi_X0_dugAs : MI yX0_dugAs cX0_dugAs 2 (some FieldType.int) 1 := ⟨cd_X0_dugAs, ini_X0, by decide +kernel, by decide +kernel, by decide +kernel⟩
theorem mi_X6_count : MI yX6_count cX6_count 2 (some FieldType.int) 1 := ⟨cd_X6_count, ini_X6, by decide +kernel, by decide +kernel, by decide +kernel⟩
theorem mi_X0_shownLies : MI yX0_shownLies cX0_shownLies 1 (some FieldType.int) 0 := ⟨cd_X0_shownLies, ini_X0, by decide +kernel, by decide +kernel, by decide +kernel⟩
theorem mi_X6_canBe : MI yX6_canBe cX6_canBe 3 (some FieldType.int) 0 := ⟨cd_X6_canBe, ini_X6, by decide +kernel, by decide +kernel, by decide +kernel⟩
theorem mi_X0_fitsWhatWasTold : MI yX0_fitsWhatWasTold cX0_fitsWhatWasTold 3 (some FieldType.boolean) 1 := ⟨cd_X0_fitsWhatWasTold, ini_X0, by decide +kernel, by decide +kernel, by decide +kernel⟩
theorem mi_X6_shows : MI yX6_shows cX6_shows 4 (some FieldType.int) 2 := ⟨cd_X6_shows, ini_X6, by decide +kernel, by decide +kernel, by decide +kernel⟩
theorem mi_X0_moreKnownBy : MI yX0_moreKnownBy cX0_moreKnownBy 2 (some FieldType.int) 1 := ⟨cd_X0_moreKnownBy, ini_X0, by decide +kernel, by decide +kernel, by decide +kernel⟩
theorem mi_X6_bestShow : MI yX6_bestShow cX6_bestShow 6 (some FieldType.int) 1 := ⟨cd_X6_bestShow, ini_X6, by decide +kernel, by decide +kernel, by decide +kernel⟩
theorem mi_X6_knownWay : MI yX6_knownWay cX6_knownWay 4 (some FieldType.int) 2 := ⟨cd_X6_knownWay, ini_X6, by decide +kernel, by decide +kernel, by decide +kernel⟩
theorem mi_X6_put : MI yX6_put cX6_put 3 (some FieldType.int) 1 := ⟨cd_X6_put, ini_X6, by decide +kernel, by decide +kernel, by decide +kernel⟩
theorem mi_X2_append : MI yX2_append cX2_append 5 (some FieldType.int) 1 := ⟨cd_X2_append, ini_X2, by decide +kernel, by decide +kernel, by decide +kernel⟩
theorem mi_X2_charactersIn : MI yX2_charactersIn cX2_charactersIn 4 (some FieldType.int) 1 := ⟨cd_X2_charactersIn, ini_X2, by decide +kernel, by decide +kernel, by decide +kernel⟩
theorem mi_X2_codeIn : MI yX2_codeIn cX2_codeIn 3 (some FieldType.int) 2 := ⟨cd_X2_codeIn, ini_X2, by decide +kernel, by decide +kernel, by decide +kernel⟩
theorem mi_X6_wipe : MI yX6_wipe cX6_wipe 1 (some FieldType.int) 0 := ⟨cd_X6_wipe, ini_X6, by decide +kernel, by decide +kernel, by decide +kernel⟩
theorem mi_X2_empty : MI yX2_empty cX2_empty 2 (some FieldType.int) 0 := ⟨cd_X2_empty, ini_X2, by decide +kernel, by decide +kernel, by decide +kernel⟩
theorem mi_X6_fault : MI yX6_fault cX6_fault 1 (some FieldType.int) 0 := ⟨cd_X6_fault, ini_X6, by decide +kernel, by decide +kernel, by decide +kernel⟩
theorem mi_X2_firstFault : MI yX2_firstFault cX2_firstFault 3 (some FieldType.int) 0 := ⟨cd_X2_firstFault, ini_X2, by decide +kernel, by decide +kernel, by decide +kernel⟩
theorem mi_X2_sign : MI yX2_sign cX2_sign 2 (some FieldType.int) 1 := ⟨cd_X2_sign, ini_X2, by decide +kernel, by decide +kernel, by decide +kernel⟩
theorem mi_X2_dueAfter : MI yX2_dueAfter cX2_dueAfter 2 (some FieldType.int) 2 := ⟨cd_X2_dueAfter, ini_X2, by decide +kernel, by decide +kernel, by decide +kernel⟩
theorem mi_X2_dueAfterLetter : MI yX2_dueAfterLetter cX2_dueAfterLetter 1 (some FieldType.int) 1 := ⟨cd_X2_dueAfterLetter, ini_X2, by decide +kernel, by decide +kernel, by decide +kernel⟩
theorem mi_X2_isPlaceSign : MI yX2_isPlaceSign cX2_isPlaceSign 1 (some FieldType.boolean) 1 := ⟨cd_X2_isPlaceSign, ini_X2, by decide +kernel, by decide +kernel, by decide +kernel⟩
theorem mi_X6_carryOut : MI yX6_carryOut cX6_carryOut 3 (some FieldType.int) 0 := ⟨cd_X6_carryOut, ini_X6, by decide +kernel, by decide +kernel, by decide +kernel⟩
theorem mi_X2_startsOrder : MI yX2_startsOrder cX2_startsOrder 2 (some FieldType.boolean) 1 := ⟨cd_X2_startsOrder, ini_X2, by decide +kernel, by decide +kernel, by decide +kernel⟩
theorem mi_X6_carryOutOrder : MI yX6_carryOutOrder cX6_carryOutOrder 2 (some FieldType.int) 1 := ⟨cd_X6_carryOutOrder, ini_X6, by decide +kernel, by decide +kernel, by decide +kernel⟩
theorem mi_X2_placeAt : MI yX2_placeAt cX2_placeAt 2 (some FieldType.int) 1 := ⟨cd_X2_placeAt, ini_X2, by decide +kernel, by decide +kernel, by decide +kernel⟩
theorem mi_X2_digitAt : MI yX2_digitAt cX2_digitAt 2 (some FieldType.int) 1 := ⟨cd_X2_digitAt, ini_X2, by decide +kernel, by decide +kernel, by decide +kernel⟩
theorem mi_X6_undo : MI yX6_undo cX6_undo 1 (some FieldType.int) 0 := ⟨cd_X6_undo, ini_X6, by decide +kernel, by decide +kernel, by decide +kernel⟩
theorem mi_X3_goBack : MI yX3_goBack cX3_goBack 3 (some FieldType.boolean) 1 := ⟨cd_X3_goBack, ini_X3, by decide +kernel, by decide +kernel, by decide +kernel⟩
theorem mi_X6_save : MI yX6_save cX6_save 3 (some FieldType.int) 1 := ⟨cd_X6_save, ini_X6, by decide +kernel, by decide +kernel, by decide +kernel⟩
theorem mi_X6_isSlot : MI yX6_isSlot cX6_isSlot 1 (some FieldType.boolean) 1 := ⟨cd_X6_isSlot, ini_X6, by decide +kernel, by decide +kernel, by decide +kernel⟩
theorem mi_X6_slotOf : MI yX6_slotOf cX6_slotOf 2 (some (FieldType.object "LiarMaps$Slot")) 1 := ⟨cd_X6_slotOf, ini_X6, by decide +kernel, by decide +kernel, by decide +kernel⟩
theorem mi_X6_restore : MI yX6_restore cX6_restore 3 (some FieldType.int) 1 := ⟨cd_X6_restore, ini_X6, by decide +kernel, by decide +kernel, by decide +kernel⟩
theorem mi_X7_init : MI yX7_init cX7_init 2 none 0 := ⟨cd_X7_init, ini_X7, by decide +kernel, by decide +kernel, by decide +kernel⟩
theorem mi_X7_set : MI yX7_set cX7_set 4 (some FieldType.int) 2 := ⟨cd_X7_set, ini_X7, by decide +kernel, by decide +kernel, by decide +kernel⟩
theorem mi_X7_in : MI yX7_in cX7_in 3 (some FieldType.boolean) 3 := ⟨cd_X7_in, ini_X7, by decide +kernel, by decide +kernel, by decide +kernel⟩
theorem mi_X7_least : MI yX7_least cX7_least 1 (some FieldType.int) 1 := ⟨cd_X7_least, ini_X7, by decide +kernel, by decide +kernel, by decide +kernel⟩
theorem mi_X7_most : MI yX7_most cX7_most 1 (some FieldType.int) 1 := ⟨cd_X7_most, ini_X7, by decide +kernel, by decide +kernel, by decide +kernel⟩
theorem mi_X7_records : MI yX7_records cX7_records 2 none 0 := ⟨cd_X7_records, ini_X7, by decide +kernel, by decide +kernel, by decide +kernel⟩
theorem mi_X7_road : MI yX7_road cX7_road 4 (some FieldType.int) 2 := ⟨cd_X7_road, ini_X7, by decide +kernel, by decide +kernel, by decide +kernel⟩
theorem mi_X7_barRoad : MI yX7_barRoad cX7_barRoad 3 (some FieldType.int) 2 := ⟨cd_X7_barRoad, ini_X7, by decide +kernel, by decide +kernel, by decide +kernel⟩
theorem mi_X7_isPlace : MI yX7_isPlace cX7_isPlace 1 (some FieldType.boolean) 1 := ⟨cd_X7_isPlace, ini_X7, by decide +kernel, by decide +kernel, by decide +kernel⟩
theorem mi_X7_hasBegun : MI yX7_hasBegun cX7_hasBegun 1 (some FieldType.boolean) 0 := ⟨cd_X7_hasBegun, ini_X7, by decide +kernel, by decide +kernel, by decide +kernel⟩
theorem mi_X7_lays : MI yX7_lays cX7_lays 3 (some FieldType.int) 2 := ⟨cd_X7_lays, ini_X7, by decide +kernel, by decide +kernel, by decide +kernel⟩
theorem mi_X7_edge : MI yX7_edge cX7_edge 4 (some FieldType.int) 2 := ⟨cd_X7_edge, ini_X7, by decide +kernel, by decide +kernel, by decide +kernel⟩
theorem mi_X7_many : MI yX7_many cX7_many 3 (some FieldType.int) 1 := ⟨cd_X7_many, ini_X7, by decide +kernel, by decide +kernel, by decide +kernel⟩
theorem mi_X7_treasure : MI yX7_treasure cX7_treasure 4 (some FieldType.int) 1 := ⟨cd_X7_treasure, ini_X7, by decide +kernel, by decide +kernel, by decide +kernel⟩
theorem mi_X7_barTreasure : MI yX7_barTreasure cX7_barTreasure 2 (some FieldType.int) 1 := ⟨cd_X7_barTreasure, ini_X7, by decide +kernel, by decide +kernel, by decide +kernel⟩
theorem mi_X7_begin : MI yX7_begin cX7_begin 1 (some FieldType.int) 0 := ⟨cd_X7_begin, ini_X7, by decide +kernel, by decide +kernel, by decide +kernel⟩
theorem mi_X7_follows : MI yX7_follows cX7_follows 8 none 1 := ⟨cd_X7_follows, ini_X7, by decide +kernel, by decide +kernel, by decide +kernel⟩
theorem mi_X7_around : MI yX7_around cX7_around 3 (some FieldType.int) 1 := ⟨cd_X7_around, ini_X7, by decide +kernel, by decide +kernel, by decide +kernel⟩
theorem mi_X7_claim : MI yX7_claim cX7_claim 5 (some FieldType.int) 3 := ⟨cd_X7_claim, ini_X7, by decide +kernel, by decide +kernel, by decide +kernel⟩
theorem mi_X7_barClaim : MI yX7_barClaim cX7_barClaim 4 (some FieldType.int) 3 := ⟨cd_X7_barClaim, ini_X7, by decide +kernel, by decide +kernel, by decide +kernel⟩
theorem mi_X7_goes : MI yX7_goes cX7_goes 1 (some FieldType.boolean) 0 := ⟨cd_X7_goes, ini_X7, by decide +kernel, by decide +kernel, by decide +kernel⟩
theorem mi_X7_says : MI yX7_says cX7_says 6 (some FieldType.int) 3 := ⟨cd_X7_says, ini_X7, by decide +kernel, by decide +kernel, by decide +kernel⟩
theorem mi_X7_turn : MI yX7_turn cX7_turn 1 (some FieldType.int) 0 := ⟨cd_X7_turn, ini_X7, by decide +kernel, by decide +kernel, by decide +kernel⟩
theorem mi_X7_ends : MI yX7_ends cX7_ends 1 none 0 := ⟨cd_X7_ends, ini_X7, by decide +kernel, by decide +kernel, by decide +kernel⟩
theorem mi_X7_claims : MI yX7_claims cX7_claims 2 (some FieldType.int) 1 := ⟨cd_X7_claims, ini_X7, by decide +kernel, by decide +kernel, by decide +kernel⟩
theorem mi_X7_check : MI yX7_check cX7_check 5 (some FieldType.int) 3 := ⟨cd_X7_check, ini_X7, by decide +kernel, by decide +kernel, by decide +kernel⟩
theorem mi_X7_barCheck : MI yX7_barCheck cX7_barCheck 5 (some FieldType.int) 3 := ⟨cd_X7_barCheck, ini_X7, by decide +kernel, by decide +kernel, by decide +kernel⟩
theorem mi_X7_isPlayer : MI yX7_isPlayer cX7_isPlayer 1 (some FieldType.boolean) 1 := ⟨cd_X7_isPlayer, ini_X7, by decide +kernel, by decide +kernel, by decide +kernel⟩
theorem mi_X7_checks : MI yX7_checks cX7_checks 7 (some FieldType.int) 3 := ⟨cd_X7_checks, ini_X7, by decide +kernel, by decide +kernel, by decide +kernel⟩
theorem mi_X7_pays : MI yX7_pays cX7_pays 5 none 3 := ⟨cd_X7_pays, ini_X7, by decide +kernel, by decide +kernel, by decide +kernel⟩
theorem mi_X7_gets : MI yX7_gets cX7_gets 3 none 2 := ⟨cd_X7_gets, ini_X7, by decide +kernel, by decide +kernel, by decide +kernel⟩
theorem mi_X7_dig : MI yX7_dig cX7_dig 3 (some FieldType.int) 1 := ⟨cd_X7_dig, ini_X7, by decide +kernel, by decide +kernel, by decide +kernel⟩
theorem mi_X7_barDig : MI yX7_barDig cX7_barDig 2 (some FieldType.int) 1 := ⟨cd_X7_barDig, ini_X7, by decide +kernel, by decide +kernel, by decide +kernel⟩
theorem mi_X7_digs : MI yX7_digs cX7_digs 4 (some FieldType.int) 1 := ⟨cd_X7_digs, ini_X7, by decide +kernel, by decide +kernel, by decide +kernel⟩
theorem mi_X7_measures : MI yX7_measures cX7_measures 7 none 2 := ⟨cd_X7_measures, ini_X7, by decide +kernel, by decide +kernel, by decide +kernel⟩
theorem mi_X7_pass : MI yX7_pass cX7_pass 1 (some FieldType.int) 0 := ⟨cd_X7_pass, ini_X7, by decide +kernel, by decide +kernel, by decide +kernel⟩
theorem mi_X7_ofRoad : MI yX7_ofRoad cX7_ofRoad 6 (some FieldType.int) 3 := ⟨cd_X7_ofRoad, ini_X7, by decide +kernel, by decide +kernel, by decide +kernel⟩
theorem mi_X7_barPair : MI yX7_barPair cX7_barPair 2 (some FieldType.int) 2 := ⟨cd_X7_barPair, ini_X7, by decide +kernel, by decide +kernel, by decide +kernel⟩
theorem mi_X7_seen : MI yX7_seen cX7_seen 2 (some FieldType.int) 1 := ⟨cd_X7_seen, ini_X7, by decide +kernel, by decide +kernel, by decide +kernel⟩
theorem mi_X7_claimers : MI yX7_claimers cX7_claimers 5 (some FieldType.int) 2 := ⟨cd_X7_claimers, ini_X7, by decide +kernel, by decide +kernel, by decide +kernel⟩
theorem mi_X7_knows : MI yX7_knows cX7_knows 6 (some FieldType.int) 3 := ⟨cd_X7_knows, ini_X7, by decide +kernel, by decide +kernel, by decide +kernel⟩
theorem mi_X7_player : MI yX7_player cX7_player 3 (some FieldType.int) 2 := ⟨cd_X7_player, ini_X7, by decide +kernel, by decide +kernel, by decide +kernel⟩
theorem mi_X7_shown : MI yX7_shown cX7_shown 2 (some FieldType.int) 1 := ⟨cd_X7_shown, ini_X7, by decide +kernel, by decide +kernel, by decide +kernel⟩
theorem mi_X7_third : MI yX7_third cX7_third 3 (some FieldType.int) 1 := ⟨cd_X7_third, ini_X7, by decide +kernel, by decide +kernel, by decide +kernel⟩
theorem mi_X7_place : MI yX7_place cX7_place 3 (some FieldType.int) 2 := ⟨cd_X7_place, ini_X7, by decide +kernel, by decide +kernel, by decide +kernel⟩
theorem mi_X7_told : MI yX7_told cX7_told 3 (some FieldType.int) 1 := ⟨cd_X7_told, ini_X7, by decide +kernel, by decide +kernel, by decide +kernel⟩
theorem mi_X7_neighbours : MI yX7_neighbours cX7_neighbours 4 (some FieldType.int) 1 := ⟨cd_X7_neighbours, ini_X7, by decide +kernel, by decide +kernel, by decide +kernel⟩
theorem mi_X7_dug : MI yX7_dug cX7_dug 2 (some FieldType.int) 1 := ⟨cd_X7_dug, ini_X7, by decide +kernel, by decide +kernel, by decide +kernel⟩
theorem mi_X7_count : MI yX7_count cX7_count 2 (some FieldType.int) 1 := ⟨cd_X7_count, ini_X7, by decide +kernel, by decide +kernel, by decide +kernel⟩
theorem mi_X7_canBe : MI yX7_canBe cX7_canBe 4 (some FieldType.int) 0 := ⟨cd_X7_canBe, ini_X7, by decide +kernel, by decide +kernel, by decide +kernel⟩
theorem mi_X7_shows : MI yX7_shows cX7_shows 4 (some FieldType.int) 2 := ⟨cd_X7_shows, ini_X7, by decide +kernel, by decide +kernel, by decide +kernel⟩
theorem mi_X7_more : MI yX7_more cX7_more 3 (some FieldType.int) 1 := ⟨cd_X7_more, ini_X7, by decide +kernel, by decide +kernel, by decide +kernel⟩
theorem mi_X7_bestShow : MI yX7_bestShow cX7_bestShow 6 (some FieldType.int) 1 := ⟨cd_X7_bestShow, ini_X7, by decide +kernel, by decide +kernel, by decide +kernel⟩
theorem mi_X7_knownWay : MI yX7_knownWay cX7_knownWay 3 (some FieldType.int) 2 := ⟨cd_X7_knownWay, ini_X7, by decide +kernel, by decide +kernel, by decide +kernel⟩
theorem mi_X7_put : MI yX7_put cX7_put 7 (some FieldType.int) 1 := ⟨cd_X7_put, ini_X7, by decide +kernel, by decide +kernel, by decide +kernel⟩
theorem mi_X7_wipe : MI yX7_wipe cX7_wipe 2 (some FieldType.int) 0 := ⟨cd_X7_wipe, ini_X7, by decide +kernel, by decide +kernel, by decide +kernel⟩
theorem mi_X7_fault : MI yX7_fault cX7_fault 1 (some FieldType.int) 0 := ⟨cd_X7_fault, ini_X7, by decide +kernel, by decide +kernel, by decide +kernel⟩
theorem mi_X7_isWhole : MI yX7_isWhole cX7_isWhole 3 (some FieldType.boolean) 0 := ⟨cd_X7_isWhole, ini_X7, by decide +kernel, by decide +kernel, by decide +kernel⟩
theorem mi_X7_order : MI yX7_order cX7_order 3 none 0 := ⟨cd_X7_order, ini_X7, by decide +kernel, by decide +kernel, by decide +kernel⟩
theorem mi_X7_within : MI yX7_within cX7_within 4 (some FieldType.int) 2 := ⟨cd_X7_within, ini_X7, by decide +kernel, by decide +kernel, by decide +kernel⟩
theorem mi_X7_carryOut : MI yX7_carryOut cX7_carryOut 4 (some FieldType.int) 0 := ⟨cd_X7_carryOut, ini_X7, by decide +kernel, by decide +kernel, by decide +kernel⟩
theorem mi_X7_bar : MI yX7_bar cX7_bar 1 (some FieldType.int) 0 := ⟨cd_X7_bar, ini_X7, by decide +kernel, by decide +kernel, by decide +kernel⟩
theorem mi_X7_does : MI yX7_does cX7_does 1 (some FieldType.int) 0 := ⟨cd_X7_does, ini_X7, by decide +kernel, by decide +kernel, by decide +kernel⟩
theorem mi_X7_undo : MI yX7_undo cX7_undo 2 (some FieldType.int) 0 := ⟨cd_X7_undo, ini_X7, by decide +kernel, by decide +kernel, by decide +kernel⟩
theorem mi_X7_save : MI yX7_save cX7_save 3 (some FieldType.int) 1 := ⟨cd_X7_save, ini_X7, by decide +kernel, by decide +kernel, by decide +kernel⟩
theorem mi_X7_restore : MI yX7_restore cX7_restore 3 (some FieldType.int) 1 := ⟨cd_X7_restore, ini_X7, by decide +kernel, by decide +kernel, by decide +kernel⟩
end
section
/-! mathematics: bits, counts -/
theorem downI (N : Nat) (P : Nat → Prop) (h0 : P N) (hs : ∀ i, i < N → P (i + 1) → P i) : ∀ i, i ≤ N → P i := by
  intro i hi
  obtain ⟨k, hk⟩ : ∃ k, N = i + k := ⟨N - i, by omega⟩
  induction k generalizing i with
  | zero => rw [hk] at h0; exact h0
  | succ k ih => exact hs i (by omega) (ih (i + 1) (by omega) (by omega))
/-- a counted loop: its head at hd, the cells and the locals by the number of rounds done -/
theorem VS.for {l : Launch} {R : Room} {own : String} {cc : ByteArray} {nL : Nat} {X : XT} {cl sl n : Nat} {hd i0 : Nat} {st : List Value} (N : Nat) (g : Nat → Nat → va_E) (L : Nat → List (Option Value)) (hi : i0 ≤ N) (h0 : VS l R own cc nL X cl sl n (g N) hd (L N) st) (hs : ∀ i, i < N → VS l R own cc nL X cl sl n (g (i + 1)) hd (L (i + 1)) st → VS l R own cc nL X cl sl n (g i) hd (L i) st) : VS l R own cc nL X cl sl n (g i0) hd (L i0) st :=
  downI N (fun i => VS l R own cc nL X cl sl n (g i) hd (L i) st) h0 hs i0 hi
/-- the same over shapes -/
theorem VS.forS {l : Launch} {R : Room} {own : String} {cc : ByteArray} {nL : Nat} {X : XT} {cl sl n : Nat} {sh : Nat → Shp} {hd i0 : Nat} {st : List Value} (N : Nat) (S : Nat → SS) (L : Nat → List (Option Value)) (hi : i0 ≤ N) (h0 : VS l R own cc nL X cl sl n (shW sh (S N)) hd (L N) st) (hs : ∀ i, i < N → VS l R own cc nL X cl sl n (shW sh (S (i + 1))) hd (L (i + 1)) st → VS l R own cc nL X cl sl n (shW sh (S i)) hd (L i) st) : VS l R own cc nL X cl sl n (shW sh (S i0)) hd (L i0) st :=
  downI N (fun i => VS l R own cc nL X cl sl n (shW sh (S i)) hd (L i) st) h0 hs i0 hi
/-- a bit of a number -/
def bt (x : Int32) (i : Nat) : Bool := x.toBitVec.getLsbD i
theorem b_ext {x y : Int32} (h : ∀ i, i < 32 → bt x i = bt y i) : x = y := Int32.toBitVec_inj.mp (BitVec.eq_of_getLsbD_eq h)
theorem b_big {x : Int32} {i : Nat} (h : 32 ≤ i) : bt x i = false := BitVec.getLsbD_of_ge _ _ h
theorem b_or (x y : Int32) (i : Nat) : bt (x ||| y) i = (bt x i || bt y i) := by
  simp [bt]
theorem b_and (x y : Int32) (i : Nat) : bt (x &&& y) i = (bt x i && bt y i) := by
  simp [bt]
theorem b_xor (x y : Int32) (i : Nat) : bt (x ^^^ y) i = (bt x i ^^ bt y i) := by
  simp [bt]
theorem b_0 (i : Nat) : bt 0 i = false := by simp [bt]
theorem b_m1 : ∀ i, i < 32 → bt (-1) i = true := by decide
/-- how many of the first n -/
def ct (p : Nat → Bool) : Nat → Nat
  | 0 => 0
  | n + 1 => ct p n + (if p n then 1 else 0)
def pcN (x : Int32) : Nat := ct (bt x) 32
def pcI (x : Int32) : Int32 := nI (pcN x)
theorem ct_le (p : Nat → Bool) : ∀ n, ct p n ≤ n
  | 0 => Nat.le_refl _
  | n + 1 => by
    have h := ct_le p n
    unfold ct
    split <;> omega
theorem ct_cong {p q : Nat → Bool} : ∀ {n : Nat}, (∀ k, k < n → p k = q k) → ct p n = ct q n
  | 0, _ => rfl
  | n + 1, h => by
    unfold ct
    rw [ct_cong (fun k hk => h k (by omega)), h n (by omega)]
theorem pcN_le (x : Int32) : pcN x ≤ 32 := ct_le _ _

/-! small numbers -/
theorem ti_0 : (0 : Int32).toInt = 0 := by decide
theorem ti_1 : (1 : Int32).toInt = 1 := by decide
theorem ti_2 : (2 : Int32).toInt = 2 := by decide
theorem ti_3 : (3 : Int32).toInt = 3 := by decide
theorem ti_4 : (4 : Int32).toInt = 4 := by decide
theorem ti_5 : (5 : Int32).toInt = 5 := by decide
theorem ti_6 : (6 : Int32).toInt = 6 := by decide
theorem ti_7 : (7 : Int32).toInt = 7 := by decide
theorem ti_8 : (8 : Int32).toInt = 8 := by decide
theorem ti_9 : (9 : Int32).toInt = 9 := by decide
theorem ti_10 : (10 : Int32).toInt = 10 := by decide
theorem ti_14 : (14 : Int32).toInt = 14 := by decide
theorem ti_15 : (15 : Int32).toInt = 15 := by decide
theorem ti_16 : (16 : Int32).toInt = 16 := by decide
theorem ti_20 : (20 : Int32).toInt = 20 := by decide
theorem ti_28 : (28 : Int32).toInt = 28 := by decide
theorem ti_33 : (33 : Int32).toInt = 33 := by decide
theorem ti_40 : (40 : Int32).toInt = 40 := by decide
theorem ti_50 : (50 : Int32).toInt = 50 := by decide
theorem ti_80 : (80 : Int32).toInt = 80 := by decide
theorem ti_97 : (97 : Int32).toInt = 97 := by decide
theorem ti_99 : (99 : Int32).toInt = 99 := by decide
theorem ti_100 : (100 : Int32).toInt = 100 := by decide
theorem ti_104 : (104 : Int32).toInt = 104 := by decide
theorem ti_126 : (126 : Int32).toInt = 126 := by decide
theorem ti_150 : (150 : Int32).toInt = 150 := by decide
theorem ti_182 : (182 : Int32).toInt = 182 := by decide
theorem ti_200 : (200 : Int32).toInt = 200 := by decide
theorem ti_255 : (255 : Int32).toInt = 255 := by decide
theorem ti_364 : (364 : Int32).toInt = 364 := by decide
theorem ti_1092 : (1092 : Int32).toInt = 1092 := by decide
theorem ti_9999 : (9999 : Int32).toInt = 9999 := by decide
theorem tim_1 : (-1 : Int32).toInt = -1 := by decide
theorem tim_2 : (-2 : Int32).toInt = -2 := by decide
theorem tim_3 : (-3 : Int32).toInt = -3 := by decide
theorem tim_4 : (-4 : Int32).toInt = -4 := by decide
theorem tim_5 : (-5 : Int32).toInt = -5 := by decide
theorem tim_6 : (-6 : Int32).toInt = -6 := by decide
def minI (a b : Int32) : Int32 := if b < a then b else a
def maxI (a b : Int32) : Int32 := if a < b then b else a

section VSX
variable {l : Launch} {R : Room} {own : String} {cc : ByteArray} {nL : Nat} {X : XT} {cl sl n : Nat} {g : Nat → va_E} {pc : Nat} {L : List (Option Value)} {st : List Value}
theorem VS.forget (k : Nat) (kk : VS l R own cc nL X cl sl n g pc (L.set k none) st) : VS l R own cc nL X cl sl n g pc L st := VS.locals (fun j v h => by
  by_cases hj : j = k
  · subst hj
    by_cases hl : j < L.length
    · rw [List.getElem?_set_self hl] at h; cases h
    · rw [List.getElem?_eq_none (by rw [List.length_set]; omega)] at h; cases h
  · rw [List.getElem?_set_ne (Ne.symm hj)] at h; exact h) kk
theorem VS.lcmp {x y : Int64} (d : decode cc pc = .ok (.lcmp, 1)) (kk : VS l R own cc nL X cl sl n g (pc + 1) L (.int (lg_cmp x y) :: st)) : VS l R own cc nL X cl sl n g pc L (.long y :: .long x :: st) := fun p e s m args below meth c D cy A ad Q H locs ls C0 x0 i a hP hS hl => W.lcmp C0.1 C0.2.1 d (kk p e s m args below meth c D cy A ad Q H locs ls C0 x0 i a hP hS hl)
end VSX
/-- a counted loop with a fact that is carried -/
theorem VS.forH {l : Launch} {R : Room} {own : String} {cc : ByteArray} {nL : Nat} {X : XT} {cl sl n : Nat} {hd i0 : Nat} {st : List Value} (Hy : Nat → Prop) (N : Nat) (g : Nat → Nat → va_E) (L : Nat → List (Option Value)) (hi : i0 ≤ N) (hy : Hy i0) (h0 : Hy N → VS l R own cc nL X cl sl n (g N) hd (L N) st) (hs : ∀ i, i < N → Hy i → (Hy (i + 1) → VS l R own cc nL X cl sl n (g (i + 1)) hd (L (i + 1)) st) → VS l R own cc nL X cl sl n (g i) hd (L i) st) : VS l R own cc nL X cl sl n (g i0) hd (L i0) st :=
  downI N (fun i => Hy i → VS l R own cc nL X cl sl n (g i) hd (L i) st) h0 (fun i hi ih hy => hs i hi hy ih) i0 hi hy
theorem VS.forSH {l : Launch} {R : Room} {own : String} {cc : ByteArray} {nL : Nat} {X : XT} {cl sl n : Nat} {sh : Nat → Shp} {hd i0 : Nat} {st : List Value} (Hy : Nat → Prop) (N : Nat) (S : Nat → SS) (L : Nat → List (Option Value)) (hi : i0 ≤ N) (hy : Hy i0) (h0 : Hy N → VS l R own cc nL X cl sl n (shW sh (S N)) hd (L N) st) (hs : ∀ i, i < N → Hy i → (Hy (i + 1) → VS l R own cc nL X cl sl n (shW sh (S (i + 1))) hd (L (i + 1)) st) → VS l R own cc nL X cl sl n (shW sh (S i)) hd (L i) st) : VS l R own cc nL X cl sl n (shW sh (S i0)) hd (L i0) st :=
  downI N (fun i => Hy i → VS l R own cc nL X cl sl n (shW sh (S i)) hd (L i) st) h0 (fun i hi ih hy => hs i hi hy ih) i0 hi hy
theorem nb_ite {c : Prop} [Decidable c] : narrow .boolean (.int (if c then (1 : Int32) else 0)) = .int (if c then 1 else 0) := by
  split <;> rfl
/-- the bits, one by one: the count by the sideways sums, by the Java library's own steps -/
def swar (x : Int32) : Int32 :=
  let a := x - ((x.toUInt32 >>> ((1 : Int32).toUInt32 &&& Int32.toUInt32 31)).toInt32 &&& 1431655765)
  let b := (a &&& 858993459) + ((a.toUInt32 >>> ((2 : Int32).toUInt32 &&& Int32.toUInt32 31)).toInt32 &&& 858993459)
  let c := (b + (b.toUInt32 >>> ((4 : Int32).toUInt32 &&& Int32.toUInt32 31)).toInt32) &&& 252645135
  let d := c + (c.toUInt32 >>> ((8 : Int32).toUInt32 &&& Int32.toUInt32 31)).toInt32
  let e := d + (d.toUInt32 >>> ((16 : Int32).toUInt32 &&& Int32.toUInt32 31)).toInt32
  e &&& 63
theorem swar_pc (x : Int32) : swar x = pcI x := sorry
/-- the lowest bit is taken away, k times -/
def clr (x : Int32) : Nat → Int32
  | 0 => x
  | k + 1 => clr x k &&& (clr x k - 1)
theorem clr_0 (x : Int32) : clr x (pcN x) = 0 := sorry
theorem clr_n (x : Int32) {k : Nat} (h : k < pcN x) : ¬ clr x k = 0 := sorry
/-- n times -/
def itN (f : Int32 → Int32) (x : Int32) : Nat → Int32
  | 0 => x
  | n + 1 => f (itN f x n)
theorem itN_stop {f : Int32 → Int32} {x : Int32} {i n : Nat} (h : itN f x (i + 1) = itN f x i) (hn : i ≤ n) : itN f x n = itN f x i := by
  obtain ⟨k, rfl⟩ : ∃ k, n = i + k := ⟨n - i, by omega⟩
  induction k with
  | zero => rfl
  | succ k ih =>
    show f (itN f x (i + k)) = _
    rw [ih (by omega)]
    exact h
/-! what follows -/
def folJ (r k : Int32) (j : Nat) : Int32 := if pcI (k_at j &&& r &&& k) = pcI (k_at j &&& r) ∨ pcI (k_at j &&& r &&& k) + pcI (k_at j &&& (k ^^^ -1)) = pcI (k_at j &&& r) then k_at j &&& (k ^^^ -1) else 0
def swJ (r k : Int32) : Nat → Int32
  | 0 => k
  | j + 1 => swJ r k j ||| folJ r (swJ r k j) j
def swp (r k : Int32) : Int32 := swJ r k 8
def KK (r k : Int32) : Int32 := itN (swp r) k 28
/-! ways -/
def pbJ (f : Int32) (p : Nat) : Nat → Int32
  | 0 => 0
  | j + 1 => if j ≠ p ∧ ¬ f &&& k_at j = 0 then pbJ f p j ||| ((1 : Int32) <<< (nI j &&& 31)) else pbJ f p j
def pbI (r : Int32) (p : Nat) : Int32 := pbJ (r &&& k_at p) p 8
def nbJ (r m : Int32) : Nat → Int32
  | 0 => 0
  | j + 1 => if (m >>> (nI j &&& 31)) &&& 1 = 0 then nbJ r m j else nbJ r m j ||| pbI r j
def nbI (r m : Int32) : Int32 := nbJ r m 8
def dd (r t : Int32) : Nat → Nat → Int32 → Int32 → Int32
  | 0, _, _, _ => 99
  | n + 1, s, re, ed => if ed = 0 then 99 else if (ed >>> (t &&& 31)) &&& 1 = 0 then dd r t n (s + 1) (re ||| (nbI r ed &&& (re ^^^ -1))) (nbI r ed &&& (re ^^^ -1)) else nI s
def distI (r f t : Int32) : Int32 := dd r t 8 0 ((1 : Int32) <<< (f &&& 31)) ((1 : Int32) <<< (f &&& 31))
/-- reached, and the edge of what is reached, behind s steps -/
def bfs (r f : Int32) : Nat → Int32 × Int32
  | 0 => ((1 : Int32) <<< (f &&& 31), (1 : Int32) <<< (f &&& 31))
  | s + 1 => ((bfs r f s).1 ||| (nbI r (bfs r f s).2 &&& ((bfs r f s).1 ^^^ -1)), nbI r (bfs r f s).2 &&& ((bfs r f s).1 ^^^ -1))
/-! roads of a place; a player's third -/
def arJ (p : Int32) : Nat → Int32
  | 0 => 0
  | j + 1 => arJ p j ||| (if nI j = p then 0 else (1 : Int32) <<< (minI p (nI j) * (15 - minI p (nI j)) / 2 + maxI p (nI j) - minI p (nI j) - 1 &&& 31))
def thJ (p : Int32) : Nat → Int32
  | 0 => 0
  | j + 1 => thJ p j ||| ((1 : Int32) <<< (p + 3 * nI j &&& 31))
/-! characters of a number -/
def cdL (c : Int64) (j : Int32) : Int32 := (c.toUInt64 >>> ((8 * j).toInt64.toUInt64 &&& Int64.toUInt64 63)).toInt64.toInt32 &&& 255
def chF (c : Int64) (j : Nat) : Int32 := if j = 0 ∨ (j < 8 ∧ ¬ lg_cmp (c.toUInt64 >>> ((8 * nI j).toInt64.toUInt64 &&& Int64.toUInt64 63)).toInt64 0 = 0) then -2 else nI j
def chG (c : Int64) : Nat → Nat → Int32
  | 0, j => chF c j
  | n + 1, j => if cdL c (nI j) = 0 then chF c j else if cdL c (nI j) < 33 ∨ 126 < cdL c (nI j) then -2 else chG c n (j + 1)
def chI (c : Int64) : Int32 := chG c 8 0

/-! rows put into rows -/
def putR (f g : Nat → Int32) (a n : Nat) : Nat → Int32 := fun k => if a ≤ k ∧ k < a + n then g (k - a) else f k
theorem putR_0 (f g : Nat → Int32) (a : Nat) : putR f g a 0 = f := by
  funext k; unfold putR; rw [if_neg (by omega)]
theorem putR_s (f g : Nat → Int32) (a n : Nat) : upd (putR f g a n) (a + n) (g n) = putR f g a (n + 1) := by
  funext k; unfold upd putR
  by_cases h : k = a + n
  · subst h; rw [if_pos rfl, if_pos (by omega)]; congr 1; omega
  · rw [if_neg h]
    by_cases h2 : a ≤ k ∧ k < a + n
    · rw [if_pos h2, if_pos (by omega)]
    · rw [if_neg h2, if_neg (by omega)]
theorem putR_in {f g : Nat → Int32} {a n k : Nat} (h1 : a ≤ k) (h2 : k < a + n) : putR f g a n k = g (k - a) := if_pos ⟨h1, h2⟩
theorem putR_out {f g : Nat → Int32} {a n k : Nat} (h : k < a ∨ a + n ≤ k) : putR f g a n k = f k := if_neg (by omega)
/-! what follows: facts that the reference's loop needs -/
theorem fol_and (a k r : Int32) : a &&& (k &&& r) = a &&& r &&& k := by
  apply b_ext; intro i _; simp only [b_and]; cases bt a i <;> cases bt k i <;> cases bt r i <;> rfl
theorem fol_0 {r k : Int32} {j : Nat} (h : k_at j &&& (k ^^^ -1) = 0) : folJ r k j = 0 := by
  unfold folJ; split
  · exact h
  · rfl
theorem fol_t1 {r k : Int32} {j : Nat} (h : pcI (k_at j &&& r &&& k) = pcI (k_at j &&& r)) : (k ||| (k_at j &&& (k ^^^ -1))) &&& r = (k &&& r) ||| 0 := sorry
theorem fol_t2 {r k : Int32} {j : Nat} (h : pcI (k_at j &&& r &&& k) + pcI (k_at j &&& (k ^^^ -1)) = pcI (k_at j &&& r)) : (k ||| (k_at j &&& (k ^^^ -1))) &&& r = (k &&& r) ||| (k_at j &&& (k ^^^ -1)) := sorry
theorem swJ_ne {r k : Int32} {j : Nat} (h : ¬ k_at j &&& (swJ r k j ^^^ -1) = 0) : ¬ swJ r k j ||| (k_at j &&& (swJ r k j ^^^ -1)) = k := sorry
theorem KK_stop (r k : Int32) : itN (swp r) k 29 = itN (swp r) k 28 := sorry

/-! answers by number -/
def pick (l : List Int32) (x d : Int32) : Int32 := if x.toInt < 0 then d else l.getD x.toInt.toNat d
theorem pick_out {l : List Int32} {x d : Int32} {k : Nat} (h : x.toInt < 0 ∨ (k : Int) < x.toInt) (hl : l.length = k + 1) : pick l x d = d := by
  unfold pick
  split
  · rfl
  · rw [List.getD_eq_getElem?_getD, List.getElem?_eq_none (by omega)]; rfl
theorem toInt_inj {x : Int32} {k : Int} (h : x.toInt = k) : x = Int32.ofInt k := by rw [← h, Int32.ofInt_toInt]
theorem sw_0_4 (x : Int32) : x = 0 ∨ x = 1 ∨ x = 2 ∨ x = 3 ∨ x = 4 ∨ (x.toInt < 0 ∨ 4 < x.toInt) := by
  by_cases h : x.toInt < 0 ∨ 4 < x.toInt
  · exact Or.inr (Or.inr (Or.inr (Or.inr (Or.inr (h)))))
  · rcases (show x.toInt = 0 ∨ x.toInt = 1 ∨ x.toInt = 2 ∨ x.toInt = 3 ∨ x.toInt = 4 by omega) with q | q | q | q | q
    · exact Or.inl (toInt_inj q)
    · exact Or.inr (Or.inl (toInt_inj q))
    · exact Or.inr (Or.inr (Or.inl (toInt_inj q)))
    · exact Or.inr (Or.inr (Or.inr (Or.inl (toInt_inj q))))
    · exact Or.inr (Or.inr (Or.inr (Or.inr (Or.inl (toInt_inj q)))))
theorem sw_0_5 (x : Int32) : x = 0 ∨ x = 1 ∨ x = 2 ∨ x = 3 ∨ x = 4 ∨ x = 5 ∨ (x.toInt < 0 ∨ 5 < x.toInt) := by
  by_cases h : x.toInt < 0 ∨ 5 < x.toInt
  · exact Or.inr (Or.inr (Or.inr (Or.inr (Or.inr (Or.inr (h))))))
  · rcases (show x.toInt = 0 ∨ x.toInt = 1 ∨ x.toInt = 2 ∨ x.toInt = 3 ∨ x.toInt = 4 ∨ x.toInt = 5 by omega) with q | q | q | q | q | q
    · exact Or.inl (toInt_inj q)
    · exact Or.inr (Or.inl (toInt_inj q))
    · exact Or.inr (Or.inr (Or.inl (toInt_inj q)))
    · exact Or.inr (Or.inr (Or.inr (Or.inl (toInt_inj q))))
    · exact Or.inr (Or.inr (Or.inr (Or.inr (Or.inl (toInt_inj q)))))
    · exact Or.inr (Or.inr (Or.inr (Or.inr (Or.inr (Or.inl (toInt_inj q))))))
theorem sw_0_7 (x : Int32) : x = 0 ∨ x = 1 ∨ x = 2 ∨ x = 3 ∨ x = 4 ∨ x = 5 ∨ x = 6 ∨ x = 7 ∨ (x.toInt < 0 ∨ 7 < x.toInt) := by
  by_cases h : x.toInt < 0 ∨ 7 < x.toInt
  · exact Or.inr (Or.inr (Or.inr (Or.inr (Or.inr (Or.inr (Or.inr (Or.inr (h))))))))
  · rcases (show x.toInt = 0 ∨ x.toInt = 1 ∨ x.toInt = 2 ∨ x.toInt = 3 ∨ x.toInt = 4 ∨ x.toInt = 5 ∨ x.toInt = 6 ∨ x.toInt = 7 by omega) with q | q | q | q | q | q | q | q
    · exact Or.inl (toInt_inj q)
    · exact Or.inr (Or.inl (toInt_inj q))
    · exact Or.inr (Or.inr (Or.inl (toInt_inj q)))
    · exact Or.inr (Or.inr (Or.inr (Or.inl (toInt_inj q))))
    · exact Or.inr (Or.inr (Or.inr (Or.inr (Or.inl (toInt_inj q)))))
    · exact Or.inr (Or.inr (Or.inr (Or.inr (Or.inr (Or.inl (toInt_inj q))))))
    · exact Or.inr (Or.inr (Or.inr (Or.inr (Or.inr (Or.inr (Or.inl (toInt_inj q)))))))
    · exact Or.inr (Or.inr (Or.inr (Or.inr (Or.inr (Or.inr (Or.inr (Or.inl (toInt_inj q))))))))
theorem sw_0_13 (x : Int32) : x = 0 ∨ x = 1 ∨ x = 2 ∨ x = 3 ∨ x = 4 ∨ x = 5 ∨ x = 6 ∨ x = 7 ∨ x = 8 ∨ x = 9 ∨ x = 10 ∨ x = 11 ∨ x = 12 ∨ x = 13 ∨ (x.toInt < 0 ∨ 13 < x.toInt) := by
  by_cases h : x.toInt < 0 ∨ 13 < x.toInt
  · exact Or.inr (Or.inr (Or.inr (Or.inr (Or.inr (Or.inr (Or.inr (Or.inr (Or.inr (Or.inr (Or.inr (Or.inr (Or.inr (Or.inr (h))))))))))))))
  · rcases (show x.toInt = 0 ∨ x.toInt = 1 ∨ x.toInt = 2 ∨ x.toInt = 3 ∨ x.toInt = 4 ∨ x.toInt = 5 ∨ x.toInt = 6 ∨ x.toInt = 7 ∨ x.toInt = 8 ∨ x.toInt = 9 ∨ x.toInt = 10 ∨ x.toInt = 11 ∨ x.toInt = 12 ∨ x.toInt = 13 by omega) with q | q | q | q | q | q | q | q | q | q | q | q | q | q
    · exact Or.inl (toInt_inj q)
    · exact Or.inr (Or.inl (toInt_inj q))
    · exact Or.inr (Or.inr (Or.inl (toInt_inj q)))
    · exact Or.inr (Or.inr (Or.inr (Or.inl (toInt_inj q))))
    · exact Or.inr (Or.inr (Or.inr (Or.inr (Or.inl (toInt_inj q)))))
    · exact Or.inr (Or.inr (Or.inr (Or.inr (Or.inr (Or.inl (toInt_inj q))))))
    · exact Or.inr (Or.inr (Or.inr (Or.inr (Or.inr (Or.inr (Or.inl (toInt_inj q)))))))
    · exact Or.inr (Or.inr (Or.inr (Or.inr (Or.inr (Or.inr (Or.inr (Or.inl (toInt_inj q))))))))
    · exact Or.inr (Or.inr (Or.inr (Or.inr (Or.inr (Or.inr (Or.inr (Or.inr (Or.inl (toInt_inj q)))))))))
    · exact Or.inr (Or.inr (Or.inr (Or.inr (Or.inr (Or.inr (Or.inr (Or.inr (Or.inr (Or.inl (toInt_inj q))))))))))
    · exact Or.inr (Or.inr (Or.inr (Or.inr (Or.inr (Or.inr (Or.inr (Or.inr (Or.inr (Or.inr (Or.inl (toInt_inj q)))))))))))
    · exact Or.inr (Or.inr (Or.inr (Or.inr (Or.inr (Or.inr (Or.inr (Or.inr (Or.inr (Or.inr (Or.inr (Or.inl (toInt_inj q))))))))))))
    · exact Or.inr (Or.inr (Or.inr (Or.inr (Or.inr (Or.inr (Or.inr (Or.inr (Or.inr (Or.inr (Or.inr (Or.inr (Or.inl (toInt_inj q)))))))))))))
    · exact Or.inr (Or.inr (Or.inr (Or.inr (Or.inr (Or.inr (Or.inr (Or.inr (Or.inr (Or.inr (Or.inr (Or.inr (Or.inr (Or.inl (toInt_inj q))))))))))))))
theorem sw_1_5 (x : Int32) : x = 1 ∨ x = 2 ∨ x = 3 ∨ x = 4 ∨ x = 5 ∨ (x.toInt < 1 ∨ 5 < x.toInt) := by
  by_cases h : x.toInt < 1 ∨ 5 < x.toInt
  · exact Or.inr (Or.inr (Or.inr (Or.inr (Or.inr (h)))))
  · rcases (show x.toInt = 1 ∨ x.toInt = 2 ∨ x.toInt = 3 ∨ x.toInt = 4 ∨ x.toInt = 5 by omega) with q | q | q | q | q
    · exact Or.inl (toInt_inj q)
    · exact Or.inr (Or.inl (toInt_inj q))
    · exact Or.inr (Or.inr (Or.inl (toInt_inj q)))
    · exact Or.inr (Or.inr (Or.inr (Or.inl (toInt_inj q))))
    · exact Or.inr (Or.inr (Or.inr (Or.inr (Or.inl (toInt_inj q)))))
/-- the bit of a set that belongs to a road's number -/
def sb (x e : Int32) : Int32 := (x >>> (e &&& 31)) &&& 1
end
section
/-! small static methods of numbers -/
def pl (p : Int32) : Prop := 0 ≤ p ∧ p < 8
/-- the number of the road between two places -/
def eI (a b : Int32) : Int32 := minI a b * (15 - minI a b) / 2 + maxI a b - minI a b - 1
def bitE (a b : Int32) : Int32 := 1 <<< (eI a b &&& 31)
/-- -1, -2 or 0: what is wrong with two places -/
def wrE (a b : Int32) : Int32 := if (0 ≤ a ∧ a < 8) ∧ (0 ≤ b ∧ b < 8) then (if a = b then -2 else 0) else -1
theorem i1ne0 : ¬ (1 : Int32) = 0 := by decide
theorem ite10 {c : Prop} [Decidable c] : ((if c then (1 : Int32) else 0) = 0) ↔ ¬ c := by
  by_cases h : c
  · rw [if_pos h]; exact ⟨fun e => absurd e (by decide), fun e => absurd h e⟩
  · rw [if_neg h]; exact ⟨fun _ => h, fun _ => rfl⟩
theorem wrE_1 {a b : Int32} (h : ¬ (0 ≤ a ∧ a < 8)) : wrE a b = -1 := if_neg (fun q => h q.1)
theorem wrE_2 {a b : Int32} (h : ¬ (0 ≤ b ∧ b < 8)) : wrE a b = -1 := if_neg (fun q => h q.2)
theorem wrE_3 {a b : Int32} (h1 : 0 ≤ a ∧ a < 8) (h2 : 0 ≤ b ∧ b < 8) (h : a = b) : wrE a b = -2 := (if_pos ⟨h1, h2⟩).trans (if_pos h)
theorem wrE_4 {a b : Int32} (h1 : 0 ≤ a ∧ a < 8) (h2 : 0 ≤ b ∧ b < 8) (h : ¬ a = b) : wrE a b = 0 := (if_pos ⟨h1, h2⟩).trans (if_neg h)
theorem ite11 {c : Prop} [Decidable c] (h : ¬ (if c then (1 : Int32) else 0) = 0) : c := Decidable.byContradiction fun q => h (ite10.mpr q)
theorem p7 {p : Int32} : (0 ≤ p ∧ p ≤ 7) ↔ (0 ≤ p ∧ p < 8) := by simp only [Int32.lt_iff_toInt_lt, Int32.le_iff_toInt_le, ti_0, ti_1, ti_2, ti_3, ti_4, ti_5, ti_6, ti_7, ti_8, ti_9, ti_10, ti_14, ti_15, ti_16, ti_20, ti_28, ti_33, ti_40, ti_50, ti_80, ti_97, ti_99, ti_100, ti_104, ti_126, ti_150, ti_182, ti_200, ti_255, ti_364, ti_1092, ti_9999, tim_1, tim_2, tim_3, tim_4, tim_5, tim_6]; omega
theorem p2 {p : Int32} : (0 ≤ p ∧ p ≤ 2) ↔ (0 ≤ p ∧ p < 3) := by simp only [Int32.lt_iff_toInt_lt, Int32.le_iff_toInt_le, ti_0, ti_1, ti_2, ti_3, ti_4, ti_5, ti_6, ti_7, ti_8, ti_9, ti_10, ti_14, ti_15, ti_16, ti_20, ti_28, ti_33, ti_40, ti_50, ti_80, ti_97, ti_99, ti_100, ti_104, ti_126, ti_150, ti_182, ti_200, ti_255, ti_364, ti_1092, ti_9999, tim_1, tim_2, tim_3, tim_4, tim_5, tim_6]; omega

set_option maxRecDepth 100000 in
set_option maxHeartbeats 4000000 in
theorem ct_X1_isPlace (l : Launch) (p : Int32) : CtN l yX1_isPlace cX1_isPlace 1 (some FieldType.boolean) (rmD 0) [.int p] (if 0 ≤ p ∧ p < 8 then 1 else 0) := by
  refine CtF.of (own := RX1) [some (.int p)] (by decide +kernel) rfl (fun _ => Nat.le_of_ble_eq_true rfl) (fun _ => rfl) ?_
  refine VS.iload_n dX1_isPlace_0 rfl ?_
  refine VS.if_lt 14 dX1_isPlace_1 (by decide) (fun h_1 => ?_) (fun h_1 => ?_)
  · refine VS.iconst (0) dX1_isPlace_14 rfl ?_
    exact VS.zret dX1_isPlace_15 (by first | rfl | exact nb_ite) (by first | (rw [if_pos (by simp only [Int32.lt_iff_toInt_lt, Int32.le_iff_toInt_le, ti_0, ti_1, ti_2, ti_3, ti_4, ti_5, ti_6, ti_7, ti_8, ti_9, ti_10, ti_14, ti_15, ti_16, ti_20, ti_28, ti_33, ti_40, ti_50, ti_80, ti_97, ti_99, ti_100, ti_104, ti_126, ti_150, ti_182, ti_200, ti_255, ti_364, ti_1092, ti_9999, tim_1, tim_2, tim_3, tim_4, tim_5, tim_6] at *; omega)]) | (rw [if_neg (by simp only [Int32.lt_iff_toInt_lt, Int32.le_iff_toInt_le, ti_0, ti_1, ti_2, ti_3, ti_4, ti_5, ti_6, ti_7, ti_8, ti_9, ti_10, ti_14, ti_15, ti_16, ti_20, ti_28, ti_33, ti_40, ti_50, ti_80, ti_97, ti_99, ti_100, ti_104, ti_126, ti_150, ti_182, ti_200, ti_255, ti_364, ti_1092, ti_9999, tim_1, tim_2, tim_3, tim_4, tim_5, tim_6] at *; omega)])) (fun _ _ => rfl)
  · refine VS.iload_n dX1_isPlace_4 rfl ?_
    refine VS.bipush (8) dX1_isPlace_5 rfl ?_
    refine VS.icmp_ge 14 dX1_isPlace_7 (by decide) (fun h_7 => ?_) (fun h_7 => ?_)
    · refine VS.iconst (0) dX1_isPlace_14 rfl ?_
      exact VS.zret dX1_isPlace_15 (by first | rfl | exact nb_ite) (by first | (rw [if_pos (by simp only [Int32.lt_iff_toInt_lt, Int32.le_iff_toInt_le, ti_0, ti_1, ti_2, ti_3, ti_4, ti_5, ti_6, ti_7, ti_8, ti_9, ti_10, ti_14, ti_15, ti_16, ti_20, ti_28, ti_33, ti_40, ti_50, ti_80, ti_97, ti_99, ti_100, ti_104, ti_126, ti_150, ti_182, ti_200, ti_255, ti_364, ti_1092, ti_9999, tim_1, tim_2, tim_3, tim_4, tim_5, tim_6] at *; omega)]) | (rw [if_neg (by simp only [Int32.lt_iff_toInt_lt, Int32.le_iff_toInt_le, ti_0, ti_1, ti_2, ti_3, ti_4, ti_5, ti_6, ti_7, ti_8, ti_9, ti_10, ti_14, ti_15, ti_16, ti_20, ti_28, ti_33, ti_40, ti_50, ti_80, ti_97, ti_99, ti_100, ti_104, ti_126, ti_150, ti_182, ti_200, ti_255, ti_364, ti_1092, ti_9999, tim_1, tim_2, tim_3, tim_4, tim_5, tim_6] at *; omega)])) (fun _ _ => rfl)
    · refine VS.iconst (1) dX1_isPlace_10 rfl ?_
      refine VS.goto 15 dX1_isPlace_11 (by decide) ?_
      exact VS.zret dX1_isPlace_15 (by first | rfl | exact nb_ite) (by first | (rw [if_pos (by simp only [Int32.lt_iff_toInt_lt, Int32.le_iff_toInt_le, ti_0, ti_1, ti_2, ti_3, ti_4, ti_5, ti_6, ti_7, ti_8, ti_9, ti_10, ti_14, ti_15, ti_16, ti_20, ti_28, ti_33, ti_40, ti_50, ti_80, ti_97, ti_99, ti_100, ti_104, ti_126, ti_150, ti_182, ti_200, ti_255, ti_364, ti_1092, ti_9999, tim_1, tim_2, tim_3, tim_4, tim_5, tim_6] at *; omega)]) | (rw [if_neg (by simp only [Int32.lt_iff_toInt_lt, Int32.le_iff_toInt_le, ti_0, ti_1, ti_2, ti_3, ti_4, ti_5, ti_6, ti_7, ti_8, ti_9, ti_10, ti_14, ti_15, ti_16, ti_20, ti_28, ti_33, ti_40, ti_50, ti_80, ti_97, ti_99, ti_100, ti_104, ti_126, ti_150, ti_182, ti_200, ti_255, ti_364, ti_1092, ti_9999, tim_1, tim_2, tim_3, tim_4, tim_5, tim_6] at *; omega)])) (fun _ _ => rfl)
set_option maxRecDepth 100000 in
set_option maxHeartbeats 4000000 in
theorem ct_X6_isPlayer (l : Launch) (p : Int32) : CtN l yX6_isPlayer cX6_isPlayer 1 (some FieldType.boolean) (rmD 0) [.int p] (if 0 ≤ p ∧ p < 3 then 1 else 0) := by
  refine CtF.of (own := RX6) [some (.int p)] (by decide +kernel) rfl (fun _ => Nat.le_of_ble_eq_true rfl) (fun _ => rfl) ?_
  refine VS.iload_n dX6_isPlayer_0 rfl ?_
  refine VS.if_lt 13 dX6_isPlayer_1 (by decide) (fun h_1 => ?_) (fun h_1 => ?_)
  · refine VS.iconst (0) dX6_isPlayer_13 rfl ?_
    exact VS.zret dX6_isPlayer_14 (by first | rfl | exact nb_ite) (by first | (rw [if_pos (by simp only [Int32.lt_iff_toInt_lt, Int32.le_iff_toInt_le, ti_0, ti_1, ti_2, ti_3, ti_4, ti_5, ti_6, ti_7, ti_8, ti_9, ti_10, ti_14, ti_15, ti_16, ti_20, ti_28, ti_33, ti_40, ti_50, ti_80, ti_97, ti_99, ti_100, ti_104, ti_126, ti_150, ti_182, ti_200, ti_255, ti_364, ti_1092, ti_9999, tim_1, tim_2, tim_3, tim_4, tim_5, tim_6] at *; omega)]) | (rw [if_neg (by simp only [Int32.lt_iff_toInt_lt, Int32.le_iff_toInt_le, ti_0, ti_1, ti_2, ti_3, ti_4, ti_5, ti_6, ti_7, ti_8, ti_9, ti_10, ti_14, ti_15, ti_16, ti_20, ti_28, ti_33, ti_40, ti_50, ti_80, ti_97, ti_99, ti_100, ti_104, ti_126, ti_150, ti_182, ti_200, ti_255, ti_364, ti_1092, ti_9999, tim_1, tim_2, tim_3, tim_4, tim_5, tim_6] at *; omega)])) (fun _ _ => rfl)
  · refine VS.iload_n dX6_isPlayer_4 rfl ?_
    refine VS.iconst (3) dX6_isPlayer_5 rfl ?_
    refine VS.icmp_ge 13 dX6_isPlayer_6 (by decide) (fun h_6 => ?_) (fun h_6 => ?_)
    · refine VS.iconst (0) dX6_isPlayer_13 rfl ?_
      exact VS.zret dX6_isPlayer_14 (by first | rfl | exact nb_ite) (by first | (rw [if_pos (by simp only [Int32.lt_iff_toInt_lt, Int32.le_iff_toInt_le, ti_0, ti_1, ti_2, ti_3, ti_4, ti_5, ti_6, ti_7, ti_8, ti_9, ti_10, ti_14, ti_15, ti_16, ti_20, ti_28, ti_33, ti_40, ti_50, ti_80, ti_97, ti_99, ti_100, ti_104, ti_126, ti_150, ti_182, ti_200, ti_255, ti_364, ti_1092, ti_9999, tim_1, tim_2, tim_3, tim_4, tim_5, tim_6] at *; omega)]) | (rw [if_neg (by simp only [Int32.lt_iff_toInt_lt, Int32.le_iff_toInt_le, ti_0, ti_1, ti_2, ti_3, ti_4, ti_5, ti_6, ti_7, ti_8, ti_9, ti_10, ti_14, ti_15, ti_16, ti_20, ti_28, ti_33, ti_40, ti_50, ti_80, ti_97, ti_99, ti_100, ti_104, ti_126, ti_150, ti_182, ti_200, ti_255, ti_364, ti_1092, ti_9999, tim_1, tim_2, tim_3, tim_4, tim_5, tim_6] at *; omega)])) (fun _ _ => rfl)
    · refine VS.iconst (1) dX6_isPlayer_9 rfl ?_
      refine VS.goto 14 dX6_isPlayer_10 (by decide) ?_
      exact VS.zret dX6_isPlayer_14 (by first | rfl | exact nb_ite) (by first | (rw [if_pos (by simp only [Int32.lt_iff_toInt_lt, Int32.le_iff_toInt_le, ti_0, ti_1, ti_2, ti_3, ti_4, ti_5, ti_6, ti_7, ti_8, ti_9, ti_10, ti_14, ti_15, ti_16, ti_20, ti_28, ti_33, ti_40, ti_50, ti_80, ti_97, ti_99, ti_100, ti_104, ti_126, ti_150, ti_182, ti_200, ti_255, ti_364, ti_1092, ti_9999, tim_1, tim_2, tim_3, tim_4, tim_5, tim_6] at *; omega)]) | (rw [if_neg (by simp only [Int32.lt_iff_toInt_lt, Int32.le_iff_toInt_le, ti_0, ti_1, ti_2, ti_3, ti_4, ti_5, ti_6, ti_7, ti_8, ti_9, ti_10, ti_14, ti_15, ti_16, ti_20, ti_28, ti_33, ti_40, ti_50, ti_80, ti_97, ti_99, ti_100, ti_104, ti_126, ti_150, ti_182, ti_200, ti_255, ti_364, ti_1092, ti_9999, tim_1, tim_2, tim_3, tim_4, tim_5, tim_6] at *; omega)])) (fun _ _ => rfl)
set_option maxRecDepth 100000 in
set_option maxHeartbeats 4000000 in
theorem ct_X6_isSlot (l : Launch) (p : Int32) : CtN l yX6_isSlot cX6_isSlot 1 (some FieldType.boolean) (rmD 0) [.int p] (if p = 0 ∨ p = 1 then 1 else 0) := by
  refine CtF.of (own := RX6) [some (.int p)] (by decide +kernel) rfl (fun _ => Nat.le_of_ble_eq_true rfl) (fun _ => rfl) ?_
  refine VS.iload_n dX6_isSlot_0 rfl ?_
  refine VS.if_eq 9 dX6_isSlot_1 (by decide) (fun h_1 => ?_) (fun h_1 => ?_)
  · refine VS.iconst (1) dX6_isSlot_9 rfl ?_
    refine VS.goto 14 dX6_isSlot_10 (by decide) ?_
    exact VS.zret dX6_isSlot_14 (by first | rfl | exact nb_ite) (by simp_all) (fun _ _ => rfl)
  · refine VS.iload_n dX6_isSlot_4 rfl ?_
    refine VS.iconst (1) dX6_isSlot_5 rfl ?_
    refine VS.icmp_ne 13 dX6_isSlot_6 (by decide) (fun h_6 => ?_) (fun h_6 => ?_)
    · refine VS.iconst (0) dX6_isSlot_13 rfl ?_
      exact VS.zret dX6_isSlot_14 (by first | rfl | exact nb_ite) (by simp_all) (fun _ _ => rfl)
    · refine VS.iconst (1) dX6_isSlot_9 rfl ?_
      refine VS.goto 14 dX6_isSlot_10 (by decide) ?_
      exact VS.zret dX6_isSlot_14 (by first | rfl | exact nb_ite) (by simp_all) (fun _ _ => rfl)
set_option maxRecDepth 100000 in
set_option maxHeartbeats 4000000 in
theorem ct_X6_isIn (l : Launch) (a : Int32) (b : Int32) : CtN l yX6_isIn cX6_isIn 2 (some FieldType.int) (rmD 0) [.int a, .int b] (if a &&& b = 0 then 0 else 1) := by
  refine CtF.of (own := RX6) [some (.int a), some (.int b)] (by decide +kernel) rfl (fun _ => Nat.le_of_ble_eq_true rfl) (fun _ => rfl) ?_
  refine VS.iload_n dX6_isIn_0 rfl ?_
  refine VS.iload_n dX6_isIn_1 rfl ?_
  refine VS.iand dX6_isIn_2 ?_
  refine VS.if_eq 10 dX6_isIn_3 (by decide) (fun h_3 => ?_) (fun h_3 => ?_)
  · refine VS.iconst (0) dX6_isIn_10 rfl ?_
    exact VS.iret dX6_isIn_11 (by simp_all) (fun _ _ => rfl)
  · refine VS.iconst (1) dX6_isIn_6 rfl ?_
    refine VS.goto 11 dX6_isIn_7 (by decide) ?_
    exact VS.iret dX6_isIn_11 (by simp_all) (fun _ _ => rfl)
set_option maxRecDepth 100000 in
set_option maxHeartbeats 4000000 in
theorem ct_X1_numberOf (l : Launch) (a : Int32) (b : Int32) : CtN l yX1_numberOf cX1_numberOf 4 (some FieldType.int) (rmD 1) [.int a, .int b] (eI a b) := by
  refine CtF.of (own := RX1) [some (.int a), some (.int b), none, none] (by decide +kernel) rfl (fun _ => Nat.le_of_ble_eq_true rfl) (fun _ => rfl) ?_
  refine VS.iload_n dX1_numberOf_0 rfl ?_
  refine VS.iload_n dX1_numberOf_1 rfl ?_
  refine VS.mmin dX1_numberOf_2 ml_X1_15 (rmM_D (by decide)) (Nat.le_of_ble_eq_true rfl) ?_
  refine VS.istore_n dX1_numberOf_5 (by decide) rfl ?_
  refine VS.iload_n dX1_numberOf_6 rfl ?_
  refine VS.iload_n dX1_numberOf_7 rfl ?_
  refine VS.mmax dX1_numberOf_8 ml_X1_21 (rmM_D (by decide)) (Nat.le_of_ble_eq_true rfl) ?_
  refine VS.istore_n dX1_numberOf_11 (by decide) rfl ?_
  refine VS.iload_n dX1_numberOf_12 rfl ?_
  refine VS.bipush (15) dX1_numberOf_13 rfl ?_
  refine VS.iload_n dX1_numberOf_15 rfl ?_
  refine VS.isub dX1_numberOf_16 ?_
  refine VS.imul dX1_numberOf_17 ?_
  refine VS.iconst (2) dX1_numberOf_18 rfl ?_
  refine VS.idiv dX1_numberOf_19 (by decide) ?_
  refine VS.iload_n dX1_numberOf_20 rfl ?_
  refine VS.iadd dX1_numberOf_21 ?_
  refine VS.iload_n dX1_numberOf_22 rfl ?_
  refine VS.isub dX1_numberOf_23 ?_
  refine VS.iconst (1) dX1_numberOf_24 rfl ?_
  refine VS.isub dX1_numberOf_25 ?_
  exact VS.iret dX1_numberOf_26 (rfl) (fun _ _ => rfl)
set_option maxRecDepth 100000 in
set_option maxHeartbeats 4000000 in
theorem ct_X1_roadBetween (l : Launch) (a : Int32) (b : Int32) : CtN l yX1_roadBetween cX1_roadBetween 2 (some FieldType.int) (rmD 2) [.int a, .int b] (bitE a b) := by
  refine CtF.of (own := RX1) [some (.int a), some (.int b)] (by decide +kernel) rfl (fun _ => Nat.le_of_ble_eq_true rfl) (fun _ => rfl) ?_
  refine VS.iconst (1) dX1_roadBetween_0 rfl ?_
  refine VS.iload_n dX1_roadBetween_1 rfl ?_
  refine VS.iload_n dX1_roadBetween_2 rfl ?_
  refine VS.callN (ct_X1_numberOf l _ _) dX1_roadBetween_3 mi_X1_numberOf st_X1_numberOf ml_X1_24 (rmOk_D (by decide) (by decide)) (Nat.le_of_ble_eq_true rfl) rfl ?_
  refine VS.ishl dX1_roadBetween_6 ?_
  exact VS.iret dX1_roadBetween_7 (rfl) (fun _ _ => rfl)
set_option maxRecDepth 100000 in
set_option maxHeartbeats 4000000 in
theorem ct_X1_wrongEnds (l : Launch) (a : Int32) (b : Int32) : CtN l yX1_wrongEnds cX1_wrongEnds 2 (some FieldType.int) (rmD 1) [.int a, .int b] (wrE a b) := by
  refine CtF.of (own := RX1) [some (.int a), some (.int b)] (by decide +kernel) rfl (fun _ => Nat.le_of_ble_eq_true rfl) (fun _ => rfl) ?_
  refine VS.iload_n dX1_wrongEnds_0 rfl ?_
  refine VS.callN (ct_X1_isPlace l _) dX1_wrongEnds_1 mi_X1_isPlace st_X1_isPlace ml_X1_11 (rmOk_D (by decide) (by decide)) (Nat.le_of_ble_eq_true rfl) rfl ?_
  refine VS.if_eq 14 dX1_wrongEnds_4 (by decide) (fun h_4 => ?_) (fun h_4 => ?_)
  · refine VS.iconst (-1) dX1_wrongEnds_14 rfl ?_
    exact VS.iret dX1_wrongEnds_15 (by first | (rw [wrE_1 (ite10.mp h_4)]) | (rw [wrE_2 (ite10.mp h_11)]) | (rw [wrE_3 (ite11 h_4) (ite11 h_11) h_18]) | (rw [wrE_4 (ite11 h_4) (ite11 h_11) h_18])) (fun _ _ => rfl)
  · refine VS.iload_n dX1_wrongEnds_7 rfl ?_
    refine VS.callN (ct_X1_isPlace l _) dX1_wrongEnds_8 mi_X1_isPlace st_X1_isPlace ml_X1_11 (rmOk_D (by decide) (by decide)) (Nat.le_of_ble_eq_true rfl) rfl ?_
    refine VS.if_ne 16 dX1_wrongEnds_11 (by decide) (fun h_11 => ?_) (fun h_11 => ?_)
    · refine VS.iload_n dX1_wrongEnds_16 rfl ?_
      refine VS.iload_n dX1_wrongEnds_17 rfl ?_
      refine VS.icmp_ne 26 dX1_wrongEnds_18 (by decide) (fun h_18 => ?_) (fun h_18 => ?_)
      · refine VS.iconst (0) dX1_wrongEnds_26 rfl ?_
        exact VS.iret dX1_wrongEnds_27 (by first | (rw [wrE_1 (ite10.mp h_4)]) | (rw [wrE_2 (ite10.mp h_11)]) | (rw [wrE_3 (ite11 h_4) (ite11 h_11) h_18]) | (rw [wrE_4 (ite11 h_4) (ite11 h_11) h_18])) (fun _ _ => rfl)
      · refine VS.bipush (-2) dX1_wrongEnds_21 rfl ?_
        refine VS.goto 27 dX1_wrongEnds_23 (by decide) ?_
        exact VS.iret dX1_wrongEnds_27 (by first | (rw [wrE_1 (ite10.mp h_4)]) | (rw [wrE_2 (ite10.mp h_11)]) | (rw [wrE_3 (ite11 h_4) (ite11 h_11) h_18]) | (rw [wrE_4 (ite11 h_4) (ite11 h_11) h_18])) (fun _ _ => rfl)
    · refine VS.iconst (-1) dX1_wrongEnds_14 rfl ?_
      exact VS.iret dX1_wrongEnds_15 (by first | (rw [wrE_1 (ite10.mp h_4)]) | (rw [wrE_2 (ite10.mp h_11)]) | (rw [wrE_3 (ite11 h_4) (ite11 h_11) h_18]) | (rw [wrE_4 (ite11 h_4) (ite11 h_11) h_18])) (fun _ _ => rfl)
set_option maxRecDepth 100000 in
set_option maxHeartbeats 4000000 in
theorem ct_X1_roadsAt (l : Launch) (p : Int32) : CtN l yX1_roadsAt cX1_roadsAt 1 (some FieldType.int) (rmD 0) [.int p] (if 0 ≤ p ∧ p < 8 then k_at p.toNatClampNeg else 0) := by
  refine CtF.of (own := RX1) [some (.int p)] (by decide +kernel) rfl (fun _ => Nat.le_of_ble_eq_true rfl) (fun _ => rfl) ?_
  refine VS.iload_n dX1_roadsAt_0 rfl ?_
  refine VS.if_lt 20 dX1_roadsAt_1 (by decide) (fun h_1 => ?_) (fun h_1 => ?_)
  · refine VS.iconst (0) dX1_roadsAt_20 rfl ?_
    exact VS.iret dX1_roadsAt_21 (by first | (rw [if_pos (by simp only [Int32.lt_iff_toInt_lt, Int32.le_iff_toInt_le, ti_0, ti_1, ti_2, ti_3, ti_4, ti_5, ti_6, ti_7, ti_8, ti_9, ti_10, ti_14, ti_15, ti_16, ti_20, ti_28, ti_33, ti_40, ti_50, ti_80, ti_97, ti_99, ti_100, ti_104, ti_126, ti_150, ti_182, ti_200, ti_255, ti_364, ti_1092, ti_9999, tim_1, tim_2, tim_3, tim_4, tim_5, tim_6] at *; omega)]) | (rw [if_neg (by simp only [Int32.lt_iff_toInt_lt, Int32.le_iff_toInt_le, ti_0, ti_1, ti_2, ti_3, ti_4, ti_5, ti_6, ti_7, ti_8, ti_9, ti_10, ti_14, ti_15, ti_16, ti_20, ti_28, ti_33, ti_40, ti_50, ti_80, ti_97, ti_99, ti_100, ti_104, ti_126, ti_150, ti_182, ti_200, ti_255, ti_364, ti_1092, ti_9999, tim_1, tim_2, tim_3, tim_4, tim_5, tim_6] at *; omega)])) (fun _ _ => rfl)
  · refine VS.iload_n dX1_roadsAt_4 rfl ?_
    refine VS.gslen (v := 8) (ref := "") (fun _ _ _ h => h.1.2.2.2) dX1_roadsAt_5 dX1_roadsAt_8 fl_X1_27 rfl ?_
    refine VS.icmp_ge 20 dX1_roadsAt_9 (by decide) (fun h_9 => ?_) (fun h_9 => ?_)
    · refine VS.iconst (0) dX1_roadsAt_20 rfl ?_
      exact VS.iret dX1_roadsAt_21 (by first | (rw [if_pos (by simp only [Int32.lt_iff_toInt_lt, Int32.le_iff_toInt_le, ti_0, ti_1, ti_2, ti_3, ti_4, ti_5, ti_6, ti_7, ti_8, ti_9, ti_10, ti_14, ti_15, ti_16, ti_20, ti_28, ti_33, ti_40, ti_50, ti_80, ti_97, ti_99, ti_100, ti_104, ti_126, ti_150, ti_182, ti_200, ti_255, ti_364, ti_1092, ti_9999, tim_1, tim_2, tim_3, tim_4, tim_5, tim_6] at *; omega)]) | (rw [if_neg (by simp only [Int32.lt_iff_toInt_lt, Int32.le_iff_toInt_le, ti_0, ti_1, ti_2, ti_3, ti_4, ti_5, ti_6, ti_7, ti_8, ti_9, ti_10, ti_14, ti_15, ti_16, ti_20, ti_28, ti_33, ti_40, ti_50, ti_80, ti_97, ti_99, ti_100, ti_104, ti_126, ti_150, ti_182, ti_200, ti_255, ti_364, ti_1092, ti_9999, tim_1, tim_2, tim_3, tim_4, tim_5, tim_6] at *; omega)])) (fun _ _ => rfl)
    · refine VS.gsld (ref := "") (fun _ _ _ h => h.1.2.2.2) dX1_roadsAt_12 dX1_roadsAt_15 dX1_roadsAt_16 fl_X1_27 rfl (vp_in_iff.mpr (by simp only [Int32.lt_iff_toInt_lt, Int32.le_iff_toInt_le, ti_0, ti_1, ti_2, ti_3, ti_4, ti_5, ti_6, ti_7, ti_8, ti_9, ti_10, ti_14, ti_15, ti_16, ti_20, ti_28, ti_33, ti_40, ti_50, ti_80, ti_97, ti_99, ti_100, ti_104, ti_126, ti_150, ti_182, ti_200, ti_255, ti_364, ti_1092, ti_9999, tim_1, tim_2, tim_3, tim_4, tim_5, tim_6] at *; omega)) ?_
      refine VS.goto 21 dX1_roadsAt_17 (by decide) ?_
      exact VS.iret dX1_roadsAt_21 (by first | (rw [if_pos (by simp only [Int32.lt_iff_toInt_lt, Int32.le_iff_toInt_le, ti_0, ti_1, ti_2, ti_3, ti_4, ti_5, ti_6, ti_7, ti_8, ti_9, ti_10, ti_14, ti_15, ti_16, ti_20, ti_28, ti_33, ti_40, ti_50, ti_80, ti_97, ti_99, ti_100, ti_104, ti_126, ti_150, ti_182, ti_200, ti_255, ti_364, ti_1092, ti_9999, tim_1, tim_2, tim_3, tim_4, tim_5, tim_6] at *; omega)]) | (rw [if_neg (by simp only [Int32.lt_iff_toInt_lt, Int32.le_iff_toInt_le, ti_0, ti_1, ti_2, ti_3, ti_4, ti_5, ti_6, ti_7, ti_8, ti_9, ti_10, ti_14, ti_15, ti_16, ti_20, ti_28, ti_33, ti_40, ti_50, ti_80, ti_97, ti_99, ti_100, ti_104, ti_126, ti_150, ti_182, ti_200, ti_255, ti_364, ti_1092, ti_9999, tim_1, tim_2, tim_3, tim_4, tim_5, tim_6] at *; omega)])) (fun _ _ => rfl)
set_option maxRecDepth 100000 in
set_option maxHeartbeats 4000000 in
theorem ct_X1_thirdOf (l : Launch) (p : Int32) : CtN l yX1_thirdOf cX1_thirdOf 1 (some FieldType.int) (rmD 0) [.int p] ((153391689 <<< (p &&& 31)) &&& 268435455) := by
  refine CtF.of (own := RX1) [some (.int p)] (by decide +kernel) rfl (fun _ => Nat.le_of_ble_eq_true rfl) (fun _ => rfl) ?_
  refine VS.ldc dX1_thirdOf_0 kc_X1_31 ?_
  refine VS.iload_n dX1_thirdOf_2 rfl ?_
  refine VS.ishl dX1_thirdOf_3 ?_
  refine VS.ldc dX1_thirdOf_4 kc_X1_32 ?_
  refine VS.iand dX1_thirdOf_6 ?_
  exact VS.iret dX1_thirdOf_7 (rfl) (fun _ _ => rfl)
set_option maxRecDepth 100000 in
set_option maxHeartbeats 4000000 in
theorem ct_X7_in (l : Launch) (v : Int32) (lo : Int32) (hi : Int32) : CtN l yX7_in cX7_in 3 (some FieldType.boolean) (rmD 0) [.int v, .int lo, .int hi] (if lo ≤ v ∧ v ≤ hi then 1 else 0) := by
  refine CtF.of (own := RX7) [some (.int v), some (.int lo), some (.int hi)] (by decide +kernel) rfl (fun _ => Nat.le_of_ble_eq_true rfl) (fun _ => rfl) ?_
  refine VS.iload_n dX7_in_0 rfl ?_
  refine VS.iload_n dX7_in_1 rfl ?_
  refine VS.icmp_lt 14 dX7_in_2 (by decide) (fun h_2 => ?_) (fun h_2 => ?_)
  · refine VS.iconst (0) dX7_in_14 rfl ?_
    exact VS.zret dX7_in_15 (by first | rfl | exact nb_ite) (by first | (rw [if_pos (by simp only [Int32.lt_iff_toInt_lt, Int32.le_iff_toInt_le, ti_0, ti_1, ti_2, ti_3, ti_4, ti_5, ti_6, ti_7, ti_8, ti_9, ti_10, ti_14, ti_15, ti_16, ti_20, ti_28, ti_33, ti_40, ti_50, ti_80, ti_97, ti_99, ti_100, ti_104, ti_126, ti_150, ti_182, ti_200, ti_255, ti_364, ti_1092, ti_9999, tim_1, tim_2, tim_3, tim_4, tim_5, tim_6] at *; omega)]) | (rw [if_neg (by simp only [Int32.lt_iff_toInt_lt, Int32.le_iff_toInt_le, ti_0, ti_1, ti_2, ti_3, ti_4, ti_5, ti_6, ti_7, ti_8, ti_9, ti_10, ti_14, ti_15, ti_16, ti_20, ti_28, ti_33, ti_40, ti_50, ti_80, ti_97, ti_99, ti_100, ti_104, ti_126, ti_150, ti_182, ti_200, ti_255, ti_364, ti_1092, ti_9999, tim_1, tim_2, tim_3, tim_4, tim_5, tim_6] at *; omega)])) (fun _ _ => rfl)
  · refine VS.iload_n dX7_in_5 rfl ?_
    refine VS.iload_n dX7_in_6 rfl ?_
    refine VS.icmp_gt 14 dX7_in_7 (by decide) (fun h_7 => ?_) (fun h_7 => ?_)
    · refine VS.iconst (0) dX7_in_14 rfl ?_
      exact VS.zret dX7_in_15 (by first | rfl | exact nb_ite) (by first | (rw [if_pos (by simp only [Int32.lt_iff_toInt_lt, Int32.le_iff_toInt_le, ti_0, ti_1, ti_2, ti_3, ti_4, ti_5, ti_6, ti_7, ti_8, ti_9, ti_10, ti_14, ti_15, ti_16, ti_20, ti_28, ti_33, ti_40, ti_50, ti_80, ti_97, ti_99, ti_100, ti_104, ti_126, ti_150, ti_182, ti_200, ti_255, ti_364, ti_1092, ti_9999, tim_1, tim_2, tim_3, tim_4, tim_5, tim_6] at *; omega)]) | (rw [if_neg (by simp only [Int32.lt_iff_toInt_lt, Int32.le_iff_toInt_le, ti_0, ti_1, ti_2, ti_3, ti_4, ti_5, ti_6, ti_7, ti_8, ti_9, ti_10, ti_14, ti_15, ti_16, ti_20, ti_28, ti_33, ti_40, ti_50, ti_80, ti_97, ti_99, ti_100, ti_104, ti_126, ti_150, ti_182, ti_200, ti_255, ti_364, ti_1092, ti_9999, tim_1, tim_2, tim_3, tim_4, tim_5, tim_6] at *; omega)])) (fun _ _ => rfl)
    · refine VS.iconst (1) dX7_in_10 rfl ?_
      refine VS.goto 15 dX7_in_11 (by decide) ?_
      exact VS.zret dX7_in_15 (by first | rfl | exact nb_ite) (by first | (rw [if_pos (by simp only [Int32.lt_iff_toInt_lt, Int32.le_iff_toInt_le, ti_0, ti_1, ti_2, ti_3, ti_4, ti_5, ti_6, ti_7, ti_8, ti_9, ti_10, ti_14, ti_15, ti_16, ti_20, ti_28, ti_33, ti_40, ti_50, ti_80, ti_97, ti_99, ti_100, ti_104, ti_126, ti_150, ti_182, ti_200, ti_255, ti_364, ti_1092, ti_9999, tim_1, tim_2, tim_3, tim_4, tim_5, tim_6] at *; omega)]) | (rw [if_neg (by simp only [Int32.lt_iff_toInt_lt, Int32.le_iff_toInt_le, ti_0, ti_1, ti_2, ti_3, ti_4, ti_5, ti_6, ti_7, ti_8, ti_9, ti_10, ti_14, ti_15, ti_16, ti_20, ti_28, ti_33, ti_40, ti_50, ti_80, ti_97, ti_99, ti_100, ti_104, ti_126, ti_150, ti_182, ti_200, ti_255, ti_364, ti_1092, ti_9999, tim_1, tim_2, tim_3, tim_4, tim_5, tim_6] at *; omega)])) (fun _ _ => rfl)
set_option maxRecDepth 100000 in
set_option maxHeartbeats 4000000 in
theorem ct_X7_isPlace (l : Launch) (p : Int32) : CtN l yX7_isPlace cX7_isPlace 1 (some FieldType.boolean) (rmD 1) [.int p] (if 0 ≤ p ∧ p < 8 then 1 else 0) := by
  refine CtF.of (own := RX7) [some (.int p)] (by decide +kernel) rfl (fun _ => Nat.le_of_ble_eq_true rfl) (fun _ => rfl) ?_
  refine VS.iload_n dX7_isPlace_0 rfl ?_
  refine VS.iconst (0) dX7_isPlace_1 rfl ?_
  refine VS.bipush (7) dX7_isPlace_2 rfl ?_
  refine VS.callN (ct_X7_in l _ _ _) dX7_isPlace_4 mi_X7_in st_X7_in ml_X7_29 (rmOk_D (by decide) (by decide)) (Nat.le_of_ble_eq_true rfl) rfl ?_
  exact VS.zret dX7_isPlace_7 (by first | rfl | exact nb_ite) (by simp only [p7]) (fun _ _ => rfl)
set_option maxRecDepth 100000 in
set_option maxHeartbeats 4000000 in
theorem ct_X7_isPlayer (l : Launch) (p : Int32) : CtN l yX7_isPlayer cX7_isPlayer 1 (some FieldType.boolean) (rmD 1) [.int p] (if 0 ≤ p ∧ p < 3 then 1 else 0) := by
  refine CtF.of (own := RX7) [some (.int p)] (by decide +kernel) rfl (fun _ => Nat.le_of_ble_eq_true rfl) (fun _ => rfl) ?_
  refine VS.iload_n dX7_isPlayer_0 rfl ?_
  refine VS.iconst (0) dX7_isPlayer_1 rfl ?_
  refine VS.iconst (2) dX7_isPlayer_2 rfl ?_
  refine VS.callN (ct_X7_in l _ _ _) dX7_isPlayer_3 mi_X7_in st_X7_in ml_X7_29 (rmOk_D (by decide) (by decide)) (Nat.le_of_ble_eq_true rfl) rfl ?_
  exact VS.zret dX7_isPlayer_6 (by first | rfl | exact nb_ite) (by simp only [p2]) (fun _ _ => rfl)
theorem minI_1 {a b : Int32} (h : b ≤ a) : minI a b = b := by
  unfold minI
  split
  · rfl
  · rename_i q; exact Int32.le_antisymm (Int32.not_lt.mp q) h
theorem minI_2 {a b : Int32} (h : ¬ b ≤ a) : minI a b = a := if_neg (fun q => h (Int32.le_of_lt q))
theorem maxI_1 {a b : Int32} (h : b ≤ a) : maxI a b = a := if_neg (Int32.not_lt.mpr h)
theorem maxI_2 {a b : Int32} (h : ¬ b ≤ a) : maxI a b = b := if_pos (Int32.not_le.mp h)
set_option maxRecDepth 100000 in
set_option maxHeartbeats 4000000 in
theorem ct_X7_edge (l : Launch) (a : Int32) (b : Int32) : CtN l yX7_edge cX7_edge 4 (some FieldType.int) (rmD 0) [.int a, .int b] (eI a b) := by
  refine CtF.of (own := RX7) [some (.int a), some (.int b), none, none] (by decide +kernel) rfl (fun _ => Nat.le_of_ble_eq_true rfl) (fun _ => rfl) ?_
  refine VS.iload_n dX7_edge_0 rfl ?_
  refine VS.iload_n dX7_edge_1 rfl ?_
  refine VS.icmp_ge 9 dX7_edge_2 (by decide) (fun h_2 => ?_) (fun h_2 => ?_)
  · refine VS.iload_n dX7_edge_9 rfl ?_
    refine VS.istore_n dX7_edge_10 (by decide) rfl ?_
    refine VS.iload_n dX7_edge_11 rfl ?_
    refine VS.iload_n dX7_edge_12 rfl ?_
    refine VS.icmp_ge 20 dX7_edge_13 (by decide) (fun h_13 => ?_) (fun h_13 => ?_)
    · refine VS.iload_n dX7_edge_20 rfl ?_
      refine VS.istore_n dX7_edge_21 (by decide) rfl ?_
      refine VS.iload_n dX7_edge_22 rfl ?_
      refine VS.bipush (15) dX7_edge_23 rfl ?_
      refine VS.iload_n dX7_edge_25 rfl ?_
      refine VS.isub dX7_edge_26 ?_
      refine VS.imul dX7_edge_27 ?_
      refine VS.iconst (2) dX7_edge_28 rfl ?_
      refine VS.idiv dX7_edge_29 (by decide) ?_
      refine VS.iload_n dX7_edge_30 rfl ?_
      refine VS.iadd dX7_edge_31 ?_
      refine VS.iload_n dX7_edge_32 rfl ?_
      refine VS.isub dX7_edge_33 ?_
      refine VS.iconst (1) dX7_edge_34 rfl ?_
      refine VS.isub dX7_edge_35 ?_
      exact VS.iret dX7_edge_36 (by first | (unfold eI; rw [minI_1 h_2, maxI_1 h_13]) | (unfold eI; rw [minI_2 h_2, maxI_2 h_13]) | exact absurd h_2 h_13 | exact absurd h_13 h_2) (fun _ _ => rfl)
    · refine VS.iload_n dX7_edge_16 rfl ?_
      refine VS.goto 21 dX7_edge_17 (by decide) ?_
      refine VS.istore_n dX7_edge_21 (by decide) rfl ?_
      refine VS.iload_n dX7_edge_22 rfl ?_
      refine VS.bipush (15) dX7_edge_23 rfl ?_
      refine VS.iload_n dX7_edge_25 rfl ?_
      refine VS.isub dX7_edge_26 ?_
      refine VS.imul dX7_edge_27 ?_
      refine VS.iconst (2) dX7_edge_28 rfl ?_
      refine VS.idiv dX7_edge_29 (by decide) ?_
      refine VS.iload_n dX7_edge_30 rfl ?_
      refine VS.iadd dX7_edge_31 ?_
      refine VS.iload_n dX7_edge_32 rfl ?_
      refine VS.isub dX7_edge_33 ?_
      refine VS.iconst (1) dX7_edge_34 rfl ?_
      refine VS.isub dX7_edge_35 ?_
      exact VS.iret dX7_edge_36 (by first | (unfold eI; rw [minI_1 h_2, maxI_1 h_13]) | (unfold eI; rw [minI_2 h_2, maxI_2 h_13]) | exact absurd h_2 h_13 | exact absurd h_13 h_2) (fun _ _ => rfl)
  · refine VS.iload_n dX7_edge_5 rfl ?_
    refine VS.goto 10 dX7_edge_6 (by decide) ?_
    refine VS.istore_n dX7_edge_10 (by decide) rfl ?_
    refine VS.iload_n dX7_edge_11 rfl ?_
    refine VS.iload_n dX7_edge_12 rfl ?_
    refine VS.icmp_ge 20 dX7_edge_13 (by decide) (fun h_13 => ?_) (fun h_13 => ?_)
    · refine VS.iload_n dX7_edge_20 rfl ?_
      refine VS.istore_n dX7_edge_21 (by decide) rfl ?_
      refine VS.iload_n dX7_edge_22 rfl ?_
      refine VS.bipush (15) dX7_edge_23 rfl ?_
      refine VS.iload_n dX7_edge_25 rfl ?_
      refine VS.isub dX7_edge_26 ?_
      refine VS.imul dX7_edge_27 ?_
      refine VS.iconst (2) dX7_edge_28 rfl ?_
      refine VS.idiv dX7_edge_29 (by decide) ?_
      refine VS.iload_n dX7_edge_30 rfl ?_
      refine VS.iadd dX7_edge_31 ?_
      refine VS.iload_n dX7_edge_32 rfl ?_
      refine VS.isub dX7_edge_33 ?_
      refine VS.iconst (1) dX7_edge_34 rfl ?_
      refine VS.isub dX7_edge_35 ?_
      exact VS.iret dX7_edge_36 (by first | (unfold eI; rw [minI_1 h_2, maxI_1 h_13]) | (unfold eI; rw [minI_2 h_2, maxI_2 h_13]) | exact absurd h_2 h_13 | exact absurd h_13 h_2) (fun _ _ => rfl)
    · refine VS.iload_n dX7_edge_16 rfl ?_
      refine VS.goto 21 dX7_edge_17 (by decide) ?_
      refine VS.istore_n dX7_edge_21 (by decide) rfl ?_
      refine VS.iload_n dX7_edge_22 rfl ?_
      refine VS.bipush (15) dX7_edge_23 rfl ?_
      refine VS.iload_n dX7_edge_25 rfl ?_
      refine VS.isub dX7_edge_26 ?_
      refine VS.imul dX7_edge_27 ?_
      refine VS.iconst (2) dX7_edge_28 rfl ?_
      refine VS.idiv dX7_edge_29 (by decide) ?_
      refine VS.iload_n dX7_edge_30 rfl ?_
      refine VS.iadd dX7_edge_31 ?_
      refine VS.iload_n dX7_edge_32 rfl ?_
      refine VS.isub dX7_edge_33 ?_
      refine VS.iconst (1) dX7_edge_34 rfl ?_
      refine VS.isub dX7_edge_35 ?_
      exact VS.iret dX7_edge_36 (by first | (unfold eI; rw [minI_1 h_2, maxI_1 h_13]) | (unfold eI; rw [minI_2 h_2, maxI_2 h_13]) | exact absurd h_2 h_13 | exact absurd h_13 h_2) (fun _ _ => rfl)
set_option maxRecDepth 100000 in
set_option maxHeartbeats 4000000 in
theorem ct_X7_barPair (l : Launch) (a : Int32) (b : Int32) : CtN l yX7_barPair cX7_barPair 2 (some FieldType.int) (rmD 2) [.int a, .int b] (wrE a b) := by
  refine CtF.of (own := RX7) [some (.int a), some (.int b)] (by decide +kernel) rfl (fun _ => Nat.le_of_ble_eq_true rfl) (fun _ => rfl) ?_
  refine VS.iload_n dX7_barPair_0 rfl ?_
  refine VS.callN (ct_X7_isPlace l _) dX7_barPair_1 mi_X7_isPlace st_X7_isPlace ml_X7_67 (rmOk_D (by decide) (by decide)) (Nat.le_of_ble_eq_true rfl) rfl ?_
  refine VS.if_eq 14 dX7_barPair_4 (by decide) (fun h_4 => ?_) (fun h_4 => ?_)
  · refine VS.iconst (-1) dX7_barPair_14 rfl ?_
    refine VS.goto 29 dX7_barPair_15 (by decide) ?_
    exact VS.iret dX7_barPair_29 (by first | (rw [wrE_1 (ite10.mp h_4)]) | (rw [wrE_2 (ite10.mp h_11)]) | (rw [wrE_3 (ite11 h_4) (ite11 h_11) h_20]) | (rw [wrE_4 (ite11 h_4) (ite11 h_11) h_20])) (fun _ _ => rfl)
  · refine VS.iload_n dX7_barPair_7 rfl ?_
    refine VS.callN (ct_X7_isPlace l _) dX7_barPair_8 mi_X7_isPlace st_X7_isPlace ml_X7_67 (rmOk_D (by decide) (by decide)) (Nat.le_of_ble_eq_true rfl) rfl ?_
    refine VS.if_ne 18 dX7_barPair_11 (by decide) (fun h_11 => ?_) (fun h_11 => ?_)
    · refine VS.iload_n dX7_barPair_18 rfl ?_
      refine VS.iload_n dX7_barPair_19 rfl ?_
      refine VS.icmp_ne 28 dX7_barPair_20 (by decide) (fun h_20 => ?_) (fun h_20 => ?_)
      · refine VS.iconst (0) dX7_barPair_28 rfl ?_
        exact VS.iret dX7_barPair_29 (by first | (rw [wrE_1 (ite10.mp h_4)]) | (rw [wrE_2 (ite10.mp h_11)]) | (rw [wrE_3 (ite11 h_4) (ite11 h_11) h_20]) | (rw [wrE_4 (ite11 h_4) (ite11 h_11) h_20])) (fun _ _ => rfl)
      · refine VS.bipush (-2) dX7_barPair_23 rfl ?_
        refine VS.goto 29 dX7_barPair_25 (by decide) ?_
        exact VS.iret dX7_barPair_29 (by first | (rw [wrE_1 (ite10.mp h_4)]) | (rw [wrE_2 (ite10.mp h_11)]) | (rw [wrE_3 (ite11 h_4) (ite11 h_11) h_20]) | (rw [wrE_4 (ite11 h_4) (ite11 h_11) h_20])) (fun _ _ => rfl)
    · refine VS.iconst (-1) dX7_barPair_14 rfl ?_
      refine VS.goto 29 dX7_barPair_15 (by decide) ?_
      exact VS.iret dX7_barPair_29 (by first | (rw [wrE_1 (ite10.mp h_4)]) | (rw [wrE_2 (ite10.mp h_11)]) | (rw [wrE_3 (ite11 h_4) (ite11 h_11) h_20]) | (rw [wrE_4 (ite11 h_4) (ite11 h_11) h_20])) (fun _ _ => rfl)
set_option maxRecDepth 100000 in
set_option maxHeartbeats 4000000 in
theorem ct_X7_least (l : Launch) (k : Int32) : CtN l yX7_least cX7_least 1 (some FieldType.int) (rmD 0) [.int k] (if k = 1 ∨ k = 3 then 1 else 0) := by
  refine CtF.of (own := RX7) [some (.int k)] (by decide +kernel) rfl (fun _ => Nat.le_of_ble_eq_true rfl) (fun _ => rfl) ?_
  refine VS.iload_n dX7_least_0 rfl ?_
  refine VS.iconst (1) dX7_least_1 rfl ?_
  refine VS.icmp_eq 10 dX7_least_2 (by decide) (fun h_2 => ?_) (fun h_2 => ?_)
  · refine VS.iconst (1) dX7_least_10 rfl ?_
    refine VS.goto 15 dX7_least_11 (by decide) ?_
    exact VS.iret dX7_least_15 (by simp_all) (fun _ _ => rfl)
  · refine VS.iload_n dX7_least_5 rfl ?_
    refine VS.iconst (3) dX7_least_6 rfl ?_
    refine VS.icmp_ne 14 dX7_least_7 (by decide) (fun h_7 => ?_) (fun h_7 => ?_)
    · refine VS.iconst (0) dX7_least_14 rfl ?_
      exact VS.iret dX7_least_15 (by simp_all) (fun _ _ => rfl)
    · refine VS.iconst (1) dX7_least_10 rfl ?_
      refine VS.goto 15 dX7_least_11 (by decide) ?_
      exact VS.iret dX7_least_15 (by simp_all) (fun _ _ => rfl)
set_option maxRecDepth 100000 in
set_option maxHeartbeats 4000000 in
theorem ct_X7_most (l : Launch) (k : Int32) : CtN l yX7_most cX7_most 1 (some FieldType.int) (rmD 0) [.int k] (if k = 0 then 20 else if k = 3 then 200 else 50) := by
  refine CtF.of (own := RX7) [some (.int k)] (by decide +kernel) rfl (fun _ => Nat.le_of_ble_eq_true rfl) (fun _ => rfl) ?_
  refine VS.iload_n dX7_most_0 rfl ?_
  refine VS.if_ne 9 dX7_most_1 (by decide) (fun h_1 => ?_) (fun h_1 => ?_)
  · refine VS.iload_n dX7_most_9 rfl ?_
    refine VS.iconst (3) dX7_most_10 rfl ?_
    refine VS.icmp_ne 20 dX7_most_11 (by decide) (fun h_11 => ?_) (fun h_11 => ?_)
    · refine VS.bipush (50) dX7_most_20 rfl ?_
      exact VS.iret dX7_most_22 (by simp_all) (fun _ _ => rfl)
    · refine VS.sipush (200) dX7_most_14 rfl ?_
      refine VS.goto 22 dX7_most_17 (by decide) ?_
      exact VS.iret dX7_most_22 (by simp_all) (fun _ _ => rfl)
  · refine VS.bipush (20) dX7_most_4 rfl ?_
    refine VS.goto 22 dX7_most_6 (by decide) ?_
    exact VS.iret dX7_most_22 (by simp_all) (fun _ _ => rfl)
end
section
/-! static methods with loops -/
set_option maxRecDepth 100000 in
set_option maxHeartbeats 4000000 in
theorem ct_J6_bitCount_0f7a4 (l : Launch) (x : Int32) : CtN l yJ6_bitCount_0f7a4 cJ6_bitCount_0f7a4 1 (some FieldType.int) (rmD 0) [.int x] (pcI x) := by
  refine CtF.of (own := RJ6) [some (.int x)] (by decide +kernel) rfl (fun _ => Nat.le_of_ble_eq_true rfl) (fun _ => rfl) ?_
  refine VS.iload_n dJ6_bitCount_0f7a4_0 rfl ?_
  refine VS.iload_n dJ6_bitCount_0f7a4_1 rfl ?_
  refine VS.iconst (1) dJ6_bitCount_0f7a4_2 rfl ?_
  refine VS.iushr dJ6_bitCount_0f7a4_3 ?_
  refine VS.ldc_w dJ6_bitCount_0f7a4_4 kc_J6_265 ?_
  refine VS.iand dJ6_bitCount_0f7a4_7 ?_
  refine VS.isub dJ6_bitCount_0f7a4_8 ?_
  refine VS.istore_n dJ6_bitCount_0f7a4_9 (by decide) rfl ?_
  refine VS.iload_n dJ6_bitCount_0f7a4_10 rfl ?_
  refine VS.ldc_w dJ6_bitCount_0f7a4_11 kc_J6_266 ?_
  refine VS.iand dJ6_bitCount_0f7a4_14 ?_
  refine VS.iload_n dJ6_bitCount_0f7a4_15 rfl ?_
  refine VS.iconst (2) dJ6_bitCount_0f7a4_16 rfl ?_
  refine VS.iushr dJ6_bitCount_0f7a4_17 ?_
  refine VS.ldc_w dJ6_bitCount_0f7a4_18 kc_J6_266 ?_
  refine VS.iand dJ6_bitCount_0f7a4_21 ?_
  refine VS.iadd dJ6_bitCount_0f7a4_22 ?_
  refine VS.istore_n dJ6_bitCount_0f7a4_23 (by decide) rfl ?_
  refine VS.iload_n dJ6_bitCount_0f7a4_24 rfl ?_
  refine VS.iload_n dJ6_bitCount_0f7a4_25 rfl ?_
  refine VS.iconst (4) dJ6_bitCount_0f7a4_26 rfl ?_
  refine VS.iushr dJ6_bitCount_0f7a4_27 ?_
  refine VS.iadd dJ6_bitCount_0f7a4_28 ?_
  refine VS.ldc_w dJ6_bitCount_0f7a4_29 kc_J6_267 ?_
  refine VS.iand dJ6_bitCount_0f7a4_32 ?_
  refine VS.istore_n dJ6_bitCount_0f7a4_33 (by decide) rfl ?_
  refine VS.iload_n dJ6_bitCount_0f7a4_34 rfl ?_
  refine VS.iload_n dJ6_bitCount_0f7a4_35 rfl ?_
  refine VS.bipush (8) dJ6_bitCount_0f7a4_36 rfl ?_
  refine VS.iushr dJ6_bitCount_0f7a4_38 ?_
  refine VS.iadd dJ6_bitCount_0f7a4_39 ?_
  refine VS.istore_n dJ6_bitCount_0f7a4_40 (by decide) rfl ?_
  refine VS.iload_n dJ6_bitCount_0f7a4_41 rfl ?_
  refine VS.iload_n dJ6_bitCount_0f7a4_42 rfl ?_
  refine VS.bipush (16) dJ6_bitCount_0f7a4_43 rfl ?_
  refine VS.iushr dJ6_bitCount_0f7a4_45 ?_
  refine VS.iadd dJ6_bitCount_0f7a4_46 ?_
  refine VS.istore_n dJ6_bitCount_0f7a4_47 (by decide) rfl ?_
  refine VS.iload_n dJ6_bitCount_0f7a4_48 rfl ?_
  refine VS.bipush (63) dJ6_bitCount_0f7a4_49 rfl ?_
  refine VS.iand dJ6_bitCount_0f7a4_51 ?_
  exact VS.iret dJ6_bitCount_0f7a4_52 (congrArg (fun z => some (Value.int z)) (swar_pc x).symm) (fun _ _ => rfl)
set_option maxRecDepth 100000 in
set_option maxHeartbeats 4000000 in
theorem ct_X7_many (l : Launch) (x : Int32) : CtN l yX7_many cX7_many 3 (some FieldType.int) (rmD 0) [.int x] (pcI x) := by
  refine CtF.of (own := RX7) [some (.int x), none, none] (by decide +kernel) rfl (fun _ => Nat.le_of_ble_eq_true rfl) (fun _ => rfl) ?_
  refine VS.iconst (0) dX7_many_0 rfl ?_
  refine VS.istore_n dX7_many_1 (by decide) rfl ?_
  refine VS.iload_n dX7_many_2 rfl ?_
  refine VS.istore_n dX7_many_3 (by decide) rfl ?_
  refine VS.for (i0 := 0) (pcN x) (fun _ => gz) (fun k => [some (.int x), some (.int (nI k)), some (.int (clr x k))]) (Nat.zero_le _) ?_ (fun i hi ih => ?_)
  · refine VS.iload_n dX7_many_4 rfl ?_
    refine VS.if_eq 20 dX7_many_5 (by decide) (fun _ => ?_) (fun hh => absurd (clr_0 x) hh)
    refine VS.iload_n dX7_many_20 rfl ?_
    exact VS.iret dX7_many_21 (rfl) (fun _ _ => rfl)
  · refine VS.iload_n dX7_many_4 rfl ?_
    refine VS.if_eq 20 dX7_many_5 (by decide) (fun hh => absurd hh (clr_n x hi)) (fun _ => ?_)
    refine VS.iinc (nI (i + 1)) dX7_many_8 rfl (by decide) ((nI_succ i).symm) rfl ?_
    refine VS.iload_n dX7_many_11 rfl ?_
    refine VS.iload_n dX7_many_12 rfl ?_
    refine VS.iconst (1) dX7_many_13 rfl ?_
    refine VS.isub dX7_many_14 ?_
    refine VS.iand dX7_many_15 ?_
    refine VS.istore_n dX7_many_16 (by decide) rfl ?_
    refine VS.goto 4 dX7_many_17 (by decide) ?_
    exact ih
theorem nge8 {i : Nat} (h : i < 8) : ¬ (8 : Int32) ≤ nI i := nI_ge (b := 8) h (by decide)
theorem nge28 {i : Nat} (h : i < 28) : ¬ (28 : Int32) ≤ nI i := nI_ge (b := 28) h (by decide)
theorem arJ_s {p : Int32} {i : Nat} (h : ¬ nI i = p) : arJ p i ||| (1 : Int32) <<< (eI p (nI i) &&& 31) = arJ p (i + 1) := (congrArg (fun z => arJ p i ||| z) (if_neg h)).symm
theorem arJ_z {p : Int32} {i : Nat} (h : nI i = p) : arJ p i ||| 0 = arJ p (i + 1) := (congrArg (fun z => arJ p i ||| z) (if_pos h)).symm
theorem arJ_at {p : Nat} (h : p < 8) : arJ (nI p) 8 = k_at p := by
  revert p; decide +kernel
set_option maxRecDepth 100000 in
set_option maxHeartbeats 4000000 in
theorem ct_X7_around (l : Launch)  {p : Nat} (hp : p < 8) : CtN l yX7_around cX7_around 3 (some FieldType.int) (rmD 1) [.int (nI p)] (k_at p) := by
  refine CtF.of (own := RX7) [some (.int (nI p)), none, none] (by decide +kernel) rfl (fun _ => Nat.le_of_ble_eq_true rfl) (fun _ => rfl) ?_
  refine VS.iconst (0) dX7_around_0 rfl ?_
  refine VS.istore_n dX7_around_1 (by decide) rfl ?_
  refine VS.iconst (0) dX7_around_2 rfl ?_
  refine VS.istore_n dX7_around_3 (by decide) rfl ?_
  refine VS.for (i0 := 0) (8) (fun _ => gz) (fun k => [some (.int (nI p)), some (.int (arJ (nI p) k)), some (.int (nI k))]) (by decide) ?_ (fun i hi ih => ?_)
  · refine VS.iload_n dX7_around_4 rfl ?_
    refine VS.bipush (8) dX7_around_5 rfl ?_
    refine VS.icmp_ge 35 dX7_around_7 (by decide) (fun _ => ?_) (fun hh => absurd (by decide) hh)
    refine VS.iload_n dX7_around_35 rfl ?_
    exact VS.iret dX7_around_36 (by rw [arJ_at hp]) (fun _ _ => rfl)
  · refine VS.iload_n dX7_around_4 rfl ?_
    refine VS.bipush (8) dX7_around_5 rfl ?_
    refine VS.icmp_ge 35 dX7_around_7 (by decide) (fun hh => absurd hh (nge8 hi)) (fun _ => ?_)
    refine VS.iload_n dX7_around_10 rfl ?_
    refine VS.iload_n dX7_around_11 rfl ?_
    refine VS.iload_n dX7_around_12 rfl ?_
    refine VS.icmp_ne 20 dX7_around_13 (by decide) (fun h_13 => ?_) (fun h_13 => ?_)
    · refine VS.iconst (1) dX7_around_20 rfl ?_
      refine VS.iload_n dX7_around_21 rfl ?_
      refine VS.iload_n dX7_around_22 rfl ?_
      refine VS.callN (ct_X7_edge l _ _) dX7_around_23 mi_X7_edge st_X7_edge ml_X7_37 (rmOk_D (by decide) (by decide)) (Nat.le_of_ble_eq_true rfl) rfl ?_
      refine VS.ishl dX7_around_26 ?_
      refine VS.ior dX7_around_27 ?_
      refine VS.val (y := arJ (nI p) (i + 1)) (by first | exact arJ_s h_13 | exact arJ_z h_13) ?_
      refine VS.istore_n dX7_around_28 (by decide) rfl ?_
      refine VS.iinc (nI (i + 1)) dX7_around_29 rfl (by decide) ((nI_succ i).symm) rfl ?_
      refine VS.goto 4 dX7_around_32 (by decide) ?_
      exact ih
    · refine VS.iconst (0) dX7_around_16 rfl ?_
      refine VS.goto 27 dX7_around_17 (by decide) ?_
      refine VS.ior dX7_around_27 ?_
      refine VS.val (y := arJ (nI p) (i + 1)) (by first | exact arJ_s h_13 | exact arJ_z h_13) ?_
      refine VS.istore_n dX7_around_28 (by decide) rfl ?_
      refine VS.iinc (nI (i + 1)) dX7_around_29 rfl (by decide) ((nI_succ i).symm) rfl ?_
      refine VS.goto 4 dX7_around_32 (by decide) ?_
      exact ih
def thI (p : Nat) : Int32 := (153391689 <<< (nI p &&& 31)) &&& 268435455
/-- how many roads a third has -/
def thN (p : Nat) : Nat := if p = 0 then 10 else 9
theorem thJ_at {p : Nat} (h : p < 3) : thJ (nI p) (thN p) = thI p := by
  revert p; decide +kernel
theorem th_in {p : Nat} (h : p < 3) : ∀ i, i < thN p → ¬ (28 : Int32) ≤ nI p + 3 * nI i := by
  revert p; decide +kernel
theorem th_out {p : Nat} (h : p < 3) : (28 : Int32) ≤ nI p + 3 * nI (thN p) := by
  revert p; decide +kernel
theorem th_s (p : Int32) (i : Nat) : p + 3 * nI i + Int32.ofInt 3 = p + 3 * nI (i + 1) := by
  rw [nI_succ, Int32.mul_add, Int32.add_assoc]; rfl
set_option maxRecDepth 100000 in
set_option maxHeartbeats 4000000 in
theorem ct_X7_third (l : Launch)  {p : Nat} (hp : p < 3) : CtN l yX7_third cX7_third 3 (some FieldType.int) (rmD 0) [.int (nI p)] (thI p) := by
  refine CtF.of (own := RX7) [some (.int (nI p)), none, none] (by decide +kernel) rfl (fun _ => Nat.le_of_ble_eq_true rfl) (fun _ => rfl) ?_
  refine VS.iconst (0) dX7_third_0 rfl ?_
  refine VS.istore_n dX7_third_1 (by decide) rfl ?_
  refine VS.iload_n dX7_third_2 rfl ?_
  refine VS.val (y := nI p + 3 * nI 0) (by rw [nI_0, Int32.mul_zero, Int32.add_zero]) ?_
  refine VS.istore_n dX7_third_3 (by decide) rfl ?_
  refine VS.for (i0 := 0) (thN p) (fun _ => gz) (fun k => [some (.int (nI p)), some (.int (thJ (nI p) k)), some (.int (nI p + 3 * nI k))]) (Nat.zero_le _) ?_ (fun i hi ih => ?_)
  · refine VS.iload_n dX7_third_4 rfl ?_
    refine VS.bipush (28) dX7_third_5 rfl ?_
    refine VS.icmp_ge 22 dX7_third_7 (by decide) (fun _ => ?_) (fun hh => absurd (th_out hp) hh)
    refine VS.iload_n dX7_third_22 rfl ?_
    exact VS.iret dX7_third_23 (by rw [thJ_at hp]) (fun _ _ => rfl)
  · refine VS.iload_n dX7_third_4 rfl ?_
    refine VS.bipush (28) dX7_third_5 rfl ?_
    refine VS.icmp_ge 22 dX7_third_7 (by decide) (fun hh => absurd hh (th_in hp i hi)) (fun _ => ?_)
    refine VS.iload_n dX7_third_10 rfl ?_
    refine VS.iconst (1) dX7_third_11 rfl ?_
    refine VS.iload_n dX7_third_12 rfl ?_
    refine VS.ishl dX7_third_13 ?_
    refine VS.ior dX7_third_14 ?_
    refine VS.istore_n dX7_third_15 (by decide) rfl ?_
    refine VS.iinc (nI p + 3 * nI (i + 1)) dX7_third_16 rfl (by decide) (th_s _ i) rfl ?_
    refine VS.goto 4 dX7_third_19 (by decide) ?_
    exact ih
theorem atP {j : Nat} (h : j < 8) : (if 0 ≤ nI j ∧ nI j < 8 then k_at (nI j).toNatClampNeg else 0) = k_at j := by
  revert j; decide +kernel
theorem nIj {i p : Nat} (hi : i < 8) (hp : p < 8) (h : nI i = nI p) : i = p := (nI_eq (by omega) (by omega)).mp h
theorem pbJ_y {f : Int32} {p i : Nat} (h : ¬ nI i = nI p) (h2 : ¬ f &&& k_at i = 0) : pbJ f p i ||| ((1 : Int32) <<< (nI i &&& 31)) = pbJ f p (i + 1) := by
  have : i ≠ p := fun q => h (by rw [q])
  exact (if_pos ⟨this, h2⟩).symm
theorem pbJ_n1 {f : Int32} {p i : Nat} (hi : i < 8) (hp : p < 8) (h : nI i = nI p) : pbJ f p (i + 1) = pbJ f p i := if_neg (fun q => q.1 (nIj hi hp h))
theorem pbJ_n2 {f : Int32} {p i : Nat} (h : f &&& k_at i = 0) : pbJ f p (i + 1) = pbJ f p i := if_neg (fun q => q.2 h)
set_option maxRecDepth 100000 in
set_option maxHeartbeats 4000000 in
theorem ct_X1_placesBeside (l : Launch) (r : Int32) {p : Nat} (hp : p < 8) : CtN l yX1_placesBeside cX1_placesBeside 5 (some FieldType.int) (rmD 1) [.int r, .int (nI p)] (pbI r p) := by
  refine CtF.of (own := RX1) [some (.int r), some (.int (nI p)), none, none, none] (by decide +kernel) rfl (fun _ => Nat.le_of_ble_eq_true rfl) (fun _ => rfl) ?_
  refine VS.iload_n dX1_placesBeside_0 rfl ?_
  refine VS.iload_n dX1_placesBeside_1 rfl ?_
  refine VS.callN ((atP hp ▸ ct_X1_roadsAt l (nI p) : CtN l yX1_roadsAt cX1_roadsAt 1 (some FieldType.int) (rmD 0) [.int (nI p)] (k_at p))) dX1_placesBeside_2 mi_X1_roadsAt st_X1_roadsAt ml_X1_33 (rmOk_D (by decide) (by decide)) (Nat.le_of_ble_eq_true rfl) rfl ?_
  refine VS.iand dX1_placesBeside_5 ?_
  refine VS.istore_n dX1_placesBeside_6 (by decide) rfl ?_
  refine VS.iconst (0) dX1_placesBeside_7 rfl ?_
  refine VS.istore_n dX1_placesBeside_8 (by decide) rfl ?_
  refine VS.iconst (0) dX1_placesBeside_9 rfl ?_
  refine VS.istore dX1_placesBeside_10 (by decide) rfl ?_
  refine VS.for (i0 := 0) (8) (fun _ => gz) (fun k => [some (.int r), some (.int (nI p)), some (.int (r &&& k_at p)), some (.int (pbJ (r &&& k_at p) p k)), some (.int (nI k))]) (by decide) ?_ (fun i hi ih => ?_)
  · refine VS.iload dX1_placesBeside_12 rfl ?_
    refine VS.bipush (8) dX1_placesBeside_14 rfl ?_
    refine VS.icmp_ge 48 dX1_placesBeside_16 (by decide) (fun _ => ?_) (fun hh => absurd (by decide) hh)
    refine VS.iload_n dX1_placesBeside_48 rfl ?_
    exact VS.iret dX1_placesBeside_49 (rfl) (fun _ _ => rfl)
  · refine VS.iload dX1_placesBeside_12 rfl ?_
    refine VS.bipush (8) dX1_placesBeside_14 rfl ?_
    refine VS.icmp_ge 48 dX1_placesBeside_16 (by decide) (fun hh => absurd hh (nge8 hi)) (fun _ => ?_)
    refine VS.iload dX1_placesBeside_19 rfl ?_
    refine VS.iload_n dX1_placesBeside_21 rfl ?_
    refine VS.icmp_eq 42 dX1_placesBeside_22 (by decide) (fun h_22 => ?_) (fun h_22 => ?_)
    · rw [pbJ_n1 hi hp h_22] at ih
      refine VS.iinc (nI (i + 1)) dX1_placesBeside_42 rfl (by decide) ((nI_succ i).symm) rfl ?_
      refine VS.goto 12 dX1_placesBeside_45 (by decide) ?_
      exact ih
    · refine VS.iload_n dX1_placesBeside_25 rfl ?_
      refine VS.iload dX1_placesBeside_26 rfl ?_
      refine VS.callN ((atP hi ▸ ct_X1_roadsAt l (nI i) : CtN l yX1_roadsAt cX1_roadsAt 1 (some FieldType.int) (rmD 0) [.int (nI i)] (k_at i))) dX1_placesBeside_28 mi_X1_roadsAt st_X1_roadsAt ml_X1_33 (rmOk_D (by decide) (by decide)) (Nat.le_of_ble_eq_true rfl) rfl ?_
      refine VS.iand dX1_placesBeside_31 ?_
      refine VS.if_eq 42 dX1_placesBeside_32 (by decide) (fun h_32 => ?_) (fun h_32 => ?_)
      · rw [pbJ_n2 h_32] at ih
        refine VS.iinc (nI (i + 1)) dX1_placesBeside_42 rfl (by decide) ((nI_succ i).symm) rfl ?_
        refine VS.goto 12 dX1_placesBeside_45 (by decide) ?_
        exact ih
      · refine VS.iload_n dX1_placesBeside_35 rfl ?_
        refine VS.iconst (1) dX1_placesBeside_36 rfl ?_
        refine VS.iload dX1_placesBeside_37 rfl ?_
        refine VS.ishl dX1_placesBeside_39 ?_
        refine VS.ior dX1_placesBeside_40 ?_
        refine VS.val (y := pbJ (r &&& k_at p) p (i + 1)) (pbJ_y h_22 h_32) ?_
        refine VS.istore_n dX1_placesBeside_41 (by decide) rfl ?_
        refine VS.iinc (nI (i + 1)) dX1_placesBeside_42 rfl (by decide) ((nI_succ i).symm) rfl ?_
        refine VS.goto 12 dX1_placesBeside_45 (by decide) ?_
        exact ih
set_option maxRecDepth 100000 in
set_option maxHeartbeats 4000000 in
theorem ct_X1_besideAny (l : Launch) (r : Int32) (m : Int32) : CtN l yX1_besideAny cX1_besideAny 4 (some FieldType.int) (rmD 2) [.int r, .int m] (nbI r m) := by
  refine CtF.of (own := RX1) [some (.int r), some (.int m), none, none] (by decide +kernel) rfl (fun _ => Nat.le_of_ble_eq_true rfl) (fun _ => rfl) ?_
  refine VS.iconst (0) dX1_besideAny_0 rfl ?_
  refine VS.istore_n dX1_besideAny_1 (by decide) rfl ?_
  refine VS.iconst (0) dX1_besideAny_2 rfl ?_
  refine VS.istore_n dX1_besideAny_3 (by decide) rfl ?_
  refine VS.for (i0 := 0) (8) (fun _ => gz) (fun k => [some (.int r), some (.int m), some (.int (nbJ r m k)), some (.int (nI k))]) (by decide) ?_ (fun i hi ih => ?_)
  · refine VS.iload_n dX1_besideAny_4 rfl ?_
    refine VS.bipush (8) dX1_besideAny_5 rfl ?_
    refine VS.icmp_ge 32 dX1_besideAny_7 (by decide) (fun _ => ?_) (fun hh => absurd (by decide) hh)
    refine VS.iload_n dX1_besideAny_32 rfl ?_
    exact VS.iret dX1_besideAny_33 (rfl) (fun _ _ => rfl)
  · refine VS.iload_n dX1_besideAny_4 rfl ?_
    refine VS.bipush (8) dX1_besideAny_5 rfl ?_
    refine VS.icmp_ge 32 dX1_besideAny_7 (by decide) (fun hh => absurd hh (nge8 hi)) (fun _ => ?_)
    refine VS.iload_n dX1_besideAny_10 rfl ?_
    refine VS.iload_n dX1_besideAny_11 rfl ?_
    refine VS.ishr dX1_besideAny_12 ?_
    refine VS.iconst (1) dX1_besideAny_13 rfl ?_
    refine VS.iand dX1_besideAny_14 ?_
    refine VS.if_eq 26 dX1_besideAny_15 (by decide) (fun h_15 => ?_) (fun h_15 => ?_)
    · rw [show nbJ r m (i + 1) = nbJ r m i from if_pos h_15] at ih
      refine VS.iinc (nI (i + 1)) dX1_besideAny_26 rfl (by decide) ((nI_succ i).symm) rfl ?_
      refine VS.goto 4 dX1_besideAny_29 (by decide) ?_
      exact ih
    · refine VS.iload_n dX1_besideAny_18 rfl ?_
      refine VS.iload_n dX1_besideAny_19 rfl ?_
      refine VS.iload_n dX1_besideAny_20 rfl ?_
      refine VS.callN (ct_X1_placesBeside l _ hi) dX1_besideAny_21 mi_X1_placesBeside st_X1_placesBeside ml_X1_40 (rmOk_D (by decide) (by decide)) (Nat.le_of_ble_eq_true rfl) rfl ?_
      refine VS.ior dX1_besideAny_24 ?_
      refine VS.val (y := nbJ r m (i + 1)) (if_neg h_15).symm ?_
      refine VS.istore_n dX1_besideAny_25 (by decide) rfl ?_
      refine VS.iinc (nI (i + 1)) dX1_besideAny_26 rfl (by decide) ((nI_succ i).symm) rfl ?_
      refine VS.goto 4 dX1_besideAny_29 (by decide) ?_
      exact ih
theorem dd_x {r t re : Int32} {n s : Nat} {ed : Int32} (h : ed = 0) : dd r t n s re ed = 99 := by
  cases n with
  | zero => rfl
  | succ n => exact if_pos h
theorem dd_f {r t re : Int32} {n s : Nat} {ed : Int32} (hn : 0 < n) (h : ¬ ed = 0) (h2 : ¬ (ed >>> (t &&& 31)) &&& 1 = 0) : dd r t n s re ed = nI s := by
  cases n with
  | zero => exact absurd hn (Nat.lt_irrefl 0)
  | succ n => exact (if_neg h).trans (if_neg h2)
theorem dd_s {r t f : Int32} {i : Nat} (hi : i < 8) (h : ¬ (bfs r f i).2 = 0) (h2 : ((bfs r f i).2 >>> (t &&& 31)) &&& 1 = 0) : dd r t (8 - i) i (bfs r f i).1 (bfs r f i).2 = dd r t (8 - (i + 1)) (i + 1) (bfs r f (i + 1)).1 (bfs r f (i + 1)).2 := by
  rw [show 8 - i = (8 - (i + 1)) + 1 by omega]
  exact (if_neg h).trans (if_pos h2)
set_option maxRecDepth 100000 in
set_option maxHeartbeats 4000000 in
theorem ct_X1_distance (l : Launch) (r : Int32) (f : Int32) (t : Int32) : CtN l yX1_distance cX1_distance 6 (some FieldType.int) (rmD 3) [.int r, .int f, .int t] (distI r f t) := by
  refine CtF.of (own := RX1) [some (.int r), some (.int f), some (.int t), none, none, none] (by decide +kernel) rfl (fun _ => Nat.le_of_ble_eq_true rfl) (fun _ => rfl) ?_
  refine VS.iconst (1) dX1_distance_0 rfl ?_
  refine VS.iload_n dX1_distance_1 rfl ?_
  refine VS.ishl dX1_distance_2 ?_
  refine VS.istore_n dX1_distance_3 (by decide) rfl ?_
  refine VS.iload_n dX1_distance_4 rfl ?_
  refine VS.istore dX1_distance_5 (by decide) rfl ?_
  refine VS.iconst (0) dX1_distance_7 rfl ?_
  refine VS.istore dX1_distance_8 (by decide) rfl ?_
  refine VS.forH (fun k => distI r f t = dd r t (8 - k) k (bfs r f k).1 (bfs r f k).2) (i0 := 0) (8) (fun _ => gz) (fun k => [some (.int r), some (.int f), some (.int t), some (.int (bfs r f k).1), some (.int (bfs r f k).2), some (.int (nI k))]) (by decide) rfl (fun hy => ?_) (fun i hi hy ih => ?_)
  · refine VS.iload dX1_distance_10 rfl ?_
    refine VS.bipush (8) dX1_distance_12 rfl ?_
    refine VS.icmp_ge 57 dX1_distance_14 (by decide) (fun _ => ?_) (fun hh => absurd (by decide) hh)
    refine VS.bipush (99) dX1_distance_57 rfl ?_
    exact VS.iret dX1_distance_59 (by rw [hy]; rfl) (fun _ _ => rfl)
  · refine VS.iload dX1_distance_10 rfl ?_
    refine VS.bipush (8) dX1_distance_12 rfl ?_
    refine VS.icmp_ge 57 dX1_distance_14 (by decide) (fun hh => absurd hh (nge8 hi)) (fun _ => ?_)
    refine VS.iload dX1_distance_17 rfl ?_
    refine VS.if_eq 57 dX1_distance_19 (by decide) (fun h_19 => ?_) (fun h_19 => ?_)
    · refine VS.bipush (99) dX1_distance_57 rfl ?_
      exact VS.iret dX1_distance_59 (by rw [hy]; exact congrArg (fun z => some (Value.int z)) (dd_x h_19)) (fun _ _ => rfl)
    · refine VS.iload dX1_distance_22 rfl ?_
      refine VS.iload_n dX1_distance_24 rfl ?_
      refine VS.ishr dX1_distance_25 ?_
      refine VS.iconst (1) dX1_distance_26 rfl ?_
      refine VS.iand dX1_distance_27 ?_
      refine VS.if_eq 34 dX1_distance_28 (by decide) (fun h_28 => ?_) (fun h_28 => ?_)
      · refine VS.iload_n dX1_distance_34 rfl ?_
        refine VS.iload dX1_distance_35 rfl ?_
        refine VS.callN (ct_X1_besideAny l _ _) dX1_distance_37 mi_X1_besideAny st_X1_besideAny ml_X1_37 (rmOk_D (by decide) (by decide)) (Nat.le_of_ble_eq_true rfl) rfl ?_
        refine VS.iload_n dX1_distance_40 rfl ?_
        refine VS.iconst (-1) dX1_distance_41 rfl ?_
        refine VS.ixor dX1_distance_42 ?_
        refine VS.iand dX1_distance_43 ?_
        refine VS.istore dX1_distance_44 (by decide) rfl ?_
        refine VS.iload_n dX1_distance_46 rfl ?_
        refine VS.iload dX1_distance_47 rfl ?_
        refine VS.ior dX1_distance_49 ?_
        refine VS.istore_n dX1_distance_50 (by decide) rfl ?_
        refine VS.iinc (nI (i + 1)) dX1_distance_51 rfl (by decide) ((nI_succ i).symm) rfl ?_
        refine VS.goto 10 dX1_distance_54 (by decide) ?_
        exact ih (hy.trans (dd_s hi h_19 h_28))
      · refine VS.iload dX1_distance_31 rfl ?_
        exact VS.iret dX1_distance_33 (by rw [hy]; exact congrArg (fun z => some (Value.int z)) (dd_f (by omega) h_19 h_28)) (fun _ _ => rfl)
theorem folJ_y {r k : Int32} {j : Nat} (h : pcI (k_at j &&& r &&& k) = pcI (k_at j &&& r)) : folJ r k j = k_at j &&& (k ^^^ -1) := if_pos (Or.inl h)
theorem folJ_z {r k : Int32} {j : Nat} (h : pcI (k_at j &&& r &&& k) + pcI (k_at j &&& (k ^^^ -1)) = pcI (k_at j &&& r)) : folJ r k j = k_at j &&& (k ^^^ -1) := if_pos (Or.inr h)
theorem folJ_n {r k : Int32} {j : Nat} (h : ¬ pcI (k_at j &&& r &&& k) = pcI (k_at j &&& r)) (h2 : ¬ pcI (k_at j &&& r &&& k) + pcI (k_at j &&& (k ^^^ -1)) = pcI (k_at j &&& r)) : folJ r k j = 0 := if_neg (fun q => q.elim h h2)
set_option maxRecDepth 100000 in
set_option maxHeartbeats 4000000 in
theorem ct_X1_followingAt (l : Launch) (r : Int32) (k : Int32) {p : Nat} (hp : p < 8) : CtN l yX1_followingAt cX1_followingAt 7 (some FieldType.int) (rmD 1) [.int r, .int k, .int (nI p)] (folJ r k p) := by
  refine CtF.of (own := RX1) [some (.int r), some (.int k), some (.int (nI p)), none, none, none, none] (by decide +kernel) rfl (fun _ => Nat.le_of_ble_eq_true rfl) (fun _ => rfl) ?_
  refine VS.iload_n dX1_followingAt_0 rfl ?_
  refine VS.callN ((atP hp ▸ ct_X1_roadsAt l (nI p) : CtN l yX1_roadsAt cX1_roadsAt 1 (some FieldType.int) (rmD 0) [.int (nI p)] (k_at p))) dX1_followingAt_1 mi_X1_roadsAt st_X1_roadsAt ml_X1_33 (rmOk_D (by decide) (by decide)) (Nat.le_of_ble_eq_true rfl) rfl ?_
  refine VS.istore_n dX1_followingAt_4 (by decide) rfl ?_
  refine VS.iload_n dX1_followingAt_5 rfl ?_
  refine VS.iload_n dX1_followingAt_6 rfl ?_
  refine VS.iconst (-1) dX1_followingAt_7 rfl ?_
  refine VS.ixor dX1_followingAt_8 ?_
  refine VS.iand dX1_followingAt_9 ?_
  refine VS.istore dX1_followingAt_10 (by decide) rfl ?_
  refine VS.iload_n dX1_followingAt_12 rfl ?_
  refine VS.iload_n dX1_followingAt_13 rfl ?_
  refine VS.iand dX1_followingAt_14 ?_
  refine VS.callN (ct_J6_bitCount_0f7a4 l _) dX1_followingAt_15 mi_J6_bitCount_0f7a4 st_J6_bitCount_0f7a4 ml_X1_47 (rmOk_D (by decide) (by decide)) (Nat.le_of_ble_eq_true rfl) rfl ?_
  refine VS.istore dX1_followingAt_18 (by decide) rfl ?_
  refine VS.iload_n dX1_followingAt_20 rfl ?_
  refine VS.iload_n dX1_followingAt_21 rfl ?_
  refine VS.iand dX1_followingAt_22 ?_
  refine VS.iload_n dX1_followingAt_23 rfl ?_
  refine VS.iand dX1_followingAt_24 ?_
  refine VS.callN (ct_J6_bitCount_0f7a4 l _) dX1_followingAt_25 mi_J6_bitCount_0f7a4 st_J6_bitCount_0f7a4 ml_X1_47 (rmOk_D (by decide) (by decide)) (Nat.le_of_ble_eq_true rfl) rfl ?_
  refine VS.istore dX1_followingAt_28 (by decide) rfl ?_
  refine VS.iload dX1_followingAt_30 rfl ?_
  refine VS.iload dX1_followingAt_32 rfl ?_
  refine VS.icmp_eq 50 dX1_followingAt_34 (by decide) (fun h_34 => ?_) (fun h_34 => ?_)
  · refine VS.iload dX1_followingAt_50 rfl ?_
    refine VS.goto 56 dX1_followingAt_52 (by decide) ?_
    exact VS.iret dX1_followingAt_56 (by first | rw [folJ_y h_34] | rw [folJ_z h_47] | rw [folJ_n h_34 h_47]) (fun _ _ => rfl)
  · refine VS.iload dX1_followingAt_37 rfl ?_
    refine VS.iload dX1_followingAt_39 rfl ?_
    refine VS.callN (ct_J6_bitCount_0f7a4 l _) dX1_followingAt_41 mi_J6_bitCount_0f7a4 st_J6_bitCount_0f7a4 ml_X1_47 (rmOk_D (by decide) (by decide)) (Nat.le_of_ble_eq_true rfl) rfl ?_
    refine VS.iadd dX1_followingAt_44 ?_
    refine VS.iload dX1_followingAt_45 rfl ?_
    refine VS.icmp_ne 55 dX1_followingAt_47 (by decide) (fun h_47 => ?_) (fun h_47 => ?_)
    · refine VS.iconst (0) dX1_followingAt_55 rfl ?_
      exact VS.iret dX1_followingAt_56 (by first | rw [folJ_y h_34] | rw [folJ_z h_47] | rw [folJ_n h_34 h_47]) (fun _ _ => rfl)
    · refine VS.iload dX1_followingAt_50 rfl ?_
      refine VS.goto 56 dX1_followingAt_52 (by decide) ?_
      exact VS.iret dX1_followingAt_56 (by first | rw [folJ_y h_34] | rw [folJ_z h_47] | rw [folJ_n h_34 h_47]) (fun _ _ => rfl)
set_option maxRecDepth 100000 in
set_option maxHeartbeats 4000000 in
theorem ct_X1_withWhatFollows (l : Launch) (r : Int32) (k : Int32) : CtN l yX1_withWhatFollows cX1_withWhatFollows 6 (some FieldType.int) (rmD 2) [.int r, .int k] (KK r k) := by
  refine CtF.of (own := RX1) [some (.int r), some (.int k), none, none, none, none] (by decide +kernel) rfl (fun _ => Nat.le_of_ble_eq_true rfl) (fun _ => rfl) ?_
  refine VS.iload_n dX1_withWhatFollows_0 rfl ?_
  refine VS.istore_n dX1_withWhatFollows_1 (by decide) rfl ?_
  refine VS.iconst (0) dX1_withWhatFollows_2 rfl ?_
  refine VS.istore_n dX1_withWhatFollows_3 (by decide) rfl ?_
  refine VS.for (i0 := 0) (28) (fun _ => gz) (fun i => [some (.int r), some (.int k), some (.int (itN (swp r) k i)), some (.int (nI i)), none, none]) (by decide) ?_ (fun i hi ih => ?_)
  · refine VS.iload_n dX1_withWhatFollows_4 rfl ?_
    refine VS.bipush (28) dX1_withWhatFollows_5 rfl ?_
    refine VS.icmp_ge 54 dX1_withWhatFollows_7 (by decide) (fun _ => ?_) (fun hh => absurd (by decide) hh)
    refine VS.iload_n dX1_withWhatFollows_54 rfl ?_
    exact VS.iret dX1_withWhatFollows_55 (rfl) (fun _ _ => rfl)
  · refine VS.iload_n dX1_withWhatFollows_4 rfl ?_
    refine VS.bipush (28) dX1_withWhatFollows_5 rfl ?_
    refine VS.icmp_ge 54 dX1_withWhatFollows_7 (by decide) (fun hh => absurd hh (nge28 hi)) (fun _ => ?_)
    refine VS.iload_n dX1_withWhatFollows_10 rfl ?_
    refine VS.istore dX1_withWhatFollows_11 (by decide) rfl ?_
    refine VS.iconst (0) dX1_withWhatFollows_13 rfl ?_
    refine VS.istore dX1_withWhatFollows_14 (by decide) rfl ?_
    refine VS.for (i0 := 0) (8) (fun _ => gz) (fun j => [some (.int r), some (.int k), some (.int (swJ r (itN (swp r) k i) j)), some (.int (nI i)), some (.int (itN (swp r) k i)), some (.int (nI j))]) (by decide) ?_ (fun j hj jh => ?_)
    · refine VS.iload dX1_withWhatFollows_16 rfl ?_
      refine VS.bipush (8) dX1_withWhatFollows_18 rfl ?_
      refine VS.icmp_ge 39 dX1_withWhatFollows_20 (by decide) (fun _ => ?_) (fun hh => absurd (by decide) hh)
      refine VS.iload_n dX1_withWhatFollows_39 rfl ?_
      refine VS.iload dX1_withWhatFollows_40 rfl ?_
      refine VS.icmp_ne 48 dX1_withWhatFollows_42 (by decide) (fun h_42 => ?_) (fun h_42 => ?_)
      · refine VS.iinc (nI (i + 1)) dX1_withWhatFollows_48 rfl (by decide) ((nI_succ i).symm) rfl ?_
        refine VS.goto 4 dX1_withWhatFollows_51 (by decide) ?_
        exact VS.forget 4 (VS.forget 5 ih)
      · refine VS.goto 54 dX1_withWhatFollows_45 (by decide) ?_
        refine VS.iload_n dX1_withWhatFollows_54 rfl ?_
        exact VS.iret dX1_withWhatFollows_55 (congrArg (fun z => some (Value.int z)) ((itN_stop (f := swp r) (x := k) (i := i) (n := 28) h_42 (by omega)).trans h_42.symm)) (fun _ _ => rfl)
    · refine VS.iload dX1_withWhatFollows_16 rfl ?_
      refine VS.bipush (8) dX1_withWhatFollows_18 rfl ?_
      refine VS.icmp_ge 39 dX1_withWhatFollows_20 (by decide) (fun hh => absurd hh (nge8 hj)) (fun _ => ?_)
      refine VS.iload_n dX1_withWhatFollows_23 rfl ?_
      refine VS.iload_n dX1_withWhatFollows_24 rfl ?_
      refine VS.iload_n dX1_withWhatFollows_25 rfl ?_
      refine VS.iload dX1_withWhatFollows_26 rfl ?_
      refine VS.callN (ct_X1_followingAt l _ _ hj) dX1_withWhatFollows_28 mi_X1_followingAt st_X1_followingAt ml_X1_43 (rmOk_D (by decide) (by decide)) (Nat.le_of_ble_eq_true rfl) rfl ?_
      refine VS.ior dX1_withWhatFollows_31 ?_
      refine VS.istore_n dX1_withWhatFollows_32 (by decide) rfl ?_
      refine VS.iinc (nI (j + 1)) dX1_withWhatFollows_33 rfl (by decide) ((nI_succ j).symm) rfl ?_
      refine VS.goto 16 dX1_withWhatFollows_36 (by decide) ?_
      exact jh
set_option maxRecDepth 100000 in
set_option maxHeartbeats 4000000 in
theorem ct_X2_codeIn (l : Launch) (c : Int64) (j : Int32) : CtN l yX2_codeIn cX2_codeIn 3 (some FieldType.int) (rmD 0) [.long c, .int j] (cdL c j) := by
  refine CtF.of (own := RX2) [some (.long c), none, some (.int j)] (by decide +kernel) rfl (fun _ => Nat.le_of_ble_eq_true rfl) (fun _ => rfl) ?_
  refine VS.lload_n dX2_codeIn_0 rfl ?_
  refine VS.bipush (8) dX2_codeIn_1 rfl ?_
  refine VS.iload_n dX2_codeIn_3 rfl ?_
  refine VS.imul dX2_codeIn_4 ?_
  refine VS.lushr dX2_codeIn_5 ?_
  refine VS.l2i dX2_codeIn_6 ?_
  refine VS.sipush (255) dX2_codeIn_7 rfl ?_
  refine VS.iand dX2_codeIn_10 ?_
  exact VS.iret dX2_codeIn_11 (rfl) (fun _ _ => rfl)
end
section
/-! the reference: what its methods do to its row of numbers -/
def rem3 (x : Int32) : Int32 := x - x / 3 * 3
def rEnds (s : Nat → Int32) : Nat → Int32 := upd (upd s 7 (s 7 + 1)) 6 (if s 7 + 1 = 150 then 2 else s 6)
def rGets (s : Nat → Int32) (p : Nat) (c : Int32) : Nat → Int32 := upd s (8 + p) (if 9999 < s (8 + p) + c then 9999 else s (8 + p) + c)
def rPaid (s : Nat → Int32) (f : Nat) (c : Int32) : Int32 := if s (8 + f) < c then s (8 + f) else c
def rPays (s : Nat → Int32) (f t : Nat) (c : Int32) : Nat → Int32 := rGets (upd s (8 + f) (s (8 + f) - rPaid s f c)) t (rPaid s f c)
def rClaims (s : Nat → Int32) (p : Nat) : Int32 := pcI (s (11 + p) ||| s (14 + p))
def rBarRoad (s : Nat → Int32) (a b : Int32) : Int32 := if wrE a b = 0 then (if 0 < s 6 then -5 else 0) else wrE a b
def rBarTreasure (s : Nat → Int32) (a : Int32) : Int32 := if 0 ≤ a ∧ a < 8 then (if 0 < s 6 then -5 else 0) else -1
def rBarClaim (s : Nat → Int32) (a b is : Int32) : Int32 := if wrE a b = 0 then (if 0 ≤ is ∧ is ≤ 1 then (if s 6 = 1 then 0 else -5) else -2) else wrE a b
def rLays (s : Nat → Int32) (a b : Int32) : Nat → Int32 := upd s 0 (s 0 ^^^ bitE a b)
def rSays1 (s : Nat → Int32) (p : Nat) (b is : Int32) : Nat → Int32 := upd s (11 + p) (if is = 1 then s (11 + p) ||| b else s (11 + p) &&& (b ^^^ -1))
def rSays2 (s : Nat → Int32) (p : Nat) (b is : Int32) : Nat → Int32 := upd s (14 + p) (if is = 0 then s (14 + p) ||| b else s (14 + p) &&& (b ^^^ -1))
def rSays (s : Nat → Int32) (p : Nat) (b is : Int32) : Nat → Int32 := rEnds (rSays2 (rSays1 s p b is) p b is)
theorem ix_add {c p : Nat} : nI c + nI p = nI (c + p) := nI_add c p
theorem irem3 : ¬ (3 : Int32) = 0 := by decide

set_option maxRecDepth 100000 in
set_option maxHeartbeats 4000000 in
theorem ct_X7_hasBegun (l : Launch) (M : SS)  : CtS l yX7_hasBegun cX7_hasBegun 1 (some FieldType.boolean) (rmD 0) [.ref 0] 7 shM M (some (.int (if 0 < M 1 6 then 1 else 0))) (M) := by
  refine CtF.of (own := RX7) [some (.ref 0)] (by decide +kernel) rfl (fun _ => Nat.le_of_ble_eq_true rfl) (fun _ => rfl) ?_
  refine VS.aload_n dX7_hasBegun_0 rfl ?_
  refine VS.sgetR 6 dX7_hasBegun_1 uw_X7 rfl (by decide) 0 rfl rfl (by decide) fl_X7_7 rfl ?_
  refine VS.bipush (6) dX7_hasBegun_4 rfl ?_
  refine VS.siald (6) dX7_hasBegun_6 (by decide) rfl (rfl) (by decide) (by decide) ?_
  refine VS.if_le 14 dX7_hasBegun_7 (by decide) (fun h_7 => ?_) (fun h_7 => ?_)
  · refine VS.iconst (0) dX7_hasBegun_14 rfl ?_
    exact VS.zret dX7_hasBegun_15 (by first | rfl | exact nb_ite) (by first | (rw [if_pos (by simp only [Int32.lt_iff_toInt_lt, Int32.le_iff_toInt_le, ti_0, ti_1, ti_2, ti_3, ti_4, ti_5, ti_6, ti_7, ti_8, ti_9, ti_10, ti_14, ti_15, ti_16, ti_20, ti_28, ti_33, ti_40, ti_50, ti_80, ti_97, ti_99, ti_100, ti_104, ti_126, ti_150, ti_182, ti_200, ti_255, ti_364, ti_1092, ti_9999, tim_1, tim_2, tim_3, tim_4, tim_5, tim_6] at *; omega)]) | (rw [if_neg (by simp only [Int32.lt_iff_toInt_lt, Int32.le_iff_toInt_le, ti_0, ti_1, ti_2, ti_3, ti_4, ti_5, ti_6, ti_7, ti_8, ti_9, ti_10, ti_14, ti_15, ti_16, ti_20, ti_28, ti_33, ti_40, ti_50, ti_80, ti_97, ti_99, ti_100, ti_104, ti_126, ti_150, ti_182, ti_200, ti_255, ti_364, ti_1092, ti_9999, tim_1, tim_2, tim_3, tim_4, tim_5, tim_6] at *; omega)])) (fun _ _ => rfl)
  · refine VS.iconst (1) dX7_hasBegun_10 rfl ?_
    refine VS.goto 15 dX7_hasBegun_11 (by decide) ?_
    exact VS.zret dX7_hasBegun_15 (by first | rfl | exact nb_ite) (by first | (rw [if_pos (by simp only [Int32.lt_iff_toInt_lt, Int32.le_iff_toInt_le, ti_0, ti_1, ti_2, ti_3, ti_4, ti_5, ti_6, ti_7, ti_8, ti_9, ti_10, ti_14, ti_15, ti_16, ti_20, ti_28, ti_33, ti_40, ti_50, ti_80, ti_97, ti_99, ti_100, ti_104, ti_126, ti_150, ti_182, ti_200, ti_255, ti_364, ti_1092, ti_9999, tim_1, tim_2, tim_3, tim_4, tim_5, tim_6] at *; omega)]) | (rw [if_neg (by simp only [Int32.lt_iff_toInt_lt, Int32.le_iff_toInt_le, ti_0, ti_1, ti_2, ti_3, ti_4, ti_5, ti_6, ti_7, ti_8, ti_9, ti_10, ti_14, ti_15, ti_16, ti_20, ti_28, ti_33, ti_40, ti_50, ti_80, ti_97, ti_99, ti_100, ti_104, ti_126, ti_150, ti_182, ti_200, ti_255, ti_364, ti_1092, ti_9999, tim_1, tim_2, tim_3, tim_4, tim_5, tim_6] at *; omega)])) (fun _ _ => rfl)
set_option maxRecDepth 100000 in
set_option maxHeartbeats 4000000 in
theorem ct_X7_goes (l : Launch) (M : SS)  : CtS l yX7_goes cX7_goes 1 (some FieldType.boolean) (rmD 0) [.ref 0] 7 shM M (some (.int (if M 1 6 = 1 then 1 else 0))) (M) := by
  refine CtF.of (own := RX7) [some (.ref 0)] (by decide +kernel) rfl (fun _ => Nat.le_of_ble_eq_true rfl) (fun _ => rfl) ?_
  refine VS.aload_n dX7_goes_0 rfl ?_
  refine VS.sgetR 6 dX7_goes_1 uw_X7 rfl (by decide) 0 rfl rfl (by decide) fl_X7_7 rfl ?_
  refine VS.bipush (6) dX7_goes_4 rfl ?_
  refine VS.siald (6) dX7_goes_6 (by decide) rfl (rfl) (by decide) (by decide) ?_
  refine VS.iconst (1) dX7_goes_7 rfl ?_
  refine VS.icmp_ne 15 dX7_goes_8 (by decide) (fun h_8 => ?_) (fun h_8 => ?_)
  · refine VS.iconst (0) dX7_goes_15 rfl ?_
    exact VS.zret dX7_goes_16 (by first | rfl | exact nb_ite) (by simp_all) (fun _ _ => rfl)
  · refine VS.iconst (1) dX7_goes_11 rfl ?_
    refine VS.goto 16 dX7_goes_12 (by decide) ?_
    exact VS.zret dX7_goes_16 (by first | rfl | exact nb_ite) (by simp_all) (fun _ _ => rfl)
set_option maxRecDepth 100000 in
set_option maxHeartbeats 4000000 in
theorem ct_X7_turn (l : Launch) (M : SS)  : CtS l yX7_turn cX7_turn 1 (some FieldType.int) (rmD 0) [.ref 0] 7 shM M (some (.int (rem3 (M 1 7)))) (M) := by
  refine CtF.of (own := RX7) [some (.ref 0)] (by decide +kernel) rfl (fun _ => Nat.le_of_ble_eq_true rfl) (fun _ => rfl) ?_
  refine VS.aload_n dX7_turn_0 rfl ?_
  refine VS.sgetR 6 dX7_turn_1 uw_X7 rfl (by decide) 0 rfl rfl (by decide) fl_X7_7 rfl ?_
  refine VS.bipush (7) dX7_turn_4 rfl ?_
  refine VS.siald (7) dX7_turn_6 (by decide) rfl (rfl) (by decide) (by decide) ?_
  refine VS.iconst (3) dX7_turn_7 rfl ?_
  refine VS.irem dX7_turn_8 (by decide) ?_
  exact VS.iret dX7_turn_9 (rfl) (fun _ _ => rfl)
set_option maxRecDepth 100000 in
set_option maxHeartbeats 4000000 in
theorem ct_X7_ends (l : Launch) (M : SS)  : CtS l yX7_ends cX7_ends 1 none (rmD 0) [.ref 0] 7 shM M (none) (upC M 1 (rEnds (M 1))) := by
  refine CtF.of (own := RX7) [some (.ref 0)] (by decide +kernel) rfl (fun _ => Nat.le_of_ble_eq_true rfl) (fun _ => rfl) ?_
  refine VS.aload_n dX7_ends_0 rfl ?_
  refine VS.sgetR 6 dX7_ends_1 uw_X7 rfl (by decide) 0 rfl rfl (by decide) fl_X7_7 rfl ?_
  refine VS.bipush (7) dX7_ends_4 rfl ?_
  refine VS.dup2 dX7_ends_6 rfl rfl ?_
  refine VS.siald (7) dX7_ends_7 (by decide) rfl (rfl) (by decide) (by decide) ?_
  refine VS.iconst (1) dX7_ends_8 rfl ?_
  refine VS.iadd dX7_ends_9 ?_
  refine VS.siast (7) dX7_ends_10 (by decide) rfl (rfl) (by decide) (by decide) ?_
  refine VS.aload_n dX7_ends_11 rfl ?_
  refine VS.sgetR 6 dX7_ends_12 uw_X7 rfl (by decide) 0 rfl rfl (by decide) fl_X7_7 rfl ?_
  refine VS.bipush (6) dX7_ends_15 rfl ?_
  refine VS.aload_n dX7_ends_17 rfl ?_
  refine VS.sgetR 6 dX7_ends_18 uw_X7 rfl (by decide) 0 rfl rfl (by decide) fl_X7_7 rfl ?_
  refine VS.bipush (7) dX7_ends_21 rfl ?_
  refine VS.siald (7) dX7_ends_23 (by decide) rfl (rfl) (by decide) (by decide) ?_
  refine VS.sipush (150) dX7_ends_24 rfl ?_
  refine VS.icmp_ne 34 dX7_ends_27 (by decide) (fun h_27 => ?_) (fun h_27 => ?_)
  · refine VS.aload_n dX7_ends_34 rfl ?_
    refine VS.sgetR 6 dX7_ends_35 uw_X7 rfl (by decide) 0 rfl rfl (by decide) fl_X7_7 rfl ?_
    refine VS.bipush (6) dX7_ends_38 rfl ?_
    refine VS.siald (6) dX7_ends_40 (by decide) rfl (rfl) (by decide) (by decide) ?_
    refine VS.siast (6) dX7_ends_41 (by decide) rfl (rfl) (by decide) (by decide) ?_
    exact VS.vret dX7_ends_42 rfl (fun k _ => congrArg (fun S => shW shM S k) (by simp only [up2, upC_upC, upC_at, upd_at, rEnds]; simp only [upC_at, upd_at] at h_27; first | rw [if_pos h_27] | rw [if_neg h_27]; simp [upd]))
  · refine VS.iconst (2) dX7_ends_30 rfl ?_
    refine VS.goto 41 dX7_ends_31 (by decide) ?_
    refine VS.siast (6) dX7_ends_41 (by decide) rfl (rfl) (by decide) (by decide) ?_
    exact VS.vret dX7_ends_42 rfl (fun k _ => congrArg (fun S => shW shM S k) (by simp only [up2, upC_upC, upC_at, upd_at, rEnds]; simp only [upC_at, upd_at] at h_27; first | rw [if_pos h_27] | rw [if_neg h_27]; simp [upd]))
set_option maxRecDepth 100000 in
set_option maxHeartbeats 4000000 in
theorem ct_X7_claims (l : Launch) (M : SS)  {p : Nat} (hp : p < 3) : CtS l yX7_claims cX7_claims 2 (some FieldType.int) (rmD 1) [.ref 0, .int (nI p)] 7 shM M (some (.int (rClaims (M 1) p))) (M) := by
  refine CtF.of (own := RX7) [some (.ref 0), some (.int (nI p))] (by decide +kernel) rfl (fun _ => Nat.le_of_ble_eq_true rfl) (fun _ => rfl) ?_
  refine VS.aload_n dX7_claims_0 rfl ?_
  refine VS.sgetR 6 dX7_claims_1 uw_X7 rfl (by decide) 0 rfl rfl (by decide) fl_X7_7 rfl ?_
  refine VS.bipush (11) dX7_claims_4 rfl ?_
  refine VS.iload_n dX7_claims_6 rfl ?_
  refine VS.iadd dX7_claims_7 ?_
  refine VS.siald (11 + p) dX7_claims_8 (by decide) rfl (ix_add) (by omega) (by decide) ?_
  refine VS.aload_n dX7_claims_9 rfl ?_
  refine VS.sgetR 6 dX7_claims_10 uw_X7 rfl (by decide) 0 rfl rfl (by decide) fl_X7_7 rfl ?_
  refine VS.bipush (14) dX7_claims_13 rfl ?_
  refine VS.iload_n dX7_claims_15 rfl ?_
  refine VS.iadd dX7_claims_16 ?_
  refine VS.siald (14 + p) dX7_claims_17 (by decide) rfl (ix_add) (by omega) (by decide) ?_
  refine VS.ior dX7_claims_18 ?_
  refine VS.callN (ct_X7_many l _) dX7_claims_19 mi_X7_many st_X7_many ml_X7_55 (rmOk_D (by decide) (by decide)) (Nat.le_of_ble_eq_true rfl) rfl ?_
  exact VS.iret dX7_claims_22 (rfl) (fun _ _ => rfl)
set_option maxRecDepth 100000 in
set_option maxHeartbeats 4000000 in
theorem ct_X7_gets (l : Launch) (M : SS) (c : Int32) {p : Nat} (hp : p < 3) : CtS l yX7_gets cX7_gets 3 none (rmD 0) [.ref 0, .int (nI p), .int c] 7 shM M (none) (upC M 1 (rGets (M 1) p c)) := by
  refine CtF.of (own := RX7) [some (.ref 0), some (.int (nI p)), some (.int c)] (by decide +kernel) rfl (fun _ => Nat.le_of_ble_eq_true rfl) (fun _ => rfl) ?_
  refine VS.aload_n dX7_gets_0 rfl ?_
  refine VS.sgetR 6 dX7_gets_1 uw_X7 rfl (by decide) 0 rfl rfl (by decide) fl_X7_7 rfl ?_
  refine VS.bipush (8) dX7_gets_4 rfl ?_
  refine VS.iload_n dX7_gets_6 rfl ?_
  refine VS.iadd dX7_gets_7 ?_
  refine VS.aload_n dX7_gets_8 rfl ?_
  refine VS.sgetR 6 dX7_gets_9 uw_X7 rfl (by decide) 0 rfl rfl (by decide) fl_X7_7 rfl ?_
  refine VS.bipush (8) dX7_gets_12 rfl ?_
  refine VS.iload_n dX7_gets_14 rfl ?_
  refine VS.iadd dX7_gets_15 ?_
  refine VS.siald (8 + p) dX7_gets_16 (by decide) rfl (ix_add) (by omega) (by decide) ?_
  refine VS.iload_n dX7_gets_17 rfl ?_
  refine VS.iadd dX7_gets_18 ?_
  refine VS.sipush (9999) dX7_gets_19 rfl ?_
  refine VS.icmp_le 31 dX7_gets_22 (by decide) (fun h_22 => ?_) (fun h_22 => ?_)
  · refine VS.aload_n dX7_gets_31 rfl ?_
    refine VS.sgetR 6 dX7_gets_32 uw_X7 rfl (by decide) 0 rfl rfl (by decide) fl_X7_7 rfl ?_
    refine VS.bipush (8) dX7_gets_35 rfl ?_
    refine VS.iload_n dX7_gets_37 rfl ?_
    refine VS.iadd dX7_gets_38 ?_
    refine VS.siald (8 + p) dX7_gets_39 (by decide) rfl (ix_add) (by omega) (by decide) ?_
    refine VS.iload_n dX7_gets_40 rfl ?_
    refine VS.iadd dX7_gets_41 ?_
    refine VS.siast (8 + p) dX7_gets_42 (by decide) rfl (ix_add) (by omega) (by decide) ?_
    exact VS.vret dX7_gets_43 rfl (fun k _ => congrArg (fun S => shW shM S k) (by simp only [rGets, up2]; first | rw [if_pos (by simp only [Int32.lt_iff_toInt_lt, Int32.le_iff_toInt_le, ti_0, ti_1, ti_2, ti_3, ti_4, ti_5, ti_6, ti_7, ti_8, ti_9, ti_10, ti_14, ti_15, ti_16, ti_20, ti_28, ti_33, ti_40, ti_50, ti_80, ti_97, ti_99, ti_100, ti_104, ti_126, ti_150, ti_182, ti_200, ti_255, ti_364, ti_1092, ti_9999, tim_1, tim_2, tim_3, tim_4, tim_5, tim_6] at *; omega)] | rw [if_neg (by simp only [Int32.lt_iff_toInt_lt, Int32.le_iff_toInt_le, ti_0, ti_1, ti_2, ti_3, ti_4, ti_5, ti_6, ti_7, ti_8, ti_9, ti_10, ti_14, ti_15, ti_16, ti_20, ti_28, ti_33, ti_40, ti_50, ti_80, ti_97, ti_99, ti_100, ti_104, ti_126, ti_150, ti_182, ti_200, ti_255, ti_364, ti_1092, ti_9999, tim_1, tim_2, tim_3, tim_4, tim_5, tim_6] at *; omega)]))
  · refine VS.sipush (9999) dX7_gets_25 rfl ?_
    refine VS.goto 42 dX7_gets_28 (by decide) ?_
    refine VS.siast (8 + p) dX7_gets_42 (by decide) rfl (ix_add) (by omega) (by decide) ?_
    exact VS.vret dX7_gets_43 rfl (fun k _ => congrArg (fun S => shW shM S k) (by simp only [rGets, up2]; first | rw [if_pos (by simp only [Int32.lt_iff_toInt_lt, Int32.le_iff_toInt_le, ti_0, ti_1, ti_2, ti_3, ti_4, ti_5, ti_6, ti_7, ti_8, ti_9, ti_10, ti_14, ti_15, ti_16, ti_20, ti_28, ti_33, ti_40, ti_50, ti_80, ti_97, ti_99, ti_100, ti_104, ti_126, ti_150, ti_182, ti_200, ti_255, ti_364, ti_1092, ti_9999, tim_1, tim_2, tim_3, tim_4, tim_5, tim_6] at *; omega)] | rw [if_neg (by simp only [Int32.lt_iff_toInt_lt, Int32.le_iff_toInt_le, ti_0, ti_1, ti_2, ti_3, ti_4, ti_5, ti_6, ti_7, ti_8, ti_9, ti_10, ti_14, ti_15, ti_16, ti_20, ti_28, ti_33, ti_40, ti_50, ti_80, ti_97, ti_99, ti_100, ti_104, ti_126, ti_150, ti_182, ti_200, ti_255, ti_364, ti_1092, ti_9999, tim_1, tim_2, tim_3, tim_4, tim_5, tim_6] at *; omega)]))
set_option maxRecDepth 100000 in
set_option maxHeartbeats 4000000 in
theorem ct_X7_barRoad (l : Launch) (M : SS) (a : Int32) (b : Int32) : CtS l yX7_barRoad cX7_barRoad 3 (some FieldType.int) (rmD 2) [.ref 0, .int a, .int b] 7 shM M (some (.int (rBarRoad (M 1) a b))) (M) := by
  refine CtF.of (own := RX7) [some (.ref 0), some (.int a), some (.int b)] (by decide +kernel) rfl (fun _ => Nat.le_of_ble_eq_true rfl) (fun _ => rfl) ?_
  refine VS.iload_n dX7_barRoad_0 rfl ?_
  refine VS.callN (ct_X7_isPlace l _) dX7_barRoad_1 mi_X7_isPlace st_X7_isPlace ml_X7_67 (rmOk_D (by decide) (by decide)) (Nat.le_of_ble_eq_true rfl) rfl ?_
  refine VS.if_eq 14 dX7_barRoad_4 (by decide) (fun h_4 => ?_) (fun h_4 => ?_)
  · refine VS.iconst (-1) dX7_barRoad_14 rfl ?_
    refine VS.goto 41 dX7_barRoad_15 (by decide) ?_
    exact VS.iret dX7_barRoad_41 (by unfold rBarRoad; first | (rw [wrE_1 (ite10.mp h_4)] <;> rfl) | (rw [wrE_2 (ite10.mp h_11)] <;> rfl) | (rw [wrE_3 (ite11 h_4) (ite11 h_11) h_20] <;> rfl) | (rw [wrE_4 (ite11 h_4) (ite11 h_11) h_20, if_pos rfl, if_neg (ite10.mp h_32)]) | (rw [wrE_4 (ite11 h_4) (ite11 h_11) h_20, if_pos rfl, if_pos (ite11 h_32)])) (fun _ _ => rfl)
  · refine VS.iload_n dX7_barRoad_7 rfl ?_
    refine VS.callN (ct_X7_isPlace l _) dX7_barRoad_8 mi_X7_isPlace st_X7_isPlace ml_X7_67 (rmOk_D (by decide) (by decide)) (Nat.le_of_ble_eq_true rfl) rfl ?_
    refine VS.if_ne 18 dX7_barRoad_11 (by decide) (fun h_11 => ?_) (fun h_11 => ?_)
    · refine VS.iload_n dX7_barRoad_18 rfl ?_
      refine VS.iload_n dX7_barRoad_19 rfl ?_
      refine VS.icmp_ne 28 dX7_barRoad_20 (by decide) (fun h_20 => ?_) (fun h_20 => ?_)
      · refine VS.aload_n dX7_barRoad_28 rfl ?_
        refine VS.callT (ct_X7_hasBegun l _) dX7_barRoad_29 mi_X7_hasBegun im_X7_hasBegun sel_X7_hasBegun ml_X7_41 (by decide) rfl rfl (rmOk_D (by decide) (by decide)) (Nat.le_of_ble_eq_true rfl) rfl ?_
        refine VS.if_eq 40 dX7_barRoad_32 (by decide) (fun h_32 => ?_) (fun h_32 => ?_)
        · refine VS.iconst (0) dX7_barRoad_40 rfl ?_
          exact VS.iret dX7_barRoad_41 (by unfold rBarRoad; first | (rw [wrE_1 (ite10.mp h_4)] <;> rfl) | (rw [wrE_2 (ite10.mp h_11)] <;> rfl) | (rw [wrE_3 (ite11 h_4) (ite11 h_11) h_20] <;> rfl) | (rw [wrE_4 (ite11 h_4) (ite11 h_11) h_20, if_pos rfl, if_neg (ite10.mp h_32)]) | (rw [wrE_4 (ite11 h_4) (ite11 h_11) h_20, if_pos rfl, if_pos (ite11 h_32)])) (fun _ _ => rfl)
        · refine VS.bipush (-5) dX7_barRoad_35 rfl ?_
          refine VS.goto 41 dX7_barRoad_37 (by decide) ?_
          exact VS.iret dX7_barRoad_41 (by unfold rBarRoad; first | (rw [wrE_1 (ite10.mp h_4)] <;> rfl) | (rw [wrE_2 (ite10.mp h_11)] <;> rfl) | (rw [wrE_3 (ite11 h_4) (ite11 h_11) h_20] <;> rfl) | (rw [wrE_4 (ite11 h_4) (ite11 h_11) h_20, if_pos rfl, if_neg (ite10.mp h_32)]) | (rw [wrE_4 (ite11 h_4) (ite11 h_11) h_20, if_pos rfl, if_pos (ite11 h_32)])) (fun _ _ => rfl)
      · refine VS.bipush (-2) dX7_barRoad_23 rfl ?_
        refine VS.goto 41 dX7_barRoad_25 (by decide) ?_
        exact VS.iret dX7_barRoad_41 (by unfold rBarRoad; first | (rw [wrE_1 (ite10.mp h_4)] <;> rfl) | (rw [wrE_2 (ite10.mp h_11)] <;> rfl) | (rw [wrE_3 (ite11 h_4) (ite11 h_11) h_20] <;> rfl) | (rw [wrE_4 (ite11 h_4) (ite11 h_11) h_20, if_pos rfl, if_neg (ite10.mp h_32)]) | (rw [wrE_4 (ite11 h_4) (ite11 h_11) h_20, if_pos rfl, if_pos (ite11 h_32)])) (fun _ _ => rfl)
    · refine VS.iconst (-1) dX7_barRoad_14 rfl ?_
      refine VS.goto 41 dX7_barRoad_15 (by decide) ?_
      exact VS.iret dX7_barRoad_41 (by unfold rBarRoad; first | (rw [wrE_1 (ite10.mp h_4)] <;> rfl) | (rw [wrE_2 (ite10.mp h_11)] <;> rfl) | (rw [wrE_3 (ite11 h_4) (ite11 h_11) h_20] <;> rfl) | (rw [wrE_4 (ite11 h_4) (ite11 h_11) h_20, if_pos rfl, if_neg (ite10.mp h_32)]) | (rw [wrE_4 (ite11 h_4) (ite11 h_11) h_20, if_pos rfl, if_pos (ite11 h_32)])) (fun _ _ => rfl)
set_option maxRecDepth 100000 in
set_option maxHeartbeats 4000000 in
theorem ct_X7_barTreasure (l : Launch) (M : SS) (a : Int32) : CtS l yX7_barTreasure cX7_barTreasure 2 (some FieldType.int) (rmD 2) [.ref 0, .int a] 7 shM M (some (.int (rBarTreasure (M 1) a))) (M) := by
  refine CtF.of (own := RX7) [some (.ref 0), some (.int a)] (by decide +kernel) rfl (fun _ => Nat.le_of_ble_eq_true rfl) (fun _ => rfl) ?_
  refine VS.iload_n dX7_barTreasure_0 rfl ?_
  refine VS.callN (ct_X7_isPlace l _) dX7_barTreasure_1 mi_X7_isPlace st_X7_isPlace ml_X7_67 (rmOk_D (by decide) (by decide)) (Nat.le_of_ble_eq_true rfl) rfl ?_
  refine VS.if_ne 11 dX7_barTreasure_4 (by decide) (fun h_4 => ?_) (fun h_4 => ?_)
  · refine VS.aload_n dX7_barTreasure_11 rfl ?_
    refine VS.callT (ct_X7_hasBegun l _) dX7_barTreasure_12 mi_X7_hasBegun im_X7_hasBegun sel_X7_hasBegun ml_X7_41 (by decide) rfl rfl (rmOk_D (by decide) (by decide)) (Nat.le_of_ble_eq_true rfl) rfl ?_
    refine VS.if_eq 23 dX7_barTreasure_15 (by decide) (fun h_15 => ?_) (fun h_15 => ?_)
    · refine VS.iconst (0) dX7_barTreasure_23 rfl ?_
      exact VS.iret dX7_barTreasure_24 (by unfold rBarTreasure; first | (rw [if_neg (ite10.mp h_4)]) | (rw [if_pos (ite11 h_4), if_neg (ite10.mp h_15)]) | (rw [if_pos (ite11 h_4), if_pos (ite11 h_15)])) (fun _ _ => rfl)
    · refine VS.bipush (-5) dX7_barTreasure_18 rfl ?_
      refine VS.goto 24 dX7_barTreasure_20 (by decide) ?_
      exact VS.iret dX7_barTreasure_24 (by unfold rBarTreasure; first | (rw [if_neg (ite10.mp h_4)]) | (rw [if_pos (ite11 h_4), if_neg (ite10.mp h_15)]) | (rw [if_pos (ite11 h_4), if_pos (ite11 h_15)])) (fun _ _ => rfl)
  · refine VS.iconst (-1) dX7_barTreasure_7 rfl ?_
    refine VS.goto 24 dX7_barTreasure_8 (by decide) ?_
    exact VS.iret dX7_barTreasure_24 (by unfold rBarTreasure; first | (rw [if_neg (ite10.mp h_4)]) | (rw [if_pos (ite11 h_4), if_neg (ite10.mp h_15)]) | (rw [if_pos (ite11 h_4), if_pos (ite11 h_15)])) (fun _ _ => rfl)
set_option maxRecDepth 100000 in
set_option maxHeartbeats 4000000 in
theorem ct_X7_barClaim (l : Launch) (M : SS) (a : Int32) (b : Int32) (is : Int32) : CtS l yX7_barClaim cX7_barClaim 4 (some FieldType.int) (rmD 2) [.ref 0, .int a, .int b, .int is] 7 shM M (some (.int (rBarClaim (M 1) a b is))) (M) := by
  refine CtF.of (own := RX7) [some (.ref 0), some (.int a), some (.int b), some (.int is)] (by decide +kernel) rfl (fun _ => Nat.le_of_ble_eq_true rfl) (fun _ => rfl) ?_
  refine VS.iload_n dX7_barClaim_0 rfl ?_
  refine VS.callN (ct_X7_isPlace l _) dX7_barClaim_1 mi_X7_isPlace st_X7_isPlace ml_X7_67 (rmOk_D (by decide) (by decide)) (Nat.le_of_ble_eq_true rfl) rfl ?_
  refine VS.if_eq 14 dX7_barClaim_4 (by decide) (fun h_4 => ?_) (fun h_4 => ?_)
  · refine VS.iconst (-1) dX7_barClaim_14 rfl ?_
    refine VS.goto 50 dX7_barClaim_15 (by decide) ?_
    exact VS.iret dX7_barClaim_50 (by unfold rBarClaim; first | (rw [wrE_1 (ite10.mp h_4)] <;> rfl) | (rw [wrE_2 (ite10.mp h_11)] <;> rfl) | (rw [wrE_3 (ite11 h_4) (ite11 h_11) h_20] <;> rfl) | (rw [wrE_4 (ite11 h_4) (ite11 h_11) h_20, if_pos rfl, if_neg (ite10.mp h_29)]) | (rw [wrE_4 (ite11 h_4) (ite11 h_11) h_20, if_pos rfl, if_pos (ite11 h_29), if_neg (ite10.mp h_41)]) | (rw [wrE_4 (ite11 h_4) (ite11 h_11) h_20, if_pos rfl, if_pos (ite11 h_29), if_pos (ite11 h_41)])) (fun _ _ => rfl)
  · refine VS.iload_n dX7_barClaim_7 rfl ?_
    refine VS.callN (ct_X7_isPlace l _) dX7_barClaim_8 mi_X7_isPlace st_X7_isPlace ml_X7_67 (rmOk_D (by decide) (by decide)) (Nat.le_of_ble_eq_true rfl) rfl ?_
    refine VS.if_ne 18 dX7_barClaim_11 (by decide) (fun h_11 => ?_) (fun h_11 => ?_)
    · refine VS.iload_n dX7_barClaim_18 rfl ?_
      refine VS.iload_n dX7_barClaim_19 rfl ?_
      refine VS.icmp_eq 32 dX7_barClaim_20 (by decide) (fun h_20 => ?_) (fun h_20 => ?_)
      · refine VS.bipush (-2) dX7_barClaim_32 rfl ?_
        refine VS.goto 50 dX7_barClaim_34 (by decide) ?_
        exact VS.iret dX7_barClaim_50 (by unfold rBarClaim; first | (rw [wrE_1 (ite10.mp h_4)] <;> rfl) | (rw [wrE_2 (ite10.mp h_11)] <;> rfl) | (rw [wrE_3 (ite11 h_4) (ite11 h_11) h_20] <;> rfl) | (rw [wrE_4 (ite11 h_4) (ite11 h_11) h_20, if_pos rfl, if_neg (ite10.mp h_29)]) | (rw [wrE_4 (ite11 h_4) (ite11 h_11) h_20, if_pos rfl, if_pos (ite11 h_29), if_neg (ite10.mp h_41)]) | (rw [wrE_4 (ite11 h_4) (ite11 h_11) h_20, if_pos rfl, if_pos (ite11 h_29), if_pos (ite11 h_41)])) (fun _ _ => rfl)
      · refine VS.iload_n dX7_barClaim_23 rfl ?_
        refine VS.iconst (0) dX7_barClaim_24 rfl ?_
        refine VS.iconst (1) dX7_barClaim_25 rfl ?_
        refine VS.callN (ct_X7_in l _ _ _) dX7_barClaim_26 mi_X7_in st_X7_in ml_X7_29 (rmOk_D (by decide) (by decide)) (Nat.le_of_ble_eq_true rfl) rfl ?_
        refine VS.if_ne 37 dX7_barClaim_29 (by decide) (fun h_29 => ?_) (fun h_29 => ?_)
        · refine VS.aload_n dX7_barClaim_37 rfl ?_
          refine VS.callT (ct_X7_goes l _) dX7_barClaim_38 mi_X7_goes im_X7_goes sel_X7_goes ml_X7_84 (by decide) rfl rfl (rmOk_D (by decide) (by decide)) (Nat.le_of_ble_eq_true rfl) rfl ?_
          refine VS.if_eq 48 dX7_barClaim_41 (by decide) (fun h_41 => ?_) (fun h_41 => ?_)
          · refine VS.bipush (-5) dX7_barClaim_48 rfl ?_
            exact VS.iret dX7_barClaim_50 (by unfold rBarClaim; first | (rw [wrE_1 (ite10.mp h_4)] <;> rfl) | (rw [wrE_2 (ite10.mp h_11)] <;> rfl) | (rw [wrE_3 (ite11 h_4) (ite11 h_11) h_20] <;> rfl) | (rw [wrE_4 (ite11 h_4) (ite11 h_11) h_20, if_pos rfl, if_neg (ite10.mp h_29)]) | (rw [wrE_4 (ite11 h_4) (ite11 h_11) h_20, if_pos rfl, if_pos (ite11 h_29), if_neg (ite10.mp h_41)]) | (rw [wrE_4 (ite11 h_4) (ite11 h_11) h_20, if_pos rfl, if_pos (ite11 h_29), if_pos (ite11 h_41)])) (fun _ _ => rfl)
          · refine VS.iconst (0) dX7_barClaim_44 rfl ?_
            refine VS.goto 50 dX7_barClaim_45 (by decide) ?_
            exact VS.iret dX7_barClaim_50 (by unfold rBarClaim; first | (rw [wrE_1 (ite10.mp h_4)] <;> rfl) | (rw [wrE_2 (ite10.mp h_11)] <;> rfl) | (rw [wrE_3 (ite11 h_4) (ite11 h_11) h_20] <;> rfl) | (rw [wrE_4 (ite11 h_4) (ite11 h_11) h_20, if_pos rfl, if_neg (ite10.mp h_29)]) | (rw [wrE_4 (ite11 h_4) (ite11 h_11) h_20, if_pos rfl, if_pos (ite11 h_29), if_neg (ite10.mp h_41)]) | (rw [wrE_4 (ite11 h_4) (ite11 h_11) h_20, if_pos rfl, if_pos (ite11 h_29), if_pos (ite11 h_41)])) (fun _ _ => rfl)
        · refine VS.bipush (-2) dX7_barClaim_32 rfl ?_
          refine VS.goto 50 dX7_barClaim_34 (by decide) ?_
          exact VS.iret dX7_barClaim_50 (by unfold rBarClaim; first | (rw [wrE_1 (ite10.mp h_4)] <;> rfl) | (rw [wrE_2 (ite10.mp h_11)] <;> rfl) | (rw [wrE_3 (ite11 h_4) (ite11 h_11) h_20] <;> rfl) | (rw [wrE_4 (ite11 h_4) (ite11 h_11) h_20, if_pos rfl, if_neg (ite10.mp h_29)]) | (rw [wrE_4 (ite11 h_4) (ite11 h_11) h_20, if_pos rfl, if_pos (ite11 h_29), if_neg (ite10.mp h_41)]) | (rw [wrE_4 (ite11 h_4) (ite11 h_11) h_20, if_pos rfl, if_pos (ite11 h_29), if_pos (ite11 h_41)])) (fun _ _ => rfl)
    · refine VS.iconst (-1) dX7_barClaim_14 rfl ?_
      refine VS.goto 50 dX7_barClaim_15 (by decide) ?_
      exact VS.iret dX7_barClaim_50 (by unfold rBarClaim; first | (rw [wrE_1 (ite10.mp h_4)] <;> rfl) | (rw [wrE_2 (ite10.mp h_11)] <;> rfl) | (rw [wrE_3 (ite11 h_4) (ite11 h_11) h_20] <;> rfl) | (rw [wrE_4 (ite11 h_4) (ite11 h_11) h_20, if_pos rfl, if_neg (ite10.mp h_29)]) | (rw [wrE_4 (ite11 h_4) (ite11 h_11) h_20, if_pos rfl, if_pos (ite11 h_29), if_neg (ite10.mp h_41)]) | (rw [wrE_4 (ite11 h_4) (ite11 h_11) h_20, if_pos rfl, if_pos (ite11 h_29), if_pos (ite11 h_41)])) (fun _ _ => rfl)
def rBarCheck (s : Nat → Int32) (q a b : Int32) : Int32 := if 0 ≤ q ∧ q < 3 then (if 0 ≤ a ∧ a < 8 then (if 0 ≤ b ∧ b < 8 then (if q = rem3 (s 7) then -2 else if a = b then -2 else if s 6 = 1 then (if (s (11 + q.toNatClampNeg) ||| s (14 + q.toNatClampNeg)) &&& bitE a b = 0 then -5 else if s 17 &&& bitE a b = 0 then 0 else -5) else -5) else -1) else -1) else -1
def rBarDig (s : Nat → Int32) (t : Nat) (a : Int32) : Int32 := if 0 ≤ a ∧ a < 8 then (if s 6 = 1 then (if s (8 + t) < s 4 then -5 else 0) else -5) else -1
theorem pln {q : Int32} (h : 0 ≤ q ∧ q < 3) : ∃ p : Nat, p < 3 ∧ q = nI p := by
  obtain ⟨j, hj, e⟩ := vp_in_of (n := 3) (vp_in_iff.mpr (by simp only [Int32.lt_iff_toInt_lt, Int32.le_iff_toInt_le, ti_0, ti_1, ti_2, ti_3, ti_4, ti_5, ti_6, ti_7, ti_8, ti_9, ti_10, ti_14, ti_15, ti_16, ti_20, ti_28, ti_33, ti_40, ti_50, ti_80, ti_97, ti_99, ti_100, ti_104, ti_126, ti_150, ti_182, ti_200, ti_255, ti_364, ti_1092, ti_9999, tim_1, tim_2, tim_3, tim_4, tim_5, tim_6] at *; omega)) (by decide)
  exact ⟨j, hj, e⟩
theorem plc {q : Int32} (h : 0 ≤ q ∧ q < 8) : ∃ p : Nat, p < 8 ∧ q = nI p := by
  obtain ⟨j, hj, e⟩ := vp_in_of (n := 8) (vp_in_iff.mpr (by simp only [Int32.lt_iff_toInt_lt, Int32.le_iff_toInt_le, ti_0, ti_1, ti_2, ti_3, ti_4, ti_5, ti_6, ti_7, ti_8, ti_9, ti_10, ti_14, ti_15, ti_16, ti_20, ti_28, ti_33, ti_40, ti_50, ti_80, ti_97, ti_99, ti_100, ti_104, ti_126, ti_150, ti_182, ti_200, ti_255, ti_364, ti_1092, ti_9999, tim_1, tim_2, tim_3, tim_4, tim_5, tim_6] at *; omega)) (by decide)
  exact ⟨j, hj, e⟩
set_option maxRecDepth 100000 in
set_option maxHeartbeats 4000000 in
theorem ct_X7_barCheck (l : Launch) (M : SS) (q : Int32) (a : Int32) (b : Int32) : CtS l yX7_barCheck cX7_barCheck 5 (some FieldType.int) (rmD 2) [.ref 0, .int q, .int a, .int b] 7 shM M (some (.int (rBarCheck (M 1) q a b))) (M) := by
  refine CtF.of (own := RX7) [some (.ref 0), some (.int q), some (.int a), some (.int b), none] (by decide +kernel) rfl (fun _ => Nat.le_of_ble_eq_true rfl) (fun _ => rfl) ?_
  refine VS.iload_n dX7_barCheck_0 rfl ?_
  refine VS.callN (ct_X7_isPlayer l _) dX7_barCheck_1 mi_X7_isPlayer st_X7_isPlayer ml_X7_104 (rmOk_D (by decide) (by decide)) (Nat.le_of_ble_eq_true rfl) rfl ?_
  refine VS.if_eq 21 dX7_barCheck_4 (by decide) (fun h_4 => ?_) (fun h_4 => ?_)
  · refine VS.iconst (-1) dX7_barCheck_21 rfl ?_
    exact VS.iret dX7_barCheck_22 (by unfold rBarCheck; first | (rw [if_neg (ite10.mp h_4)]) | (rw [if_pos (ite11 h_4), if_neg (ite10.mp h_11)]) | (rw [if_pos (ite11 h_4), if_pos (ite11 h_11), if_neg (ite10.mp h_18)])) (fun _ _ => rfl)
  · refine VS.iload_n dX7_barCheck_7 rfl ?_
    refine VS.callN (ct_X7_isPlace l _) dX7_barCheck_8 mi_X7_isPlace st_X7_isPlace ml_X7_67 (rmOk_D (by decide) (by decide)) (Nat.le_of_ble_eq_true rfl) rfl ?_
    refine VS.if_eq 21 dX7_barCheck_11 (by decide) (fun h_11 => ?_) (fun h_11 => ?_)
    · refine VS.iconst (-1) dX7_barCheck_21 rfl ?_
      exact VS.iret dX7_barCheck_22 (by unfold rBarCheck; first | (rw [if_neg (ite10.mp h_4)]) | (rw [if_pos (ite11 h_4), if_neg (ite10.mp h_11)]) | (rw [if_pos (ite11 h_4), if_pos (ite11 h_11), if_neg (ite10.mp h_18)])) (fun _ _ => rfl)
    · refine VS.iload_n dX7_barCheck_14 rfl ?_
      refine VS.callN (ct_X7_isPlace l _) dX7_barCheck_15 mi_X7_isPlace st_X7_isPlace ml_X7_67 (rmOk_D (by decide) (by decide)) (Nat.le_of_ble_eq_true rfl) rfl ?_
      refine VS.if_ne 23 dX7_barCheck_18 (by decide) (fun h_18 => ?_) (fun h_18 => ?_)
      · refine VS.iload_n dX7_barCheck_23 rfl ?_
        refine VS.aload_n dX7_barCheck_24 rfl ?_
        refine VS.callT (ct_X7_turn l _) dX7_barCheck_25 mi_X7_turn im_X7_turn sel_X7_turn ml_X7_87 (by decide) rfl rfl (rmOk_D (by decide) (by decide)) (Nat.le_of_ble_eq_true rfl) rfl ?_
        refine VS.icmp_eq 36 dX7_barCheck_28 (by decide) (fun h_28 => ?_) (fun h_28 => ?_)
        · refine VS.bipush (-2) dX7_barCheck_36 rfl ?_
          exact VS.iret dX7_barCheck_38 (by unfold rBarCheck; first | (rw [if_pos (ite11 h_4), if_pos (ite11 h_11), if_pos (ite11 h_18), if_pos h_28]) | (rw [if_pos (ite11 h_4), if_pos (ite11 h_11), if_pos (ite11 h_18), if_neg h_28, if_pos h_33])) (fun _ _ => rfl)
        · refine VS.iload_n dX7_barCheck_31 rfl ?_
          refine VS.iload_n dX7_barCheck_32 rfl ?_
          refine VS.icmp_ne 39 dX7_barCheck_33 (by decide) (fun h_33 => ?_) (fun h_33 => ?_)
          · obtain ⟨p, hp, rfl⟩ := pln (ite11 h_4)
            refine VS.iconst (1) dX7_barCheck_39 rfl ?_
            refine VS.iload_n dX7_barCheck_40 rfl ?_
            refine VS.iload_n dX7_barCheck_41 rfl ?_
            refine VS.callN (ct_X7_edge l _ _) dX7_barCheck_42 mi_X7_edge st_X7_edge ml_X7_37 (rmOk_D (by decide) (by decide)) (Nat.le_of_ble_eq_true rfl) rfl ?_
            refine VS.ishl dX7_barCheck_45 ?_
            refine VS.val (y := bitE a b) rfl ?_
            refine VS.istore dX7_barCheck_46 (by decide) rfl ?_
            refine VS.aload_n dX7_barCheck_48 rfl ?_
            refine VS.callT (ct_X7_goes l _) dX7_barCheck_49 mi_X7_goes im_X7_goes sel_X7_goes ml_X7_84 (by decide) rfl rfl (rmOk_D (by decide) (by decide)) (Nat.le_of_ble_eq_true rfl) rfl ?_
            refine VS.if_eq 93 dX7_barCheck_52 (by decide) (fun h_52 => ?_) (fun h_52 => ?_)
            · refine VS.bipush (-5) dX7_barCheck_93 rfl ?_
              refine VS.goto 99 dX7_barCheck_95 (by decide) ?_
              exact VS.iret dX7_barCheck_99 (by unfold rBarCheck; rw [nI_clamp (by omega)]; first | (rw [if_pos (ite11 h_4), if_pos (ite11 h_11), if_pos (ite11 h_18), if_neg h_28, if_neg h_33, if_neg (ite10.mp h_52)]) | (rw [if_pos (ite11 h_4), if_pos (ite11 h_11), if_pos (ite11 h_18), if_neg h_28, if_neg h_33, if_pos (ite11 h_52), if_pos h_77]) | (rw [if_pos (ite11 h_4), if_pos (ite11 h_11), if_pos (ite11 h_18), if_neg h_28, if_neg h_33, if_pos (ite11 h_52), if_neg h_77, if_pos h_90]) | (rw [if_pos (ite11 h_4), if_pos (ite11 h_11), if_pos (ite11 h_18), if_neg h_28, if_neg h_33, if_pos (ite11 h_52), if_neg h_77, if_neg h_90])) (fun _ _ => rfl)
            · refine VS.aload_n dX7_barCheck_55 rfl ?_
              refine VS.sgetR 6 dX7_barCheck_56 uw_X7 rfl (by decide) 0 rfl rfl (by decide) fl_X7_7 rfl ?_
              refine VS.bipush (11) dX7_barCheck_59 rfl ?_
              refine VS.iload_n dX7_barCheck_61 rfl ?_
              refine VS.iadd dX7_barCheck_62 ?_
              refine VS.siald (11 + p) dX7_barCheck_63 (by decide) rfl (ix_add) (by omega) (by decide) ?_
              refine VS.aload_n dX7_barCheck_64 rfl ?_
              refine VS.sgetR 6 dX7_barCheck_65 uw_X7 rfl (by decide) 0 rfl rfl (by decide) fl_X7_7 rfl ?_
              refine VS.bipush (14) dX7_barCheck_68 rfl ?_
              refine VS.iload_n dX7_barCheck_70 rfl ?_
              refine VS.iadd dX7_barCheck_71 ?_
              refine VS.siald (14 + p) dX7_barCheck_72 (by decide) rfl (ix_add) (by omega) (by decide) ?_
              refine VS.ior dX7_barCheck_73 ?_
              refine VS.iload dX7_barCheck_74 rfl ?_
              refine VS.iand dX7_barCheck_76 ?_
              refine VS.if_eq 93 dX7_barCheck_77 (by decide) (fun h_77 => ?_) (fun h_77 => ?_)
              · refine VS.bipush (-5) dX7_barCheck_93 rfl ?_
                refine VS.goto 99 dX7_barCheck_95 (by decide) ?_
                exact VS.iret dX7_barCheck_99 (by unfold rBarCheck; rw [nI_clamp (by omega)]; first | (rw [if_pos (ite11 h_4), if_pos (ite11 h_11), if_pos (ite11 h_18), if_neg h_28, if_neg h_33, if_neg (ite10.mp h_52)]) | (rw [if_pos (ite11 h_4), if_pos (ite11 h_11), if_pos (ite11 h_18), if_neg h_28, if_neg h_33, if_pos (ite11 h_52), if_pos h_77]) | (rw [if_pos (ite11 h_4), if_pos (ite11 h_11), if_pos (ite11 h_18), if_neg h_28, if_neg h_33, if_pos (ite11 h_52), if_neg h_77, if_pos h_90]) | (rw [if_pos (ite11 h_4), if_pos (ite11 h_11), if_pos (ite11 h_18), if_neg h_28, if_neg h_33, if_pos (ite11 h_52), if_neg h_77, if_neg h_90])) (fun _ _ => rfl)
              · refine VS.aload_n dX7_barCheck_80 rfl ?_
                refine VS.sgetR 6 dX7_barCheck_81 uw_X7 rfl (by decide) 0 rfl rfl (by decide) fl_X7_7 rfl ?_
                refine VS.bipush (17) dX7_barCheck_84 rfl ?_
                refine VS.siald (17) dX7_barCheck_86 (by decide) rfl (rfl) (by decide) (by decide) ?_
                refine VS.iload dX7_barCheck_87 rfl ?_
                refine VS.iand dX7_barCheck_89 ?_
                refine VS.if_eq 98 dX7_barCheck_90 (by decide) (fun h_90 => ?_) (fun h_90 => ?_)
                · refine VS.iconst (0) dX7_barCheck_98 rfl ?_
                  exact VS.iret dX7_barCheck_99 (by unfold rBarCheck; rw [nI_clamp (by omega)]; first | (rw [if_pos (ite11 h_4), if_pos (ite11 h_11), if_pos (ite11 h_18), if_neg h_28, if_neg h_33, if_neg (ite10.mp h_52)]) | (rw [if_pos (ite11 h_4), if_pos (ite11 h_11), if_pos (ite11 h_18), if_neg h_28, if_neg h_33, if_pos (ite11 h_52), if_pos h_77]) | (rw [if_pos (ite11 h_4), if_pos (ite11 h_11), if_pos (ite11 h_18), if_neg h_28, if_neg h_33, if_pos (ite11 h_52), if_neg h_77, if_pos h_90]) | (rw [if_pos (ite11 h_4), if_pos (ite11 h_11), if_pos (ite11 h_18), if_neg h_28, if_neg h_33, if_pos (ite11 h_52), if_neg h_77, if_neg h_90])) (fun _ _ => rfl)
                · refine VS.bipush (-5) dX7_barCheck_93 rfl ?_
                  refine VS.goto 99 dX7_barCheck_95 (by decide) ?_
                  exact VS.iret dX7_barCheck_99 (by unfold rBarCheck; rw [nI_clamp (by omega)]; first | (rw [if_pos (ite11 h_4), if_pos (ite11 h_11), if_pos (ite11 h_18), if_neg h_28, if_neg h_33, if_neg (ite10.mp h_52)]) | (rw [if_pos (ite11 h_4), if_pos (ite11 h_11), if_pos (ite11 h_18), if_neg h_28, if_neg h_33, if_pos (ite11 h_52), if_pos h_77]) | (rw [if_pos (ite11 h_4), if_pos (ite11 h_11), if_pos (ite11 h_18), if_neg h_28, if_neg h_33, if_pos (ite11 h_52), if_neg h_77, if_pos h_90]) | (rw [if_pos (ite11 h_4), if_pos (ite11 h_11), if_pos (ite11 h_18), if_neg h_28, if_neg h_33, if_pos (ite11 h_52), if_neg h_77, if_neg h_90])) (fun _ _ => rfl)
          · refine VS.bipush (-2) dX7_barCheck_36 rfl ?_
            exact VS.iret dX7_barCheck_38 (by unfold rBarCheck; first | (rw [if_pos (ite11 h_4), if_pos (ite11 h_11), if_pos (ite11 h_18), if_pos h_28]) | (rw [if_pos (ite11 h_4), if_pos (ite11 h_11), if_pos (ite11 h_18), if_neg h_28, if_pos h_33])) (fun _ _ => rfl)
      · refine VS.iconst (-1) dX7_barCheck_21 rfl ?_
        exact VS.iret dX7_barCheck_22 (by unfold rBarCheck; first | (rw [if_neg (ite10.mp h_4)]) | (rw [if_pos (ite11 h_4), if_neg (ite10.mp h_11)]) | (rw [if_pos (ite11 h_4), if_pos (ite11 h_11), if_neg (ite10.mp h_18)])) (fun _ _ => rfl)
set_option maxRecDepth 100000 in
set_option maxHeartbeats 4000000 in
theorem ct_X7_barDig (l : Launch) (M : SS) (a : Int32) {t : Nat} (ht : rem3 (M 1 7) = nI t) (h3 : t < 3) : CtS l yX7_barDig cX7_barDig 2 (some FieldType.int) (rmD 2) [.ref 0, .int a] 7 shM M (some (.int (rBarDig (M 1) t a))) (M) := by
  refine CtF.of (own := RX7) [some (.ref 0), some (.int a)] (by decide +kernel) rfl (fun _ => Nat.le_of_ble_eq_true rfl) (fun _ => rfl) ?_
  refine VS.iload_n dX7_barDig_0 rfl ?_
  refine VS.callN (ct_X7_isPlace l _) dX7_barDig_1 mi_X7_isPlace st_X7_isPlace ml_X7_67 (rmOk_D (by decide) (by decide)) (Nat.le_of_ble_eq_true rfl) rfl ?_
  refine VS.if_ne 11 dX7_barDig_4 (by decide) (fun h_4 => ?_) (fun h_4 => ?_)
  · refine VS.aload_n dX7_barDig_11 rfl ?_
    refine VS.callT (ct_X7_goes l _) dX7_barDig_12 mi_X7_goes im_X7_goes sel_X7_goes ml_X7_84 (by decide) rfl rfl (rmOk_D (by decide) (by decide)) (Nat.le_of_ble_eq_true rfl) rfl ?_
    refine VS.if_eq 39 dX7_barDig_15 (by decide) (fun h_15 => ?_) (fun h_15 => ?_)
    · refine VS.bipush (-5) dX7_barDig_39 rfl ?_
      refine VS.goto 45 dX7_barDig_41 (by decide) ?_
      exact VS.iret dX7_barDig_45 (by unfold rBarDig; first | (rw [if_neg (ite10.mp h_4)]) | (rw [if_pos (ite11 h_4), if_neg (ite10.mp h_15)]) | (rw [if_pos (ite11 h_4), if_pos (ite11 h_15), if_neg (Int32.not_lt.mpr h_36)]) | (rw [if_pos (ite11 h_4), if_pos (ite11 h_15), if_pos (Int32.not_le.mp h_36)])) (fun _ _ => rfl)
    · refine VS.aload_n dX7_barDig_18 rfl ?_
      refine VS.sgetR 6 dX7_barDig_19 uw_X7 rfl (by decide) 0 rfl rfl (by decide) fl_X7_7 rfl ?_
      refine VS.bipush (8) dX7_barDig_22 rfl ?_
      refine VS.aload_n dX7_barDig_24 rfl ?_
      refine VS.callT (ct_X7_turn l _) dX7_barDig_25 mi_X7_turn im_X7_turn sel_X7_turn ml_X7_87 (by decide) rfl rfl (rmOk_D (by decide) (by decide)) (Nat.le_of_ble_eq_true rfl) rfl ?_
      refine VS.val (y := nI t) ht ?_
      refine VS.iadd dX7_barDig_28 ?_
      refine VS.siald (8 + t) dX7_barDig_29 (by decide) rfl (ix_add) (by omega) (by decide) ?_
      refine VS.aload_n dX7_barDig_30 rfl ?_
      refine VS.sgetR 6 dX7_barDig_31 uw_X7 rfl (by decide) 0 rfl rfl (by decide) fl_X7_7 rfl ?_
      refine VS.iconst (4) dX7_barDig_34 rfl ?_
      refine VS.siald (4) dX7_barDig_35 (by decide) rfl (rfl) (by decide) (by decide) ?_
      refine VS.icmp_ge 44 dX7_barDig_36 (by decide) (fun h_36 => ?_) (fun h_36 => ?_)
      · refine VS.iconst (0) dX7_barDig_44 rfl ?_
        exact VS.iret dX7_barDig_45 (by unfold rBarDig; first | (rw [if_neg (ite10.mp h_4)]) | (rw [if_pos (ite11 h_4), if_neg (ite10.mp h_15)]) | (rw [if_pos (ite11 h_4), if_pos (ite11 h_15), if_neg (Int32.not_lt.mpr h_36)]) | (rw [if_pos (ite11 h_4), if_pos (ite11 h_15), if_pos (Int32.not_le.mp h_36)])) (fun _ _ => rfl)
      · refine VS.bipush (-5) dX7_barDig_39 rfl ?_
        refine VS.goto 45 dX7_barDig_41 (by decide) ?_
        exact VS.iret dX7_barDig_45 (by unfold rBarDig; first | (rw [if_neg (ite10.mp h_4)]) | (rw [if_pos (ite11 h_4), if_neg (ite10.mp h_15)]) | (rw [if_pos (ite11 h_4), if_pos (ite11 h_15), if_neg (Int32.not_lt.mpr h_36)]) | (rw [if_pos (ite11 h_4), if_pos (ite11 h_15), if_pos (Int32.not_le.mp h_36)])) (fun _ _ => rfl)
  · refine VS.iconst (-1) dX7_barDig_7 rfl ?_
    refine VS.goto 45 dX7_barDig_8 (by decide) ?_
    exact VS.iret dX7_barDig_45 (by unfold rBarDig; first | (rw [if_neg (ite10.mp h_4)]) | (rw [if_pos (ite11 h_4), if_neg (ite10.mp h_15)]) | (rw [if_pos (ite11 h_4), if_pos (ite11 h_15), if_neg (Int32.not_lt.mpr h_36)]) | (rw [if_pos (ite11 h_4), if_pos (ite11 h_15), if_pos (Int32.not_le.mp h_36)])) (fun _ _ => rfl)
set_option maxRecDepth 100000 in
set_option maxHeartbeats 4000000 in
theorem ct_X7_lays (l : Launch) (M : SS) (a : Int32) (b : Int32) : CtS l yX7_lays cX7_lays 3 (some FieldType.int) (rmD 1) [.ref 0, .int a, .int b] 7 shM M (some (.int (pcI (M 1 0 ^^^ bitE a b)))) (upC M 1 (rLays (M 1) a b)) := by
  refine CtF.of (own := RX7) [some (.ref 0), some (.int a), some (.int b)] (by decide +kernel) rfl (fun _ => Nat.le_of_ble_eq_true rfl) (fun _ => rfl) ?_
  refine VS.aload_n dX7_lays_0 rfl ?_
  refine VS.sgetR 6 dX7_lays_1 uw_X7 rfl (by decide) 0 rfl rfl (by decide) fl_X7_7 rfl ?_
  refine VS.iconst (0) dX7_lays_4 rfl ?_
  refine VS.dup2 dX7_lays_5 rfl rfl ?_
  refine VS.siald (0) dX7_lays_6 (by decide) rfl (rfl) (by decide) (by decide) ?_
  refine VS.iconst (1) dX7_lays_7 rfl ?_
  refine VS.iload_n dX7_lays_8 rfl ?_
  refine VS.iload_n dX7_lays_9 rfl ?_
  refine VS.callN (ct_X7_edge l _ _) dX7_lays_10 mi_X7_edge st_X7_edge ml_X7_37 (rmOk_D (by decide) (by decide)) (Nat.le_of_ble_eq_true rfl) rfl ?_
  refine VS.ishl dX7_lays_13 ?_
  refine VS.ixor dX7_lays_14 ?_
  refine VS.siast (0) dX7_lays_15 (by decide) rfl (rfl) (by decide) (by decide) ?_
  refine VS.aload_n dX7_lays_16 rfl ?_
  refine VS.sgetR 6 dX7_lays_17 uw_X7 rfl (by decide) 0 rfl rfl (by decide) fl_X7_7 rfl ?_
  refine VS.iconst (0) dX7_lays_20 rfl ?_
  refine VS.siald (0) dX7_lays_21 (by decide) rfl (rfl) (by decide) (by decide) ?_
  refine VS.callN (ct_X7_many l _) dX7_lays_22 mi_X7_many st_X7_many ml_X7_55 (rmOk_D (by decide) (by decide)) (Nat.le_of_ble_eq_true rfl) rfl ?_
  exact VS.iret dX7_lays_25 (rfl) (fun _ _ => rfl)
set_option maxRecDepth 100000 in
set_option maxHeartbeats 4000000 in
theorem ct_X7_pays (l : Launch) (M : SS) (c : Int32) {f t : Nat} (hf : f < 3) (h3 : t < 3) : CtS l yX7_pays cX7_pays 5 none (rmD 1) [.ref 0, .int (nI f), .int (nI t), .int c] 7 shM M (none) (upC M 1 (rPays (M 1) f t c)) := by
  refine CtF.of (own := RX7) [some (.ref 0), some (.int (nI f)), some (.int (nI t)), some (.int c), none] (by decide +kernel) rfl (fun _ => Nat.le_of_ble_eq_true rfl) (fun _ => rfl) ?_
  refine VS.aload_n dX7_pays_0 rfl ?_
  refine VS.sgetR 6 dX7_pays_1 uw_X7 rfl (by decide) 0 rfl rfl (by decide) fl_X7_7 rfl ?_
  refine VS.bipush (8) dX7_pays_4 rfl ?_
  refine VS.iload_n dX7_pays_6 rfl ?_
  refine VS.iadd dX7_pays_7 ?_
  refine VS.siald (8 + f) dX7_pays_8 (by decide) rfl (ix_add) (by omega) (by decide) ?_
  refine VS.iload_n dX7_pays_9 rfl ?_
  refine VS.icmp_ge 25 dX7_pays_10 (by decide) (fun h_10 => ?_) (fun h_10 => ?_)
  · refine VS.iload_n dX7_pays_25 rfl ?_
    refine VS.val (y := rPaid (M 1) f c) (by first | exact (if_neg (Int32.not_lt.mpr h_10)).symm | exact (if_pos (Int32.not_le.mp h_10)).symm) ?_
    refine VS.istore dX7_pays_26 (by decide) rfl ?_
    refine VS.aload_n dX7_pays_28 rfl ?_
    refine VS.sgetR 6 dX7_pays_29 uw_X7 rfl (by decide) 0 rfl rfl (by decide) fl_X7_7 rfl ?_
    refine VS.bipush (8) dX7_pays_32 rfl ?_
    refine VS.iload_n dX7_pays_34 rfl ?_
    refine VS.iadd dX7_pays_35 ?_
    refine VS.dup2 dX7_pays_36 rfl rfl ?_
    refine VS.siald (8 + f) dX7_pays_37 (by decide) rfl (ix_add) (by omega) (by decide) ?_
    refine VS.iload dX7_pays_38 rfl ?_
    refine VS.isub dX7_pays_40 ?_
    refine VS.siast (8 + f) dX7_pays_41 (by decide) rfl (ix_add) (by omega) (by decide) ?_
    refine VS.aload_n dX7_pays_42 rfl ?_
    refine VS.iload_n dX7_pays_43 rfl ?_
    refine VS.iload dX7_pays_44 rfl ?_
    refine VS.callT (ct_X7_gets l _ _ h3) dX7_pays_46 mi_X7_gets im_X7_gets sel_X7_gets ml_X7_107 (by decide) rfl rfl (rmOk_D (by decide) (by decide)) (Nat.le_of_ble_eq_true rfl) rfl ?_
    exact VS.vret dX7_pays_49 rfl (fun k _ => congrArg (fun S => shW shM S k) (by simp only [up2, upC_upC, upC_at, rPays]))
  · refine VS.aload_n dX7_pays_13 rfl ?_
    refine VS.sgetR 6 dX7_pays_14 uw_X7 rfl (by decide) 0 rfl rfl (by decide) fl_X7_7 rfl ?_
    refine VS.bipush (8) dX7_pays_17 rfl ?_
    refine VS.iload_n dX7_pays_19 rfl ?_
    refine VS.iadd dX7_pays_20 ?_
    refine VS.siald (8 + f) dX7_pays_21 (by decide) rfl (ix_add) (by omega) (by decide) ?_
    refine VS.goto 26 dX7_pays_22 (by decide) ?_
    refine VS.val (y := rPaid (M 1) f c) (by first | exact (if_neg (Int32.not_lt.mpr h_10)).symm | exact (if_pos (Int32.not_le.mp h_10)).symm) ?_
    refine VS.istore dX7_pays_26 (by decide) rfl ?_
    refine VS.aload_n dX7_pays_28 rfl ?_
    refine VS.sgetR 6 dX7_pays_29 uw_X7 rfl (by decide) 0 rfl rfl (by decide) fl_X7_7 rfl ?_
    refine VS.bipush (8) dX7_pays_32 rfl ?_
    refine VS.iload_n dX7_pays_34 rfl ?_
    refine VS.iadd dX7_pays_35 ?_
    refine VS.dup2 dX7_pays_36 rfl rfl ?_
    refine VS.siald (8 + f) dX7_pays_37 (by decide) rfl (ix_add) (by omega) (by decide) ?_
    refine VS.iload dX7_pays_38 rfl ?_
    refine VS.isub dX7_pays_40 ?_
    refine VS.siast (8 + f) dX7_pays_41 (by decide) rfl (ix_add) (by omega) (by decide) ?_
    refine VS.aload_n dX7_pays_42 rfl ?_
    refine VS.iload_n dX7_pays_43 rfl ?_
    refine VS.iload dX7_pays_44 rfl ?_
    refine VS.callT (ct_X7_gets l _ _ h3) dX7_pays_46 mi_X7_gets im_X7_gets sel_X7_gets ml_X7_107 (by decide) rfl rfl (rmOk_D (by decide) (by decide)) (Nat.le_of_ble_eq_true rfl) rfl ?_
    exact VS.vret dX7_pays_49 rfl (fun k _ => congrArg (fun S => shW shM S k) (by simp only [up2, upC_upC, upC_at, rPays]))
set_option maxRecDepth 100000 in
set_option maxHeartbeats 4000000 in
theorem ct_X7_says (l : Launch) (M : SS) (a : Int32) (b : Int32) (is : Int32) {t : Nat} (ht : rem3 (M 1 7) = nI t) (h3 : t < 3) : CtS l yX7_says cX7_says 6 (some FieldType.int) (rmD 2) [.ref 0, .int a, .int b, .int is] 7 shM M (some (.int (rClaims (rSays (M 1) t (bitE a b) is) t))) (upC M 1 (rSays (M 1) t (bitE a b) is)) := by
  refine CtF.of (own := RX7) [some (.ref 0), some (.int a), some (.int b), some (.int is), none, none] (by decide +kernel) rfl (fun _ => Nat.le_of_ble_eq_true rfl) (fun _ => rfl) ?_
  refine VS.iconst (1) dX7_says_0 rfl ?_
  refine VS.iload_n dX7_says_1 rfl ?_
  refine VS.iload_n dX7_says_2 rfl ?_
  refine VS.callN (ct_X7_edge l _ _) dX7_says_3 mi_X7_edge st_X7_edge ml_X7_37 (rmOk_D (by decide) (by decide)) (Nat.le_of_ble_eq_true rfl) rfl ?_
  refine VS.ishl dX7_says_6 ?_
  refine VS.val (y := bitE a b) rfl ?_
  refine VS.istore dX7_says_7 (by decide) rfl ?_
  refine VS.aload_n dX7_says_9 rfl ?_
  refine VS.callT (ct_X7_turn l _) dX7_says_10 mi_X7_turn im_X7_turn sel_X7_turn ml_X7_87 (by decide) rfl rfl (rmOk_D (by decide) (by decide)) (Nat.le_of_ble_eq_true rfl) rfl ?_
  refine VS.val (y := nI t) ht ?_
  refine VS.istore dX7_says_13 (by decide) rfl ?_
  refine VS.aload_n dX7_says_15 rfl ?_
  refine VS.sgetR 6 dX7_says_16 uw_X7 rfl (by decide) 0 rfl rfl (by decide) fl_X7_7 rfl ?_
  refine VS.bipush (11) dX7_says_19 rfl ?_
  refine VS.iload dX7_says_21 rfl ?_
  refine VS.iadd dX7_says_23 ?_
  refine VS.iload_n dX7_says_24 rfl ?_
  refine VS.iconst (1) dX7_says_25 rfl ?_
  refine VS.icmp_ne 45 dX7_says_26 (by decide) (fun h_26 => ?_) (fun h_26 => ?_)
  · refine VS.aload_n dX7_says_45 rfl ?_
    refine VS.sgetR 6 dX7_says_46 uw_X7 rfl (by decide) 0 rfl rfl (by decide) fl_X7_7 rfl ?_
    refine VS.bipush (11) dX7_says_49 rfl ?_
    refine VS.iload dX7_says_51 rfl ?_
    refine VS.iadd dX7_says_53 ?_
    refine VS.siald (11 + t) dX7_says_54 (by decide) rfl (ix_add) (by omega) (by decide) ?_
    refine VS.iload dX7_says_55 rfl ?_
    refine VS.iconst (-1) dX7_says_57 rfl ?_
    refine VS.ixor dX7_says_58 ?_
    refine VS.iand dX7_says_59 ?_
    refine VS.siast (11 + t) dX7_says_60 (by decide) rfl (ix_add) (by omega) (by decide) ?_
    refine VS.stt (S2 := upC M 1 (rSays1 (M 1) t (bitE a b) is)) (by simp only [up2, rSays1]; first | rw [if_pos h_26] <;> rfl | rw [if_neg h_26] <;> rfl) ?_
    refine VS.aload_n dX7_says_61 rfl ?_
    refine VS.sgetR 6 dX7_says_62 uw_X7 rfl (by decide) 0 rfl rfl (by decide) fl_X7_7 rfl ?_
    refine VS.bipush (14) dX7_says_65 rfl ?_
    refine VS.iload dX7_says_67 rfl ?_
    refine VS.iadd dX7_says_69 ?_
    refine VS.iload_n dX7_says_70 rfl ?_
    refine VS.if_ne 90 dX7_says_71 (by decide) (fun h_71 => ?_) (fun h_71 => ?_)
    · refine VS.aload_n dX7_says_90 rfl ?_
      refine VS.sgetR 6 dX7_says_91 uw_X7 rfl (by decide) 0 rfl rfl (by decide) fl_X7_7 rfl ?_
      refine VS.bipush (14) dX7_says_94 rfl ?_
      refine VS.iload dX7_says_96 rfl ?_
      refine VS.iadd dX7_says_98 ?_
      refine VS.siald (14 + t) dX7_says_99 (by decide) rfl (ix_add) (by omega) (by decide) ?_
      refine VS.iload dX7_says_100 rfl ?_
      refine VS.iconst (-1) dX7_says_102 rfl ?_
      refine VS.ixor dX7_says_103 ?_
      refine VS.iand dX7_says_104 ?_
      refine VS.siast (14 + t) dX7_says_105 (by decide) rfl (ix_add) (by omega) (by decide) ?_
      refine VS.stt (S2 := upC M 1 (rSays2 (rSays1 (M 1) t (bitE a b) is) t (bitE a b) is)) (by simp only [up2, upC_upC, rSays2]; first | rw [if_pos h_71] <;> rfl | rw [if_neg h_71] <;> rfl) ?_
      refine VS.aload_n dX7_says_106 rfl ?_
      refine VS.callT (ct_X7_ends l _) dX7_says_107 mi_X7_ends im_X7_ends sel_X7_ends ml_X7_91 (by decide) rfl rfl (rmOk_D (by decide) (by decide)) (Nat.le_of_ble_eq_true rfl) rfl ?_
      refine VS.aload_n dX7_says_110 rfl ?_
      refine VS.iload dX7_says_111 rfl ?_
      refine VS.callT (ct_X7_claims l _ h3) dX7_says_113 mi_X7_claims im_X7_claims sel_X7_claims ml_X7_94 (by decide) rfl rfl (rmOk_D (by decide) (by decide)) (Nat.le_of_ble_eq_true rfl) rfl ?_
      exact VS.iret dX7_says_116 (by simp only [upC_at, rSays]) (fun k _ => congrArg (fun S => shW shM S k) (by simp only [upC_upC, upC_at, rSays]))
    · refine VS.aload_n dX7_says_74 rfl ?_
      refine VS.sgetR 6 dX7_says_75 uw_X7 rfl (by decide) 0 rfl rfl (by decide) fl_X7_7 rfl ?_
      refine VS.bipush (14) dX7_says_78 rfl ?_
      refine VS.iload dX7_says_80 rfl ?_
      refine VS.iadd dX7_says_82 ?_
      refine VS.siald (14 + t) dX7_says_83 (by decide) rfl (ix_add) (by omega) (by decide) ?_
      refine VS.iload dX7_says_84 rfl ?_
      refine VS.ior dX7_says_86 ?_
      refine VS.goto 105 dX7_says_87 (by decide) ?_
      refine VS.siast (14 + t) dX7_says_105 (by decide) rfl (ix_add) (by omega) (by decide) ?_
      refine VS.stt (S2 := upC M 1 (rSays2 (rSays1 (M 1) t (bitE a b) is) t (bitE a b) is)) (by simp only [up2, upC_upC, rSays2]; first | rw [if_pos h_71] <;> rfl | rw [if_neg h_71] <;> rfl) ?_
      refine VS.aload_n dX7_says_106 rfl ?_
      refine VS.callT (ct_X7_ends l _) dX7_says_107 mi_X7_ends im_X7_ends sel_X7_ends ml_X7_91 (by decide) rfl rfl (rmOk_D (by decide) (by decide)) (Nat.le_of_ble_eq_true rfl) rfl ?_
      refine VS.aload_n dX7_says_110 rfl ?_
      refine VS.iload dX7_says_111 rfl ?_
      refine VS.callT (ct_X7_claims l _ h3) dX7_says_113 mi_X7_claims im_X7_claims sel_X7_claims ml_X7_94 (by decide) rfl rfl (rmOk_D (by decide) (by decide)) (Nat.le_of_ble_eq_true rfl) rfl ?_
      exact VS.iret dX7_says_116 (by simp only [upC_at, rSays]) (fun k _ => congrArg (fun S => shW shM S k) (by simp only [upC_upC, upC_at, rSays]))
  · refine VS.aload_n dX7_says_29 rfl ?_
    refine VS.sgetR 6 dX7_says_30 uw_X7 rfl (by decide) 0 rfl rfl (by decide) fl_X7_7 rfl ?_
    refine VS.bipush (11) dX7_says_33 rfl ?_
    refine VS.iload dX7_says_35 rfl ?_
    refine VS.iadd dX7_says_37 ?_
    refine VS.siald (11 + t) dX7_says_38 (by decide) rfl (ix_add) (by omega) (by decide) ?_
    refine VS.iload dX7_says_39 rfl ?_
    refine VS.ior dX7_says_41 ?_
    refine VS.goto 60 dX7_says_42 (by decide) ?_
    refine VS.siast (11 + t) dX7_says_60 (by decide) rfl (ix_add) (by omega) (by decide) ?_
    refine VS.stt (S2 := upC M 1 (rSays1 (M 1) t (bitE a b) is)) (by simp only [up2, rSays1]; first | rw [if_pos h_26] <;> rfl | rw [if_neg h_26] <;> rfl) ?_
    refine VS.aload_n dX7_says_61 rfl ?_
    refine VS.sgetR 6 dX7_says_62 uw_X7 rfl (by decide) 0 rfl rfl (by decide) fl_X7_7 rfl ?_
    refine VS.bipush (14) dX7_says_65 rfl ?_
    refine VS.iload dX7_says_67 rfl ?_
    refine VS.iadd dX7_says_69 ?_
    refine VS.iload_n dX7_says_70 rfl ?_
    refine VS.if_ne 90 dX7_says_71 (by decide) (fun h_71 => ?_) (fun h_71 => ?_)
    · refine VS.aload_n dX7_says_90 rfl ?_
      refine VS.sgetR 6 dX7_says_91 uw_X7 rfl (by decide) 0 rfl rfl (by decide) fl_X7_7 rfl ?_
      refine VS.bipush (14) dX7_says_94 rfl ?_
      refine VS.iload dX7_says_96 rfl ?_
      refine VS.iadd dX7_says_98 ?_
      refine VS.siald (14 + t) dX7_says_99 (by decide) rfl (ix_add) (by omega) (by decide) ?_
      refine VS.iload dX7_says_100 rfl ?_
      refine VS.iconst (-1) dX7_says_102 rfl ?_
      refine VS.ixor dX7_says_103 ?_
      refine VS.iand dX7_says_104 ?_
      refine VS.siast (14 + t) dX7_says_105 (by decide) rfl (ix_add) (by omega) (by decide) ?_
      refine VS.stt (S2 := upC M 1 (rSays2 (rSays1 (M 1) t (bitE a b) is) t (bitE a b) is)) (by simp only [up2, upC_upC, rSays2]; first | rw [if_pos h_71] <;> rfl | rw [if_neg h_71] <;> rfl) ?_
      refine VS.aload_n dX7_says_106 rfl ?_
      refine VS.callT (ct_X7_ends l _) dX7_says_107 mi_X7_ends im_X7_ends sel_X7_ends ml_X7_91 (by decide) rfl rfl (rmOk_D (by decide) (by decide)) (Nat.le_of_ble_eq_true rfl) rfl ?_
      refine VS.aload_n dX7_says_110 rfl ?_
      refine VS.iload dX7_says_111 rfl ?_
      refine VS.callT (ct_X7_claims l _ h3) dX7_says_113 mi_X7_claims im_X7_claims sel_X7_claims ml_X7_94 (by decide) rfl rfl (rmOk_D (by decide) (by decide)) (Nat.le_of_ble_eq_true rfl) rfl ?_
      exact VS.iret dX7_says_116 (by simp only [upC_at, rSays]) (fun k _ => congrArg (fun S => shW shM S k) (by simp only [upC_upC, upC_at, rSays]))
    · refine VS.aload_n dX7_says_74 rfl ?_
      refine VS.sgetR 6 dX7_says_75 uw_X7 rfl (by decide) 0 rfl rfl (by decide) fl_X7_7 rfl ?_
      refine VS.bipush (14) dX7_says_78 rfl ?_
      refine VS.iload dX7_says_80 rfl ?_
      refine VS.iadd dX7_says_82 ?_
      refine VS.siald (14 + t) dX7_says_83 (by decide) rfl (ix_add) (by omega) (by decide) ?_
      refine VS.iload dX7_says_84 rfl ?_
      refine VS.ior dX7_says_86 ?_
      refine VS.goto 105 dX7_says_87 (by decide) ?_
      refine VS.siast (14 + t) dX7_says_105 (by decide) rfl (ix_add) (by omega) (by decide) ?_
      refine VS.stt (S2 := upC M 1 (rSays2 (rSays1 (M 1) t (bitE a b) is) t (bitE a b) is)) (by simp only [up2, upC_upC, rSays2]; first | rw [if_pos h_71] <;> rfl | rw [if_neg h_71] <;> rfl) ?_
      refine VS.aload_n dX7_says_106 rfl ?_
      refine VS.callT (ct_X7_ends l _) dX7_says_107 mi_X7_ends im_X7_ends sel_X7_ends ml_X7_91 (by decide) rfl rfl (rmOk_D (by decide) (by decide)) (Nat.le_of_ble_eq_true rfl) rfl ?_
      refine VS.aload_n dX7_says_110 rfl ?_
      refine VS.iload dX7_says_111 rfl ?_
      refine VS.callT (ct_X7_claims l _ h3) dX7_says_113 mi_X7_claims im_X7_claims sel_X7_claims ml_X7_94 (by decide) rfl rfl (rmOk_D (by decide) (by decide)) (Nat.le_of_ble_eq_true rfl) rfl ?_
      exact VS.iret dX7_says_116 (by simp only [upC_at, rSays]) (fun k _ => congrArg (fun S => shW shM S k) (by simp only [upC_upC, upC_at, rSays]))
end
section
/-! the reference: its loops over rows -/
def kI (M : SS) (rev : Int32) (i : Nat) : Int32 := itN (swp (M 1 0)) rev i
def kJ (M : SS) (rev : Int32) (i j : Nat) : Int32 := swJ (M 1 0) (kI M rev i) j
def FL0 (M : SS) (rev : Int32) (i : Nat) : Int32 := if i = 0 then 1 else if kI M rev i = kI M rev (i - 1) then 0 else 1
def swF (M : SS) (rev : Int32) (i j : Nat) : Int32 := if kJ M rev i j = kI M rev i then 0 else 1
def kn0 (M : SS) (k : Int32) : SS := upC M 0 (upd (upd (M 0) 7 k) 8 (k &&& M 1 0))
/-- behind follows: known and there -/
def rKn (s : Nat → Int32) (rev : Int32) : Int32 := if 0 < s 6 then KK (s 0) rev else 0
def rFol (M : SS) (rev : Int32) : SS := kn0 M (rKn (M 1) rev)
theorem FL0_0 {M : SS} {rev : Int32} {i : Nat} (hi : i ≤ 29) (h : FL0 M rev i = 0) : kI M rev i = KK (M 1 0) rev := by
  unfold FL0 at h
  by_cases h0 : i = 0
  · rw [if_pos h0] at h; exact absurd h (by decide)
  · rw [if_neg h0] at h
    by_cases h1 : kI M rev i = kI M rev (i - 1)
    · have h2 : itN (swp (M 1 0)) rev (i - 1 + 1) = itN (swp (M 1 0)) rev (i - 1) := by rw [show i - 1 + 1 = i by omega]; exact h1
      rw [h1]
      exact (itN_stop (n := 28) h2 (by omega)).symm
    · rw [if_neg h1] at h; exact absurd h (by decide)
theorem FL0_N (M : SS) (rev : Int32) : FL0 M rev 29 = 0 := (if_neg (by decide)).trans (if_pos (KK_stop _ _))
theorem kn0_put {M : SS} {k k2 o x : Int32} (h1 : k2 = k ||| o) (h2 : k2 &&& M 1 0 = (k &&& M 1 0) ||| x) : up2 (up2 (kn0 M k) 0 8 ((k &&& M 1 0) ||| x)) 0 7 (k ||| o) = kn0 M k2 := by
  unfold kn0 up2
  rw [upC_upC, upC_upC, upC_at, upC_at, ← h2, ← h1, upd_upd, upd_comm _ _ _ (by decide), upd_upd]
theorem kn0_two (M : SS) (k : Int32) : up2 (up2 M 0 7 k) 0 8 (k &&& M 1 0) = kn0 M k := by
  unfold kn0 up2
  rw [upC_upC, upC_at]
theorem kJ_same {M : SS} {rev : Int32} {i j : Nat} (h : folJ (M 1 0) (kJ M rev i j) j = 0) : kJ M rev i (j + 1) = kJ M rev i j := (congrArg (fun z => kJ M rev i j ||| z) h).trans Int32.or_zero
theorem swF_same {M : SS} {rev : Int32} {i j : Nat} (h : kJ M rev i (j + 1) = kJ M rev i j) : swF M rev i (j + 1) = swF M rev i j := by unfold swF; rw [h]
theorem kJ_on {M : SS} {rev : Int32} {i j : Nat} (h : folJ (M 1 0) (kJ M rev i j) j = k_at j &&& (kJ M rev i j ^^^ -1)) : kJ M rev i (j + 1) = kJ M rev i j ||| (k_at j &&& (kJ M rev i j ^^^ -1)) := congrArg (fun z => kJ M rev i j ||| z) h
theorem swF_on {M : SS} {rev : Int32} {i j : Nat} (h : folJ (M 1 0) (kJ M rev i j) j = k_at j &&& (kJ M rev i j ^^^ -1)) (h2 : ¬ k_at j &&& (kJ M rev i j ^^^ -1) = 0) : (1 : Int32) = swF M rev i (j + 1) := by
  unfold swF
  rw [kJ_on h]
  exact (if_neg (swJ_ne (r := M 1 0) (k := kI M rev i) h2)).symm
theorem hb1 {M : SS} (h : 0 < M 1 6) (rev : Int32) : kn0 M (KK (M 1 0) rev) = rFol M rev := by unfold rFol rKn; rw [if_pos h]
theorem hb0 {M : SS} (h : ¬ 0 < M 1 6) (rev : Int32) : kn0 M 0 = rFol M rev := by unfold rFol rKn; rw [if_neg h]

set_option maxRecDepth 100000 in
set_option maxHeartbeats 4000000 in
theorem ct_X7_follows (l : Launch) (M : SS) (rev : Int32) : CtS l yX7_follows cX7_follows 8 none (rmD 2) [.ref 0, .int rev] 7 shM M (none) (rFol M rev) := by
  refine CtF.of (own := RX7) [some (.ref 0), some (.int rev), none, none, none, none, none, none] (by decide +kernel) rfl (fun _ => Nat.le_of_ble_eq_true rfl) (fun _ => rfl) ?_
  by_cases hb : 0 < M 1 6
  · refine VS.aload_n dX7_follows_0 rfl ?_
    refine VS.aload_n dX7_follows_1 rfl ?_
    refine VS.callT (ct_X7_hasBegun l _) dX7_follows_2 mi_X7_hasBegun im_X7_hasBegun sel_X7_hasBegun ml_X7_41 (by decide) rfl rfl (rmOk_D (by decide) (by decide)) (Nat.le_of_ble_eq_true rfl) rfl ?_
    refine VS.val (y := 1) (if_pos hb) ?_
    refine VS.if_eq 12 dX7_follows_5 (by decide) (fun hh => absurd hh (by decide)) (fun _ => ?_)
    refine VS.iload_n dX7_follows_8 rfl ?_
    refine VS.goto 13 dX7_follows_9 (by decide) ?_
    refine VS.sput 6 dX7_follows_13 uw_X7 tyX7 tyX7_ok nmX7 rfl (by decide) 7 rfl rfl (by decide) fl_X7_45 rfl rfl (rfl) (rfl) ?_
    refine VS.aload_n dX7_follows_16 rfl ?_
    refine VS.aload_n dX7_follows_17 rfl ?_
    refine VS.sgetI 6 dX7_follows_18 uw_X7 rfl (by decide) 7 rfl rfl (by decide) fl_X7_45 rfl ?_
    refine VS.val (y := rev) rfl ?_
    refine VS.aload_n dX7_follows_21 rfl ?_
    refine VS.sgetR 6 dX7_follows_22 uw_X7 rfl (by decide) 0 rfl rfl (by decide) fl_X7_7 rfl ?_
    refine VS.iconst (0) dX7_follows_25 rfl ?_
    refine VS.siald (0) dX7_follows_26 (by decide) rfl (rfl) (by decide) (by decide) ?_
    refine VS.val (y := M 1 0) rfl ?_
    refine VS.iand dX7_follows_27 ?_
    refine VS.sput 6 dX7_follows_28 uw_X7 tyX7 tyX7_ok nmX7 rfl (by decide) 8 rfl rfl (by decide) fl_X7_48 rfl rfl (rfl) (rfl) ?_
    refine VS.stt (S2 := kn0 M rev) (kn0_two M rev) ?_
    refine VS.aload_n dX7_follows_31 rfl ?_
    refine VS.callT (ct_X7_hasBegun l _) dX7_follows_32 mi_X7_hasBegun im_X7_hasBegun sel_X7_hasBegun ml_X7_41 (by decide) rfl rfl (rmOk_D (by decide) (by decide)) (Nat.le_of_ble_eq_true rfl) rfl ?_
    refine VS.val (y := 1) (if_pos hb) ?_
    refine VS.istore_n dX7_follows_35 (by decide) rfl ?_
    refine VS.forS (i0 := 0) (29) (fun i => kn0 M (kI M rev i)) (fun i => [some (.ref 0), some (.int rev), some (.int (FL0 M rev i)), none, none, none, none, none]) (by decide) ?_ (fun i hi ih => ?_)
    · refine VS.iload_n dX7_follows_36 rfl ?_
      refine VS.if_eq 162 dX7_follows_37 (by decide) (fun _ => ?_) (fun hh => absurd (FL0_N _ _) hh)
      exact VS.vret dX7_follows_162 rfl (fun k _ => by rw [FL0_0 (by omega) (by first | exact FL0_N _ _ | exact h_37), hb1 hb])
    · refine VS.iload_n dX7_follows_36 rfl ?_
      refine VS.if_eq 162 dX7_follows_37 (by decide) (fun h_37 => ?_) (fun h_37 => ?_)
      · exact VS.vret dX7_follows_162 rfl (fun k _ => by rw [FL0_0 (by omega) (by first | exact FL0_N _ _ | exact h_37), hb1 hb])
      · refine VS.iconst (0) dX7_follows_40 rfl ?_
        refine VS.val (y := swF M rev i 0) (if_pos rfl).symm ?_
        refine VS.istore_n dX7_follows_41 (by decide) rfl ?_
        refine VS.iconst (0) dX7_follows_42 rfl ?_
        refine VS.istore_n dX7_follows_43 (by decide) rfl ?_
        refine VS.forS (i0 := 0) (8) (fun j => kn0 M (kJ M rev i j)) (fun j => [some (.ref 0), some (.int rev), some (.int (swF M rev i j)), some (.int (nI j)), none, none, none, none]) (by decide) ?_ (fun j hj jh => ?_)
        · refine VS.iload_n dX7_follows_44 rfl ?_
          refine VS.bipush (8) dX7_follows_45 rfl ?_
          refine VS.icmp_ge 159 dX7_follows_47 (by decide) (fun _ => ?_) (fun hh => absurd (by decide) hh)
          refine VS.goto 36 dX7_follows_159 (by decide) ?_
          exact VS.forget 3 (VS.forget 4 (VS.forget 5 (VS.forget 6 (VS.forget 7 ih))))
        · refine VS.iload_n dX7_follows_44 rfl ?_
          refine VS.bipush (8) dX7_follows_45 rfl ?_
          refine VS.icmp_ge 159 dX7_follows_47 (by decide) (fun hh => absurd hh (nge8 hj)) (fun _ => ?_)
          refine VS.iload_n dX7_follows_50 rfl ?_
          refine VS.callN (ct_X7_around l hj) dX7_follows_51 mi_X7_around st_X7_around ml_X7_51 (rmOk_D (by decide) (by decide)) (Nat.le_of_ble_eq_true rfl) rfl ?_
          refine VS.istore dX7_follows_54 (by decide) rfl ?_
          refine VS.iload dX7_follows_56 rfl ?_
          refine VS.aload_n dX7_follows_58 rfl ?_
          refine VS.sgetI 6 dX7_follows_59 uw_X7 rfl (by decide) 7 rfl rfl (by decide) fl_X7_45 rfl ?_
          refine VS.val (y := kJ M rev i j) rfl ?_
          refine VS.iconst (-1) dX7_follows_62 rfl ?_
          refine VS.ixor dX7_follows_63 ?_
          refine VS.iand dX7_follows_64 ?_
          refine VS.istore dX7_follows_65 (by decide) rfl ?_
          refine VS.iload dX7_follows_67 rfl ?_
          refine VS.aload_n dX7_follows_69 rfl ?_
          refine VS.sgetR 6 dX7_follows_70 uw_X7 rfl (by decide) 0 rfl rfl (by decide) fl_X7_7 rfl ?_
          refine VS.iconst (0) dX7_follows_73 rfl ?_
          refine VS.siald (0) dX7_follows_74 (by decide) rfl (rfl) (by decide) (by decide) ?_
          refine VS.val (y := M 1 0) rfl ?_
          refine VS.iand dX7_follows_75 ?_
          refine VS.callN (ct_X7_many l _) dX7_follows_76 mi_X7_many st_X7_many ml_X7_55 (rmOk_D (by decide) (by decide)) (Nat.le_of_ble_eq_true rfl) rfl ?_
          refine VS.istore dX7_follows_79 (by decide) rfl ?_
          refine VS.iload dX7_follows_81 rfl ?_
          refine VS.aload_n dX7_follows_83 rfl ?_
          refine VS.sgetI 6 dX7_follows_84 uw_X7 rfl (by decide) 8 rfl rfl (by decide) fl_X7_48 rfl ?_
          refine VS.val (y := kJ M rev i j &&& M 1 0) rfl ?_
          refine VS.iand dX7_follows_87 ?_
          refine VS.callN (ct_X7_many l _) dX7_follows_88 mi_X7_many st_X7_many ml_X7_55 (rmOk_D (by decide) (by decide)) (Nat.le_of_ble_eq_true rfl) rfl ?_
          refine VS.val (y := pcI (k_at j &&& M 1 0 &&& kJ M rev i j)) (by rw [fol_and]) ?_
          refine VS.istore dX7_follows_91 (by decide) rfl ?_
          refine VS.iload dX7_follows_93 rfl ?_
          refine VS.if_eq 153 dX7_follows_95 (by decide) (fun h_95 => ?_) (fun h_95 => ?_)
          · have e1 := kJ_same (fol_0 h_95)
            rw [e1, swF_same e1] at jh
            refine VS.iinc (nI (j + 1)) dX7_follows_153 rfl (by decide) ((nI_succ j).symm) rfl ?_
            refine VS.goto 44 dX7_follows_156 (by decide) ?_
            exact VS.forget 4 (VS.forget 5 (VS.forget 6 (VS.forget 7 jh)))
          · refine VS.iload dX7_follows_98 rfl ?_
            refine VS.iload dX7_follows_100 rfl ?_
            refine VS.icmp_eq 118 dX7_follows_102 (by decide) (fun h_102 => ?_) (fun h_102 => ?_)
            · refine VS.aload_n dX7_follows_118 rfl ?_
              refine VS.dup dX7_follows_119 rfl ?_
              refine VS.sgetI 6 dX7_follows_120 uw_X7 rfl (by decide) 8 rfl rfl (by decide) fl_X7_48 rfl ?_
              refine VS.val (y := kJ M rev i j &&& M 1 0) rfl ?_
              refine VS.iload dX7_follows_123 rfl ?_
              refine VS.iload dX7_follows_125 rfl ?_
              refine VS.icmp_ne 134 dX7_follows_127 (by decide) (fun hh => absurd (h_102) hh) (fun _ => ?_)
              refine VS.iconst (0) dX7_follows_130 rfl ?_
              refine VS.goto 136 dX7_follows_131 (by decide) ?_
              refine VS.ior dX7_follows_136 ?_
              refine VS.sput 6 dX7_follows_137 uw_X7 tyX7 tyX7_ok nmX7 rfl (by decide) 8 rfl rfl (by decide) fl_X7_48 rfl rfl (rfl) (rfl) ?_
              refine VS.aload_n dX7_follows_140 rfl ?_
              refine VS.dup dX7_follows_141 rfl ?_
              refine VS.sgetI 6 dX7_follows_142 uw_X7 rfl (by decide) 7 rfl rfl (by decide) fl_X7_45 rfl ?_
              refine VS.val (y := kJ M rev i j) rfl ?_
              refine VS.iload dX7_follows_145 rfl ?_
              refine VS.ior dX7_follows_147 ?_
              refine VS.sput 6 dX7_follows_148 uw_X7 tyX7 tyX7_ok nmX7 rfl (by decide) 7 rfl rfl (by decide) fl_X7_45 rfl rfl (rfl) (rfl) ?_
              refine VS.stt (S2 := kn0 M (kJ M rev i (j + 1))) (kn0_put (kJ_on (folJ_y h_102)) (by rw [kJ_on (folJ_y h_102)]; exact fol_t1 h_102)) ?_
              refine VS.iconst (1) dX7_follows_151 rfl ?_
              refine VS.val (y := swF M rev i (j + 1)) (swF_on (folJ_y h_102) h_95) ?_
              refine VS.istore_n dX7_follows_152 (by decide) rfl ?_
              refine VS.iinc (nI (j + 1)) dX7_follows_153 rfl (by decide) ((nI_succ j).symm) rfl ?_
              refine VS.goto 44 dX7_follows_156 (by decide) ?_
              exact VS.forget 4 (VS.forget 5 (VS.forget 6 (VS.forget 7 jh)))
            · refine VS.iload dX7_follows_105 rfl ?_
              refine VS.iload dX7_follows_107 rfl ?_
              refine VS.callN (ct_X7_many l _) dX7_follows_109 mi_X7_many st_X7_many ml_X7_55 (rmOk_D (by decide) (by decide)) (Nat.le_of_ble_eq_true rfl) rfl ?_
              refine VS.iadd dX7_follows_112 ?_
              refine VS.iload dX7_follows_113 rfl ?_
              refine VS.icmp_ne 153 dX7_follows_115 (by decide) (fun h_115 => ?_) (fun h_115 => ?_)
              · have e1 := kJ_same (folJ_n h_102 h_115)
                rw [e1, swF_same e1] at jh
                refine VS.iinc (nI (j + 1)) dX7_follows_153 rfl (by decide) ((nI_succ j).symm) rfl ?_
                refine VS.goto 44 dX7_follows_156 (by decide) ?_
                exact VS.forget 4 (VS.forget 5 (VS.forget 6 (VS.forget 7 jh)))
              · refine VS.aload_n dX7_follows_118 rfl ?_
                refine VS.dup dX7_follows_119 rfl ?_
                refine VS.sgetI 6 dX7_follows_120 uw_X7 rfl (by decide) 8 rfl rfl (by decide) fl_X7_48 rfl ?_
                refine VS.val (y := kJ M rev i j &&& M 1 0) rfl ?_
                refine VS.iload dX7_follows_123 rfl ?_
                refine VS.iload dX7_follows_125 rfl ?_
                refine VS.icmp_ne 134 dX7_follows_127 (by decide) (fun _ => ?_) (fun hh => absurd hh (h_102))
                refine VS.iload dX7_follows_134 rfl ?_
                refine VS.ior dX7_follows_136 ?_
                refine VS.sput 6 dX7_follows_137 uw_X7 tyX7 tyX7_ok nmX7 rfl (by decide) 8 rfl rfl (by decide) fl_X7_48 rfl rfl (rfl) (rfl) ?_
                refine VS.aload_n dX7_follows_140 rfl ?_
                refine VS.dup dX7_follows_141 rfl ?_
                refine VS.sgetI 6 dX7_follows_142 uw_X7 rfl (by decide) 7 rfl rfl (by decide) fl_X7_45 rfl ?_
                refine VS.val (y := kJ M rev i j) rfl ?_
                refine VS.iload dX7_follows_145 rfl ?_
                refine VS.ior dX7_follows_147 ?_
                refine VS.sput 6 dX7_follows_148 uw_X7 tyX7 tyX7_ok nmX7 rfl (by decide) 7 rfl rfl (by decide) fl_X7_45 rfl rfl (rfl) (rfl) ?_
                refine VS.stt (S2 := kn0 M (kJ M rev i (j + 1))) (kn0_put (kJ_on (folJ_z h_115)) (by rw [kJ_on (folJ_z h_115)]; exact fol_t2 h_115)) ?_
                refine VS.iconst (1) dX7_follows_151 rfl ?_
                refine VS.val (y := swF M rev i (j + 1)) (swF_on (folJ_z h_115) h_95) ?_
                refine VS.istore_n dX7_follows_152 (by decide) rfl ?_
                refine VS.iinc (nI (j + 1)) dX7_follows_153 rfl (by decide) ((nI_succ j).symm) rfl ?_
                refine VS.goto 44 dX7_follows_156 (by decide) ?_
                exact VS.forget 4 (VS.forget 5 (VS.forget 6 (VS.forget 7 jh)))
  · refine VS.aload_n dX7_follows_0 rfl ?_
    refine VS.aload_n dX7_follows_1 rfl ?_
    refine VS.callT (ct_X7_hasBegun l _) dX7_follows_2 mi_X7_hasBegun im_X7_hasBegun sel_X7_hasBegun ml_X7_41 (by decide) rfl rfl (rmOk_D (by decide) (by decide)) (Nat.le_of_ble_eq_true rfl) rfl ?_
    refine VS.val (y := 0) (if_neg hb) ?_
    refine VS.if_eq 12 dX7_follows_5 (by decide) (fun _ => ?_) (fun hh => absurd (by decide) hh)
    refine VS.iconst (0) dX7_follows_12 rfl ?_
    refine VS.sput 6 dX7_follows_13 uw_X7 tyX7 tyX7_ok nmX7 rfl (by decide) 7 rfl rfl (by decide) fl_X7_45 rfl rfl (rfl) (rfl) ?_
    refine VS.aload_n dX7_follows_16 rfl ?_
    refine VS.aload_n dX7_follows_17 rfl ?_
    refine VS.sgetI 6 dX7_follows_18 uw_X7 rfl (by decide) 7 rfl rfl (by decide) fl_X7_45 rfl ?_
    refine VS.val (y := 0) rfl ?_
    refine VS.aload_n dX7_follows_21 rfl ?_
    refine VS.sgetR 6 dX7_follows_22 uw_X7 rfl (by decide) 0 rfl rfl (by decide) fl_X7_7 rfl ?_
    refine VS.iconst (0) dX7_follows_25 rfl ?_
    refine VS.siald (0) dX7_follows_26 (by decide) rfl (rfl) (by decide) (by decide) ?_
    refine VS.val (y := M 1 0) rfl ?_
    refine VS.iand dX7_follows_27 ?_
    refine VS.sput 6 dX7_follows_28 uw_X7 tyX7 tyX7_ok nmX7 rfl (by decide) 8 rfl rfl (by decide) fl_X7_48 rfl rfl (rfl) (rfl) ?_
    refine VS.stt (S2 := kn0 M 0) (kn0_two M 0) ?_
    refine VS.aload_n dX7_follows_31 rfl ?_
    refine VS.callT (ct_X7_hasBegun l _) dX7_follows_32 mi_X7_hasBegun im_X7_hasBegun sel_X7_hasBegun ml_X7_41 (by decide) rfl rfl (rmOk_D (by decide) (by decide)) (Nat.le_of_ble_eq_true rfl) rfl ?_
    refine VS.val (y := 0) (if_neg hb) ?_
    refine VS.istore_n dX7_follows_35 (by decide) rfl ?_
    refine VS.iload_n dX7_follows_36 rfl ?_
    refine VS.if_eq 162 dX7_follows_37 (by decide) (fun _ => ?_) (fun hh => absurd (rfl) hh)
    exact VS.vret dX7_follows_162 rfl (fun k _ => by rw [hb0 hb])
theorem upC_self {S : SS} {c : Nat} {f : Nat → Int32} (h : f = S c) : upC S c f = S := by rw [h, upC_id]
/-- the states kept, behind one more -/
def rRecP (M : SS) (p : Nat) : Nat → Int32 := if p = 6 then putR (putR (M 2) (fun k => M 2 (182 + k)) 0 910) (M 1) 910 182 else putR (M 2) (M 1) (182 * p) 182
def rRec (M : SS) (p : Nat) : SS := upC (upC M 2 (rRecP M p)) 0 (upd (M 0) 2 (nI (if p = 6 then 6 else p + 1)))
theorem nge910 {i : Nat} (h : i < 910) : ¬ (910 : Int32) ≤ nI i := nI_ge (b := 910) h (by decide)
theorem nge182 {i : Nat} (h : i < 182) : ¬ (182 : Int32) ≤ nI i := nI_ge (b := 182) h (by decide)
theorem rec_fin6 {M : SS} {z : Int32} (hz : z = nI 5 + 1) : up2 (upC (upC (upC M 2 (putR (M 2) (fun k => M 2 (182 + k)) 0 910)) 0 (upd (M 0) 2 (nI 5))) 2 (putR (putR (M 2) (fun k => M 2 (182 + k)) 0 910) (M 1) 910 182)) 0 2 z = rRec M 6 := by
  subst hz
  unfold rRec rRecP up2
  rw [if_pos rfl, if_pos rfl, upC_ne (by decide), upC_at, upd_upd, upC_comm _ _ _ (by decide : (0 : Nat) ≠ 2), upC_upC, upC_upC]
  rfl
theorem rec_fin {M : SS} {p : Nat} {z : Int32} (hn : ¬ p = 6) (hz : z = nI p + 1) : up2 (upC M 2 (putR (M 2) (M 1) (182 * p) 182)) 0 2 z = rRec M p := by
  subst hz
  unfold rRec rRecP up2
  rw [if_neg hn, if_neg hn, upC_ne (by decide), ← nI_succ]
theorem mul182 {p i : Nat} : (182 : Int32) * nI p + nI i = nI (182 * p + i) := by
  rw [show (182 : Int32) = nI 182 from rfl, pk_mul, nI_add]
set_option maxRecDepth 100000 in
set_option maxHeartbeats 4000000 in
theorem ct_X7_records (l : Launch) (M : SS)  {p : Nat} (hp : M 0 2 = nI p) (h6 : p ≤ 6) : CtS l yX7_records cX7_records 2 none (rmD 0) [.ref 0] 7 shM M (none) (rRec M p) := by
  refine CtF.of (own := RX7) [some (.ref 0), none] (by decide +kernel) rfl (fun _ => Nat.le_of_ble_eq_true rfl) (fun _ => rfl) ?_
  by_cases hn : p = 6
  · subst hn
    refine VS.aload_n dX7_records_0 rfl ?_
    refine VS.sgetI 6 dX7_records_1 uw_X7 rfl (by decide) 2 rfl rfl (by decide) fl_X7_33 rfl ?_
    refine VS.val (y := nI 6) hp ?_
    refine VS.bipush (6) dX7_records_4 rfl ?_
    refine VS.icmp_ne 50 dX7_records_6 (by decide) (fun hh => absurd (rfl) hh) (fun _ => ?_)
    refine VS.iconst (0) dX7_records_9 rfl ?_
    refine VS.istore_n dX7_records_10 (by decide) rfl ?_
    refine VS.stt (S2 := upC M 2 (putR (M 2) (fun k => M 2 (182 + k)) 0 0)) (upC_self (by rw [putR_0])).symm ?_
    refine VS.forS (i0 := 0) (910) (fun i => upC M 2 (putR (M 2) (fun k => M 2 (182 + k)) 0 i)) (fun i => [some (.ref 0), some (.int (nI i))]) (by decide) ?_ (fun i hi ih => ?_)
    · refine VS.iload_n dX7_records_11 rfl ?_
      refine VS.sipush (910) dX7_records_12 rfl ?_
      refine VS.icmp_ge 40 dX7_records_15 (by decide) (fun _ => ?_) (fun hh => absurd (by decide) hh)
      refine VS.aload_n dX7_records_40 rfl ?_
      refine VS.dup dX7_records_41 rfl ?_
      refine VS.sgetI 6 dX7_records_42 uw_X7 rfl (by decide) 2 rfl rfl (by decide) fl_X7_33 rfl ?_
      refine VS.val (y := nI 6) hp ?_
      refine VS.iconst (1) dX7_records_45 rfl ?_
      refine VS.isub dX7_records_46 ?_
      refine VS.sput 6 dX7_records_47 uw_X7 tyX7 tyX7_ok nmX7 rfl (by decide) 2 rfl rfl (by decide) fl_X7_33 rfl rfl (rfl) (rfl) ?_
      refine VS.stt (S2 := upC (upC M 2 (putR (M 2) (fun k => M 2 (182 + k)) 0 910)) 0 (upd (M 0) 2 (nI 5))) rfl ?_
      refine VS.iconst (0) dX7_records_50 rfl ?_
      refine VS.istore_n dX7_records_51 (by decide) rfl ?_
      refine VS.stt (S2 := upC (upC (upC M 2 (putR (M 2) (fun k => M 2 (182 + k)) 0 910)) 0 (upd (M 0) 2 (nI 5))) 2 (putR (putR (M 2) (fun k => M 2 (182 + k)) 0 910) (M 1) 910 0)) (upC_self (by rw [putR_0]; rfl)).symm ?_
      refine VS.forS (i0 := 0) (182) (fun i => upC (upC (upC M 2 (putR (M 2) (fun k => M 2 (182 + k)) 0 910)) 0 (upd (M 0) 2 (nI 5))) 2 (putR (putR (M 2) (fun k => M 2 (182 + k)) 0 910) (M 1) 910 i)) (fun i => [some (.ref 0), some (.int (nI i))]) (by decide) ?_ (fun i hi ih => ?_)
      · refine VS.iload_n dX7_records_52 rfl ?_
        refine VS.sipush (182) dX7_records_53 rfl ?_
        refine VS.icmp_ge 86 dX7_records_56 (by decide) (fun _ => ?_) (fun hh => absurd (by decide) hh)
        refine VS.aload_n dX7_records_86 rfl ?_
        refine VS.dup dX7_records_87 rfl ?_
        refine VS.sgetI 6 dX7_records_88 uw_X7 rfl (by decide) 2 rfl rfl (by decide) fl_X7_33 rfl ?_
        refine VS.val (y := nI 5) rfl ?_
        refine VS.iconst (1) dX7_records_91 rfl ?_
        refine VS.iadd dX7_records_92 ?_
        refine VS.sput 6 dX7_records_93 uw_X7 tyX7 tyX7_ok nmX7 rfl (by decide) 2 rfl rfl (by decide) fl_X7_33 rfl rfl (rfl) (rfl) ?_
        exact VS.vret dX7_records_96 rfl (fun k _ => congrArg (fun S => shW shM S k) (by exact rec_fin6 rfl))
      · refine VS.iload_n dX7_records_52 rfl ?_
        refine VS.sipush (182) dX7_records_53 rfl ?_
        refine VS.icmp_ge 86 dX7_records_56 (by decide) (fun hh => absurd hh (nge182 hi)) (fun _ => ?_)
        refine VS.aload_n dX7_records_59 rfl ?_
        refine VS.sgetR 6 dX7_records_60 uw_X7 rfl (by decide) 1 rfl rfl (by decide) fl_X7_13 rfl ?_
        refine VS.sipush (182) dX7_records_63 rfl ?_
        refine VS.aload_n dX7_records_66 rfl ?_
        refine VS.sgetI 6 dX7_records_67 uw_X7 rfl (by decide) 2 rfl rfl (by decide) fl_X7_33 rfl ?_
        refine VS.val (y := nI 5) rfl ?_
        refine VS.imul dX7_records_70 ?_
        refine VS.iload_n dX7_records_71 rfl ?_
        refine VS.iadd dX7_records_72 ?_
        refine VS.aload_n dX7_records_73 rfl ?_
        refine VS.sgetR 6 dX7_records_74 uw_X7 rfl (by decide) 0 rfl rfl (by decide) fl_X7_7 rfl ?_
        refine VS.iload_n dX7_records_77 rfl ?_
        refine VS.siald (i) dX7_records_78 (by decide) rfl (rfl) (by omega) (by decide) ?_
        refine VS.val (y := M 1 i) rfl ?_
        refine VS.siast (910 + i) dX7_records_79 (by decide) rfl (mul182 (p := 5)) (by omega) (by decide) ?_
        refine VS.stt (S2 := upC (upC (upC M 2 (putR (M 2) (fun k => M 2 (182 + k)) 0 910)) 0 (upd (M 0) 2 (nI 5))) 2 (putR (putR (M 2) (fun k => M 2 (182 + k)) 0 910) (M 1) 910 (i + 1))) (by rw [up2, upC_upC, upC_at]; exact congrArg (upC _ 2) (putR_s _ _ _ i)) ?_
        refine VS.iinc (nI (i + 1)) dX7_records_80 rfl (by decide) ((nI_succ i).symm) rfl ?_
        refine VS.goto 52 dX7_records_83 (by decide) ?_
        exact ih
    · refine VS.iload_n dX7_records_11 rfl ?_
      refine VS.sipush (910) dX7_records_12 rfl ?_
      refine VS.icmp_ge 40 dX7_records_15 (by decide) (fun hh => absurd hh (nge910 hi)) (fun _ => ?_)
      refine VS.aload_n dX7_records_18 rfl ?_
      refine VS.sgetR 6 dX7_records_19 uw_X7 rfl (by decide) 1 rfl rfl (by decide) fl_X7_13 rfl ?_
      refine VS.iload_n dX7_records_22 rfl ?_
      refine VS.aload_n dX7_records_23 rfl ?_
      refine VS.sgetR 6 dX7_records_24 uw_X7 rfl (by decide) 1 rfl rfl (by decide) fl_X7_13 rfl ?_
      refine VS.sipush (182) dX7_records_27 rfl ?_
      refine VS.iload_n dX7_records_30 rfl ?_
      refine VS.iadd dX7_records_31 ?_
      refine VS.siald (182 + i) dX7_records_32 (by decide) rfl (ix_add) (by omega) (by decide) ?_
      refine VS.val (y := M 2 (182 + i)) (by rw [upC_at, putR_out (by omega)]) ?_
      refine VS.siast (i) dX7_records_33 (by decide) rfl (rfl) (by omega) (by decide) ?_
      refine VS.stt (S2 := upC M 2 (putR (M 2) (fun k => M 2 (182 + k)) 0 (i + 1))) (by rw [up2, upC_upC, upC_at, ← putR_s, Nat.zero_add]) ?_
      refine VS.iinc (nI (i + 1)) dX7_records_34 rfl (by decide) ((nI_succ i).symm) rfl ?_
      refine VS.goto 11 dX7_records_37 (by decide) ?_
      exact ih
  · refine VS.aload_n dX7_records_0 rfl ?_
    refine VS.sgetI 6 dX7_records_1 uw_X7 rfl (by decide) 2 rfl rfl (by decide) fl_X7_33 rfl ?_
    refine VS.val (y := nI p) hp ?_
    refine VS.bipush (6) dX7_records_4 rfl ?_
    refine VS.icmp_ne 50 dX7_records_6 (by decide) (fun _ => ?_) (fun hh => absurd hh (fun q => hn ((nI_eq (by omega) (by decide)).mp (show nI p = nI 6 from q))))
    refine VS.iconst (0) dX7_records_50 rfl ?_
    refine VS.istore_n dX7_records_51 (by decide) rfl ?_
    refine VS.stt (S2 := upC (M) 2 (putR (M 2) (M 1) (182 * p) 0)) (upC_self (by rw [putR_0])).symm ?_
    refine VS.forS (i0 := 0) (182) (fun i => upC (M) 2 (putR (M 2) (M 1) (182 * p) i)) (fun i => [some (.ref 0), some (.int (nI i))]) (by decide) ?_ (fun i hi ih => ?_)
    · refine VS.iload_n dX7_records_52 rfl ?_
      refine VS.sipush (182) dX7_records_53 rfl ?_
      refine VS.icmp_ge 86 dX7_records_56 (by decide) (fun _ => ?_) (fun hh => absurd (by decide) hh)
      refine VS.aload_n dX7_records_86 rfl ?_
      refine VS.dup dX7_records_87 rfl ?_
      refine VS.sgetI 6 dX7_records_88 uw_X7 rfl (by decide) 2 rfl rfl (by decide) fl_X7_33 rfl ?_
      refine VS.val (y := nI p) hp ?_
      refine VS.iconst (1) dX7_records_91 rfl ?_
      refine VS.iadd dX7_records_92 ?_
      refine VS.sput 6 dX7_records_93 uw_X7 tyX7 tyX7_ok nmX7 rfl (by decide) 2 rfl rfl (by decide) fl_X7_33 rfl rfl (rfl) (rfl) ?_
      exact VS.vret dX7_records_96 rfl (fun k _ => congrArg (fun S => shW shM S k) (by exact rec_fin hn rfl))
    · refine VS.iload_n dX7_records_52 rfl ?_
      refine VS.sipush (182) dX7_records_53 rfl ?_
      refine VS.icmp_ge 86 dX7_records_56 (by decide) (fun hh => absurd hh (nge182 hi)) (fun _ => ?_)
      refine VS.aload_n dX7_records_59 rfl ?_
      refine VS.sgetR 6 dX7_records_60 uw_X7 rfl (by decide) 1 rfl rfl (by decide) fl_X7_13 rfl ?_
      refine VS.sipush (182) dX7_records_63 rfl ?_
      refine VS.aload_n dX7_records_66 rfl ?_
      refine VS.sgetI 6 dX7_records_67 uw_X7 rfl (by decide) 2 rfl rfl (by decide) fl_X7_33 rfl ?_
      refine VS.val (y := nI p) hp ?_
      refine VS.imul dX7_records_70 ?_
      refine VS.iload_n dX7_records_71 rfl ?_
      refine VS.iadd dX7_records_72 ?_
      refine VS.aload_n dX7_records_73 rfl ?_
      refine VS.sgetR 6 dX7_records_74 uw_X7 rfl (by decide) 0 rfl rfl (by decide) fl_X7_7 rfl ?_
      refine VS.iload_n dX7_records_77 rfl ?_
      refine VS.siald (i) dX7_records_78 (by decide) rfl (rfl) (by omega) (by decide) ?_
      refine VS.val (y := M 1 i) rfl ?_
      refine VS.siast (182 * p + i) dX7_records_79 (by decide) rfl (mul182) (by omega) (by decide) ?_
      refine VS.stt (S2 := upC (M) 2 (putR (M 2) (M 1) (182 * p) (i + 1))) (by rw [up2, upC_upC, upC_at]; exact congrArg (upC _ 2) (putR_s _ _ _ i)) ?_
      refine VS.iinc (nI (i + 1)) dX7_records_80 rfl (by decide) ((nI_succ i).symm) rfl ?_
      refine VS.goto 52 dX7_records_83 (by decide) ?_
      exact ih
end
section
/-! the reference: distances, questions -/
def iF (f : Nat) (F : Nat → Int32) : Nat → (Nat → Int32)
  | 0 => F
  | j + 1 => upd (iF f F j) j (if j = f then 0 else 99)
def rlx (r : Int32) (a b : Nat) (F : Nat → Int32) : Nat → Int32 := upd F b (if (a ≠ b ∧ sb r (eI (nI a) (nI b)) = 1 ∧ F a < 99) ∧ F a + 1 < F b then F a + 1 else F b)
def mB (r : Int32) (a : Nat) (F : Nat → Int32) : Nat → (Nat → Int32)
  | 0 => F
  | b + 1 => rlx r a b (mB r a F b)
def mA (r : Int32) (F : Nat → Int32) : Nat → (Nat → Int32)
  | 0 => F
  | a + 1 => mB r a (mA r F a) 8
def mR (r : Int32) (F : Nat → Int32) : Nat → (Nat → Int32)
  | 0 => F
  | k + 1 => mA r (mR r F k) 8
/-- how far all places are -/
def md (r : Int32) (f : Nat) (F : Nat → Int32) : Nat → Int32 := mR r (iF f F 8) 8
def mdS (M : SS) (f : Nat) (F : Nat → Int32) : SS := upC M 6 F
theorem iF_y {f : Nat} {F : Nat → Int32} {i : Nat} (h : i = f) : iF f F (i + 1) = upd (iF f F i) i 0 := congrArg (upd (iF f F i) i) (if_pos h)
theorem iF_n {f : Nat} {F : Nat → Int32} {i : Nat} (h : ¬ i = f) : iF f F (i + 1) = upd (iF f F i) i 99 := congrArg (upd (iF f F i) i) (if_neg h)
theorem rlx_n {r : Int32} {a b : Nat} {F : Nat → Int32} (h : ¬ ((a ≠ b ∧ sb r (eI (nI a) (nI b)) = 1 ∧ F a < 99) ∧ F a + 1 < F b)) : rlx r a b F = upd F b (F b) := congrArg (upd F b) (if_neg h)
theorem rlx_y {r : Int32} {a b : Nat} {F : Nat → Int32} (h : (a ≠ b ∧ sb r (eI (nI a) (nI b)) = 1 ∧ F a < 99) ∧ F a + 1 < F b) : rlx r a b F = upd F b (F a + 1) := congrArg (upd F b) (if_pos h)
theorem nIn {i p : Nat} (hi : i < 8) (hp : p < 8) (h : ¬ nI i = nI p) : i ≠ p := fun q => h (by rw [q])

set_option maxRecDepth 100000 in
set_option maxHeartbeats 4000000 in
theorem ct_X7_measures (l : Launch) (M : SS) (r : Int32) {f : Nat} (hf : f < 8) : CtS l yX7_measures cX7_measures 7 none (rmD 1) [.ref 0, .int (nI f), .int r] 7 shM M (none) (upC M 6 (md r f (M 6))) := by
  refine CtF.of (own := RX7) [some (.ref 0), some (.int (nI f)), some (.int r), none, none, none, none] (by decide +kernel) rfl (fun _ => Nat.le_of_ble_eq_true rfl) (fun _ => rfl) ?_
  refine VS.iconst (0) dX7_measures_0 rfl ?_
  refine VS.istore_n dX7_measures_1 (by decide) rfl ?_
  refine VS.stt (S2 := upC M 6 (iF f (M 6) 0)) (upC_id M 6).symm ?_
  refine VS.forS (i0 := 0) (8) (fun i => upC M 6 (iF f (M 6) i)) (fun i => [some (.ref 0), some (.int (nI f)), some (.int r), some (.int (nI i)), none, none, none]) (by decide) ?_ (fun i hi ih => ?_)
  · refine VS.iload_n dX7_measures_2 rfl ?_
    refine VS.bipush (8) dX7_measures_3 rfl ?_
    refine VS.icmp_ge 31 dX7_measures_5 (by decide) (fun _ => ?_) (fun hh => absurd (by decide) hh)
    refine VS.iconst (0) dX7_measures_31 rfl ?_
    refine VS.istore_n dX7_measures_32 (by decide) rfl ?_
    refine VS.forS (i0 := 0) (8) (fun k => upC M 6 (mR r (iF f (M 6) 8) k)) (fun k => [some (.ref 0), some (.int (nI f)), some (.int r), some (.int (nI k)), none, none, none]) (by decide) ?_ (fun k hk ik => ?_)
    · refine VS.iload_n dX7_measures_33 rfl ?_
      refine VS.bipush (8) dX7_measures_34 rfl ?_
      refine VS.icmp_ge 168 dX7_measures_36 (by decide) (fun _ => ?_) (fun hh => absurd (by decide) hh)
      exact VS.vret dX7_measures_168 rfl (fun k _ => rfl)
    · refine VS.iload_n dX7_measures_33 rfl ?_
      refine VS.bipush (8) dX7_measures_34 rfl ?_
      refine VS.icmp_ge 168 dX7_measures_36 (by decide) (fun hh => absurd hh (nge8 hk)) (fun _ => ?_)
      refine VS.iconst (0) dX7_measures_39 rfl ?_
      refine VS.istore dX7_measures_40 (by decide) rfl ?_
      refine VS.forS (i0 := 0) (8) (fun a => upC M 6 (mA r (mR r (iF f (M 6) 8) k) a)) (fun a => [some (.ref 0), some (.int (nI f)), some (.int r), some (.int (nI k)), some (.int (nI a)), none, none]) (by decide) ?_ (fun a ha ia => ?_)
      · refine VS.iload dX7_measures_42 rfl ?_
        refine VS.bipush (8) dX7_measures_44 rfl ?_
        refine VS.icmp_ge 162 dX7_measures_46 (by decide) (fun _ => ?_) (fun hh => absurd (by decide) hh)
        refine VS.iinc (nI (k + 1)) dX7_measures_162 rfl (by decide) ((nI_succ k).symm) rfl ?_
        refine VS.goto 33 dX7_measures_165 (by decide) ?_
        exact VS.forget 4 ik
      · refine VS.iload dX7_measures_42 rfl ?_
        refine VS.bipush (8) dX7_measures_44 rfl ?_
        refine VS.icmp_ge 162 dX7_measures_46 (by decide) (fun hh => absurd hh (nge8 ha)) (fun _ => ?_)
        refine VS.iconst (0) dX7_measures_49 rfl ?_
        refine VS.istore dX7_measures_50 (by decide) rfl ?_
        refine VS.forS (i0 := 0) (8) (fun b => upC M 6 (mB r a (mA r (mR r (iF f (M 6) 8) k) a) b)) (fun b => [some (.ref 0), some (.int (nI f)), some (.int r), some (.int (nI k)), some (.int (nI a)), some (.int (nI b)), none]) (by decide) ?_ (fun b hb2 ib => ?_)
        · refine VS.iload dX7_measures_52 rfl ?_
          refine VS.bipush (8) dX7_measures_54 rfl ?_
          refine VS.icmp_ge 156 dX7_measures_56 (by decide) (fun _ => ?_) (fun hh => absurd (by decide) hh)
          refine VS.iinc (nI (a + 1)) dX7_measures_156 rfl (by decide) ((nI_succ a).symm) rfl ?_
          refine VS.goto 42 dX7_measures_159 (by decide) ?_
          exact VS.forget 5 (VS.forget 6 ia)
        · refine VS.iload dX7_measures_52 rfl ?_
          refine VS.bipush (8) dX7_measures_54 rfl ?_
          refine VS.icmp_ge 156 dX7_measures_56 (by decide) (fun hh => absurd hh (nge8 hb2)) (fun _ => ?_)
          refine VS.iload dX7_measures_59 rfl ?_
          refine VS.iload dX7_measures_61 rfl ?_
          refine VS.icmp_eq 97 dX7_measures_63 (by decide) (fun h_63 => ?_) (fun h_63 => ?_)
          · refine VS.iconst (0) dX7_measures_97 rfl ?_
            refine VS.istore dX7_measures_98 (by decide) rfl ?_
            refine VS.aload_n dX7_measures_100 rfl ?_
            refine VS.sgetR 6 dX7_measures_101 uw_X7 rfl (by decide) 9 rfl rfl (by decide) fl_X7_26 rfl ?_
            refine VS.iload dX7_measures_104 rfl ?_
            refine VS.iload dX7_measures_106 rfl ?_
            refine VS.if_eq 142 dX7_measures_108 (by decide) (fun _ => ?_) (fun hh => absurd (rfl) hh)
            refine VS.aload_n dX7_measures_142 rfl ?_
            refine VS.sgetR 6 dX7_measures_143 uw_X7 rfl (by decide) 9 rfl rfl (by decide) fl_X7_26 rfl ?_
            refine VS.iload dX7_measures_146 rfl ?_
            refine VS.siald (b) dX7_measures_148 (by decide) rfl (rfl) (hb2) (by decide) ?_
            refine VS.val (y := (mB r a (mA r (mR r (iF f (M 6) 8) k) a) b) b) rfl ?_
            refine VS.siast (b) dX7_measures_149 (by decide) rfl (rfl) (hb2) (by decide) ?_
            refine VS.stt (S2 := upC M 6 (mB r a (mA r (mR r (iF f (M 6) 8) k) a) (b + 1))) ((by rw [up2, upC_upC, upC_at]; exact congrArg (upC M 6) (rlx_n (fun q => q.1.1 (nIj ha hb2 h_63))).symm)) ?_
            refine VS.iinc (nI (b + 1)) dX7_measures_150 rfl (by decide) ((nI_succ b).symm) rfl ?_
            refine VS.goto 52 dX7_measures_153 (by decide) ?_
            exact VS.forget 6 ib
          · refine VS.iload_n dX7_measures_66 rfl ?_
            refine VS.iload dX7_measures_67 rfl ?_
            refine VS.iload dX7_measures_69 rfl ?_
            refine VS.callN (ct_X7_edge l _ _) dX7_measures_71 mi_X7_edge st_X7_edge ml_X7_37 (rmOk_D (by decide) (by decide)) (Nat.le_of_ble_eq_true rfl) rfl ?_
            refine VS.ishr dX7_measures_74 ?_
            refine VS.iconst (1) dX7_measures_75 rfl ?_
            refine VS.iand dX7_measures_76 ?_
            refine VS.val (y := sb r (eI (nI a) (nI b))) rfl ?_
            refine VS.iconst (1) dX7_measures_77 rfl ?_
            refine VS.icmp_ne 97 dX7_measures_78 (by decide) (fun h_78 => ?_) (fun h_78 => ?_)
            · refine VS.iconst (0) dX7_measures_97 rfl ?_
              refine VS.istore dX7_measures_98 (by decide) rfl ?_
              refine VS.aload_n dX7_measures_100 rfl ?_
              refine VS.sgetR 6 dX7_measures_101 uw_X7 rfl (by decide) 9 rfl rfl (by decide) fl_X7_26 rfl ?_
              refine VS.iload dX7_measures_104 rfl ?_
              refine VS.iload dX7_measures_106 rfl ?_
              refine VS.if_eq 142 dX7_measures_108 (by decide) (fun _ => ?_) (fun hh => absurd (rfl) hh)
              refine VS.aload_n dX7_measures_142 rfl ?_
              refine VS.sgetR 6 dX7_measures_143 uw_X7 rfl (by decide) 9 rfl rfl (by decide) fl_X7_26 rfl ?_
              refine VS.iload dX7_measures_146 rfl ?_
              refine VS.siald (b) dX7_measures_148 (by decide) rfl (rfl) (hb2) (by decide) ?_
              refine VS.val (y := (mB r a (mA r (mR r (iF f (M 6) 8) k) a) b) b) rfl ?_
              refine VS.siast (b) dX7_measures_149 (by decide) rfl (rfl) (hb2) (by decide) ?_
              refine VS.stt (S2 := upC M 6 (mB r a (mA r (mR r (iF f (M 6) 8) k) a) (b + 1))) ((by rw [up2, upC_upC, upC_at]; exact congrArg (upC M 6) (rlx_n (fun q => h_78 q.1.2.1)).symm)) ?_
              refine VS.iinc (nI (b + 1)) dX7_measures_150 rfl (by decide) ((nI_succ b).symm) rfl ?_
              refine VS.goto 52 dX7_measures_153 (by decide) ?_
              exact VS.forget 6 ib
            · refine VS.aload_n dX7_measures_81 rfl ?_
              refine VS.sgetR 6 dX7_measures_82 uw_X7 rfl (by decide) 9 rfl rfl (by decide) fl_X7_26 rfl ?_
              refine VS.iload dX7_measures_85 rfl ?_
              refine VS.siald (a) dX7_measures_87 (by decide) rfl (rfl) (ha) (by decide) ?_
              refine VS.val (y := (mB r a (mA r (mR r (iF f (M 6) 8) k) a) b) a) rfl ?_
              refine VS.bipush (99) dX7_measures_88 rfl ?_
              refine VS.icmp_ge 97 dX7_measures_90 (by decide) (fun h_90 => ?_) (fun h_90 => ?_)
              · refine VS.iconst (0) dX7_measures_97 rfl ?_
                refine VS.istore dX7_measures_98 (by decide) rfl ?_
                refine VS.aload_n dX7_measures_100 rfl ?_
                refine VS.sgetR 6 dX7_measures_101 uw_X7 rfl (by decide) 9 rfl rfl (by decide) fl_X7_26 rfl ?_
                refine VS.iload dX7_measures_104 rfl ?_
                refine VS.iload dX7_measures_106 rfl ?_
                refine VS.if_eq 142 dX7_measures_108 (by decide) (fun _ => ?_) (fun hh => absurd (rfl) hh)
                refine VS.aload_n dX7_measures_142 rfl ?_
                refine VS.sgetR 6 dX7_measures_143 uw_X7 rfl (by decide) 9 rfl rfl (by decide) fl_X7_26 rfl ?_
                refine VS.iload dX7_measures_146 rfl ?_
                refine VS.siald (b) dX7_measures_148 (by decide) rfl (rfl) (hb2) (by decide) ?_
                refine VS.val (y := (mB r a (mA r (mR r (iF f (M 6) 8) k) a) b) b) rfl ?_
                refine VS.siast (b) dX7_measures_149 (by decide) rfl (rfl) (hb2) (by decide) ?_
                refine VS.stt (S2 := upC M 6 (mB r a (mA r (mR r (iF f (M 6) 8) k) a) (b + 1))) ((by rw [up2, upC_upC, upC_at]; exact congrArg (upC M 6) (rlx_n (fun q => absurd q.1.2.2 (Int32.not_lt.mpr h_90))).symm)) ?_
                refine VS.iinc (nI (b + 1)) dX7_measures_150 rfl (by decide) ((nI_succ b).symm) rfl ?_
                refine VS.goto 52 dX7_measures_153 (by decide) ?_
                exact VS.forget 6 ib
              · refine VS.iconst (1) dX7_measures_93 rfl ?_
                refine VS.goto 98 dX7_measures_94 (by decide) ?_
                refine VS.istore dX7_measures_98 (by decide) rfl ?_
                refine VS.aload_n dX7_measures_100 rfl ?_
                refine VS.sgetR 6 dX7_measures_101 uw_X7 rfl (by decide) 9 rfl rfl (by decide) fl_X7_26 rfl ?_
                refine VS.iload dX7_measures_104 rfl ?_
                refine VS.iload dX7_measures_106 rfl ?_
                refine VS.if_eq 142 dX7_measures_108 (by decide) (fun hh => absurd hh (by decide)) (fun _ => ?_)
                refine VS.aload_n dX7_measures_111 rfl ?_
                refine VS.sgetR 6 dX7_measures_112 uw_X7 rfl (by decide) 9 rfl rfl (by decide) fl_X7_26 rfl ?_
                refine VS.iload dX7_measures_115 rfl ?_
                refine VS.siald (a) dX7_measures_117 (by decide) rfl (rfl) (ha) (by decide) ?_
                refine VS.val (y := (mB r a (mA r (mR r (iF f (M 6) 8) k) a) b) a) rfl ?_
                refine VS.iconst (1) dX7_measures_118 rfl ?_
                refine VS.iadd dX7_measures_119 ?_
                refine VS.aload_n dX7_measures_120 rfl ?_
                refine VS.sgetR 6 dX7_measures_121 uw_X7 rfl (by decide) 9 rfl rfl (by decide) fl_X7_26 rfl ?_
                refine VS.iload dX7_measures_124 rfl ?_
                refine VS.siald (b) dX7_measures_126 (by decide) rfl (rfl) (hb2) (by decide) ?_
                refine VS.val (y := (mB r a (mA r (mR r (iF f (M 6) 8) k) a) b) b) rfl ?_
                refine VS.icmp_ge 142 dX7_measures_127 (by decide) (fun h_127 => ?_) (fun h_127 => ?_)
                · refine VS.aload_n dX7_measures_142 rfl ?_
                  refine VS.sgetR 6 dX7_measures_143 uw_X7 rfl (by decide) 9 rfl rfl (by decide) fl_X7_26 rfl ?_
                  refine VS.iload dX7_measures_146 rfl ?_
                  refine VS.siald (b) dX7_measures_148 (by decide) rfl (rfl) (hb2) (by decide) ?_
                  refine VS.val (y := (mB r a (mA r (mR r (iF f (M 6) 8) k) a) b) b) rfl ?_
                  refine VS.siast (b) dX7_measures_149 (by decide) rfl (rfl) (hb2) (by decide) ?_
                  refine VS.stt (S2 := upC M 6 (mB r a (mA r (mR r (iF f (M 6) 8) k) a) (b + 1))) ((by rw [up2, upC_upC, upC_at]; exact congrArg (upC M 6) (rlx_n (fun q => absurd q.2 (Int32.not_lt.mpr h_127))).symm)) ?_
                  refine VS.iinc (nI (b + 1)) dX7_measures_150 rfl (by decide) ((nI_succ b).symm) rfl ?_
                  refine VS.goto 52 dX7_measures_153 (by decide) ?_
                  exact VS.forget 6 ib
                · refine VS.aload_n dX7_measures_130 rfl ?_
                  refine VS.sgetR 6 dX7_measures_131 uw_X7 rfl (by decide) 9 rfl rfl (by decide) fl_X7_26 rfl ?_
                  refine VS.iload dX7_measures_134 rfl ?_
                  refine VS.siald (a) dX7_measures_136 (by decide) rfl (rfl) (ha) (by decide) ?_
                  refine VS.val (y := (mB r a (mA r (mR r (iF f (M 6) 8) k) a) b) a) rfl ?_
                  refine VS.iconst (1) dX7_measures_137 rfl ?_
                  refine VS.iadd dX7_measures_138 ?_
                  refine VS.goto 149 dX7_measures_139 (by decide) ?_
                  refine VS.siast (b) dX7_measures_149 (by decide) rfl (rfl) (hb2) (by decide) ?_
                  refine VS.stt (S2 := upC M 6 (mB r a (mA r (mR r (iF f (M 6) 8) k) a) (b + 1))) ((by rw [up2, upC_upC, upC_at]; exact congrArg (upC M 6) (rlx_y ⟨⟨nIn ha hb2 h_63, h_78, Int32.not_le.mp h_90⟩, Int32.not_le.mp h_127⟩).symm)) ?_
                  refine VS.iinc (nI (b + 1)) dX7_measures_150 rfl (by decide) ((nI_succ b).symm) rfl ?_
                  refine VS.goto 52 dX7_measures_153 (by decide) ?_
                  exact VS.forget 6 ib
  · refine VS.iload_n dX7_measures_2 rfl ?_
    refine VS.bipush (8) dX7_measures_3 rfl ?_
    refine VS.icmp_ge 31 dX7_measures_5 (by decide) (fun hh => absurd hh (nge8 hi)) (fun _ => ?_)
    refine VS.aload_n dX7_measures_8 rfl ?_
    refine VS.sgetR 6 dX7_measures_9 uw_X7 rfl (by decide) 9 rfl rfl (by decide) fl_X7_26 rfl ?_
    refine VS.iload_n dX7_measures_12 rfl ?_
    refine VS.iload_n dX7_measures_13 rfl ?_
    refine VS.iload_n dX7_measures_14 rfl ?_
    refine VS.icmp_ne 22 dX7_measures_15 (by decide) (fun h_15 => ?_) (fun h_15 => ?_)
    · refine VS.bipush (99) dX7_measures_22 rfl ?_
      refine VS.siast (i) dX7_measures_24 (by decide) rfl (rfl) (hi) (by decide) ?_
      refine VS.stt (S2 := upC M 6 (iF f (M 6) (i + 1))) (by rw [up2, upC_upC, upC_at, iF_n (nIn hi hf h_15)]) ?_
      refine VS.iinc (nI (i + 1)) dX7_measures_25 rfl (by decide) ((nI_succ i).symm) rfl ?_
      refine VS.goto 2 dX7_measures_28 (by decide) ?_
      exact ih
    · refine VS.iconst (0) dX7_measures_18 rfl ?_
      refine VS.goto 24 dX7_measures_19 (by decide) ?_
      refine VS.siast (i) dX7_measures_24 (by decide) rfl (rfl) (hi) (by decide) ?_
      refine VS.stt (S2 := upC M 6 (iF f (M 6) (i + 1))) (by rw [up2, upC_upC, upC_at, iF_y (nIj hi hf h_15)]) ?_
      refine VS.iinc (nI (i + 1)) dX7_measures_25 rfl (by decide) ((nI_succ i).symm) rfl ?_
      refine VS.goto 2 dX7_measures_28 (by decide) ?_
      exact ih
set_option maxRecDepth 100000 in
set_option maxHeartbeats 4000000 in
theorem ct_X7_seen (l : Launch) (M : SS) (e : Int32) : CtS l yX7_seen cX7_seen 2 (some FieldType.int) (rmD 0) [.ref 0, .int e] 7 shM M (some (.int (if sb (M 0 7) e = 0 then -6 else sb (M 0 8) e))) (M) := by
  refine CtF.of (own := RX7) [some (.ref 0), some (.int e)] (by decide +kernel) rfl (fun _ => Nat.le_of_ble_eq_true rfl) (fun _ => rfl) ?_
  refine VS.aload_n dX7_seen_0 rfl ?_
  refine VS.sgetI 6 dX7_seen_1 uw_X7 rfl (by decide) 7 rfl rfl (by decide) fl_X7_45 rfl ?_
  refine VS.iload_n dX7_seen_4 rfl ?_
  refine VS.ishr dX7_seen_5 ?_
  refine VS.iconst (1) dX7_seen_6 rfl ?_
  refine VS.iand dX7_seen_7 ?_
  refine VS.val (y := sb (M 0 7) e) rfl ?_
  refine VS.if_ne 16 dX7_seen_8 (by decide) (fun h_8 => ?_) (fun h_8 => ?_)
  · refine VS.aload_n dX7_seen_16 rfl ?_
    refine VS.sgetI 6 dX7_seen_17 uw_X7 rfl (by decide) 8 rfl rfl (by decide) fl_X7_48 rfl ?_
    refine VS.iload_n dX7_seen_20 rfl ?_
    refine VS.ishr dX7_seen_21 ?_
    refine VS.iconst (1) dX7_seen_22 rfl ?_
    refine VS.iand dX7_seen_23 ?_
    refine VS.val (y := sb (M 0 8) e) rfl ?_
    exact VS.iret dX7_seen_24 (by first | rw [if_neg h_8] | rw [if_pos h_8]) (fun _ _ => rfl)
  · refine VS.bipush (-6) dX7_seen_11 rfl ?_
    refine VS.goto 24 dX7_seen_13 (by decide) ?_
    exact VS.iret dX7_seen_24 (by first | rw [if_neg h_8] | rw [if_pos h_8]) (fun _ _ => rfl)
def clJ (s : Nat → Int32) (c : Nat) (e : Int32) : Nat → Int32
  | 0 => 0
  | p + 1 => clJ s c e p ||| sb (s (c + p)) e <<< (nI p &&& 31)
theorem nge3 {i : Nat} (h : i < 3) : ¬ (3 : Int32) ≤ nI i := nI_ge (b := 3) h (by decide)
set_option maxRecDepth 100000 in
set_option maxHeartbeats 4000000 in
theorem ct_X7_claimers (l : Launch) (M : SS) (e : Int32) {c : Nat} (hc : c < 20) : CtS l yX7_claimers cX7_claimers 5 (some FieldType.int) (rmD 0) [.ref 0, .int (nI c), .int e] 7 shM M (some (.int (clJ (M 1) c e 3))) (M) := by
  refine CtF.of (own := RX7) [some (.ref 0), some (.int (nI c)), some (.int e), none, none] (by decide +kernel) rfl (fun _ => Nat.le_of_ble_eq_true rfl) (fun _ => rfl) ?_
  refine VS.iconst (0) dX7_claimers_0 rfl ?_
  refine VS.istore_n dX7_claimers_1 (by decide) rfl ?_
  refine VS.iconst (0) dX7_claimers_2 rfl ?_
  refine VS.istore dX7_claimers_3 (by decide) rfl ?_
  refine VS.forS (i0 := 0) (3) (fun _ => M) (fun i => [some (.ref 0), some (.int (nI c)), some (.int e), some (.int (clJ (M 1) c e i)), some (.int (nI i))]) (by decide) ?_ (fun i hi ih => ?_)
  · refine VS.iload dX7_claimers_5 rfl ?_
    refine VS.iconst (3) dX7_claimers_7 rfl ?_
    refine VS.icmp_ge 36 dX7_claimers_8 (by decide) (fun _ => ?_) (fun hh => absurd (by decide) hh)
    refine VS.iload_n dX7_claimers_36 rfl ?_
    exact VS.iret dX7_claimers_37 (rfl) (fun _ _ => rfl)
  · refine VS.iload dX7_claimers_5 rfl ?_
    refine VS.iconst (3) dX7_claimers_7 rfl ?_
    refine VS.icmp_ge 36 dX7_claimers_8 (by decide) (fun hh => absurd hh (nge3 hi)) (fun _ => ?_)
    refine VS.iload_n dX7_claimers_11 rfl ?_
    refine VS.aload_n dX7_claimers_12 rfl ?_
    refine VS.sgetR 6 dX7_claimers_13 uw_X7 rfl (by decide) 0 rfl rfl (by decide) fl_X7_7 rfl ?_
    refine VS.iload_n dX7_claimers_16 rfl ?_
    refine VS.iload dX7_claimers_17 rfl ?_
    refine VS.iadd dX7_claimers_19 ?_
    refine VS.siald (c + i) dX7_claimers_20 (by decide) rfl (ix_add) (by omega) (by decide) ?_
    refine VS.iload_n dX7_claimers_21 rfl ?_
    refine VS.ishr dX7_claimers_22 ?_
    refine VS.iconst (1) dX7_claimers_23 rfl ?_
    refine VS.iand dX7_claimers_24 ?_
    refine VS.iload dX7_claimers_25 rfl ?_
    refine VS.ishl dX7_claimers_27 ?_
    refine VS.ior dX7_claimers_28 ?_
    refine VS.istore_n dX7_claimers_29 (by decide) rfl ?_
    refine VS.iinc (nI (i + 1)) dX7_claimers_30 rfl (by decide) ((nI_succ i).symm) rfl ?_
    refine VS.goto 5 dX7_claimers_33 (by decide) ?_
    exact ih
set_option maxRecDepth 100000 in
set_option maxHeartbeats 4000000 in
theorem ct_X7_shown (l : Launch) (M : SS)  {p : Nat} (hp : p < 3) : CtS l yX7_shown cX7_shown 2 (some FieldType.int) (rmD 1) [.ref 0, .int (nI p)] 7 shM M (some (.int (pcI (M 0 7 &&& (M 1 (11 + p) &&& (M 0 8 ^^^ -1) ||| M 1 (14 + p) &&& M 0 8))))) (M) := by
  refine CtF.of (own := RX7) [some (.ref 0), some (.int (nI p))] (by decide +kernel) rfl (fun _ => Nat.le_of_ble_eq_true rfl) (fun _ => rfl) ?_
  refine VS.aload_n dX7_shown_0 rfl ?_
  refine VS.sgetI 6 dX7_shown_1 uw_X7 rfl (by decide) 7 rfl rfl (by decide) fl_X7_45 rfl ?_
  refine VS.aload_n dX7_shown_4 rfl ?_
  refine VS.sgetR 6 dX7_shown_5 uw_X7 rfl (by decide) 0 rfl rfl (by decide) fl_X7_7 rfl ?_
  refine VS.bipush (11) dX7_shown_8 rfl ?_
  refine VS.iload_n dX7_shown_10 rfl ?_
  refine VS.iadd dX7_shown_11 ?_
  refine VS.siald (11 + p) dX7_shown_12 (by decide) rfl (ix_add) (by omega) (by decide) ?_
  refine VS.aload_n dX7_shown_13 rfl ?_
  refine VS.sgetI 6 dX7_shown_14 uw_X7 rfl (by decide) 8 rfl rfl (by decide) fl_X7_48 rfl ?_
  refine VS.iconst (-1) dX7_shown_17 rfl ?_
  refine VS.ixor dX7_shown_18 ?_
  refine VS.iand dX7_shown_19 ?_
  refine VS.aload_n dX7_shown_20 rfl ?_
  refine VS.sgetR 6 dX7_shown_21 uw_X7 rfl (by decide) 0 rfl rfl (by decide) fl_X7_7 rfl ?_
  refine VS.bipush (14) dX7_shown_24 rfl ?_
  refine VS.iload_n dX7_shown_26 rfl ?_
  refine VS.iadd dX7_shown_27 ?_
  refine VS.siald (14 + p) dX7_shown_28 (by decide) rfl (ix_add) (by omega) (by decide) ?_
  refine VS.aload_n dX7_shown_29 rfl ?_
  refine VS.sgetI 6 dX7_shown_30 uw_X7 rfl (by decide) 8 rfl rfl (by decide) fl_X7_48 rfl ?_
  refine VS.iand dX7_shown_33 ?_
  refine VS.ior dX7_shown_34 ?_
  refine VS.iand dX7_shown_35 ?_
  refine VS.callN (ct_X7_many l _) dX7_shown_36 mi_X7_many st_X7_many ml_X7_55 (rmOk_D (by decide) (by decide)) (Nat.le_of_ble_eq_true rfl) rfl ?_
  exact VS.iret dX7_shown_39 (rfl) (fun _ _ => rfl)
def ngJ (t : Int32) (p : Nat) : Nat → Int32
  | 0 => 0
  | j + 1 => ngJ t p j ||| (if nI j ≠ nI p ∧ sb t (eI (nI p) (nI j)) = 1 then (1 : Int32) <<< (nI j &&& 31) else 0)
theorem ngJ_y {t : Int32} {p i : Nat} (h : ¬ nI i = nI p) (h2 : sb t (eI (nI p) (nI i)) = 1) : ngJ t p i ||| ((1 : Int32) <<< (nI i &&& 31)) = ngJ t p (i + 1) := (congrArg (fun z => ngJ t p i ||| z) (if_pos ⟨h, h2⟩)).symm
theorem ngJ_n {t : Int32} {p i : Nat} (h : ¬ (nI i ≠ nI p ∧ sb t (eI (nI p) (nI i)) = 1)) : ngJ t p i ||| 0 = ngJ t p (i + 1) := (congrArg (fun z => ngJ t p i ||| z) (if_neg h)).symm
set_option maxRecDepth 100000 in
set_option maxHeartbeats 4000000 in
theorem ct_X7_neighbours (l : Launch) (M : SS)  {p : Nat} (hp : p < 8) : CtS l yX7_neighbours cX7_neighbours 4 (some FieldType.int) (rmD 1) [.ref 0, .int (nI p)] 7 shM M (some (.int (ngJ (M 0 8) p 8))) (M) := by
  refine CtF.of (own := RX7) [some (.ref 0), some (.int (nI p)), none, none] (by decide +kernel) rfl (fun _ => Nat.le_of_ble_eq_true rfl) (fun _ => rfl) ?_
  refine VS.iconst (0) dX7_neighbours_0 rfl ?_
  refine VS.istore_n dX7_neighbours_1 (by decide) rfl ?_
  refine VS.iconst (0) dX7_neighbours_2 rfl ?_
  refine VS.istore_n dX7_neighbours_3 (by decide) rfl ?_
  refine VS.forS (i0 := 0) (8) (fun _ => M) (fun i => [some (.ref 0), some (.int (nI p)), some (.int (ngJ (M 0 8) p i)), some (.int (nI i))]) (by decide) ?_ (fun i hi ih => ?_)
  · refine VS.iload_n dX7_neighbours_4 rfl ?_
    refine VS.bipush (8) dX7_neighbours_5 rfl ?_
    refine VS.icmp_ge 47 dX7_neighbours_7 (by decide) (fun _ => ?_) (fun hh => absurd (by decide) hh)
    refine VS.iload_n dX7_neighbours_47 rfl ?_
    exact VS.iret dX7_neighbours_48 (rfl) (fun _ _ => rfl)
  · refine VS.iload_n dX7_neighbours_4 rfl ?_
    refine VS.bipush (8) dX7_neighbours_5 rfl ?_
    refine VS.icmp_ge 47 dX7_neighbours_7 (by decide) (fun hh => absurd hh (nge8 hi)) (fun _ => ?_)
    refine VS.iload_n dX7_neighbours_10 rfl ?_
    refine VS.iload_n dX7_neighbours_11 rfl ?_
    refine VS.iload_n dX7_neighbours_12 rfl ?_
    refine VS.icmp_eq 38 dX7_neighbours_13 (by decide) (fun h_13 => ?_) (fun h_13 => ?_)
    · refine VS.iconst (0) dX7_neighbours_38 rfl ?_
      refine VS.ior dX7_neighbours_39 ?_
      refine VS.val (y := ngJ (M 0 8) p (i + 1)) (by first | exact ngJ_y h_13 h_29 | exact ngJ_n (fun q => q.1 h_13) | exact ngJ_n (fun q => h_29 q.2)) ?_
      refine VS.istore_n dX7_neighbours_40 (by decide) rfl ?_
      refine VS.iinc (nI (i + 1)) dX7_neighbours_41 rfl (by decide) ((nI_succ i).symm) rfl ?_
      refine VS.goto 4 dX7_neighbours_44 (by decide) ?_
      exact ih
    · refine VS.aload_n dX7_neighbours_16 rfl ?_
      refine VS.sgetI 6 dX7_neighbours_17 uw_X7 rfl (by decide) 8 rfl rfl (by decide) fl_X7_48 rfl ?_
      refine VS.iload_n dX7_neighbours_20 rfl ?_
      refine VS.iload_n dX7_neighbours_21 rfl ?_
      refine VS.callN (ct_X7_edge l _ _) dX7_neighbours_22 mi_X7_edge st_X7_edge ml_X7_37 (rmOk_D (by decide) (by decide)) (Nat.le_of_ble_eq_true rfl) rfl ?_
      refine VS.ishr dX7_neighbours_25 ?_
      refine VS.iconst (1) dX7_neighbours_26 rfl ?_
      refine VS.iand dX7_neighbours_27 ?_
      refine VS.val (y := sb (M 0 8) (eI (nI p) (nI i))) rfl ?_
      refine VS.iconst (1) dX7_neighbours_28 rfl ?_
      refine VS.icmp_ne 38 dX7_neighbours_29 (by decide) (fun h_29 => ?_) (fun h_29 => ?_)
      · refine VS.iconst (0) dX7_neighbours_38 rfl ?_
        refine VS.ior dX7_neighbours_39 ?_
        refine VS.val (y := ngJ (M 0 8) p (i + 1)) (by first | exact ngJ_y h_13 h_29 | exact ngJ_n (fun q => q.1 h_13) | exact ngJ_n (fun q => h_29 q.2)) ?_
        refine VS.istore_n dX7_neighbours_40 (by decide) rfl ?_
        refine VS.iinc (nI (i + 1)) dX7_neighbours_41 rfl (by decide) ((nI_succ i).symm) rfl ?_
        refine VS.goto 4 dX7_neighbours_44 (by decide) ?_
        exact ih
      · refine VS.iconst (1) dX7_neighbours_32 rfl ?_
        refine VS.iload_n dX7_neighbours_33 rfl ?_
        refine VS.ishl dX7_neighbours_34 ?_
        refine VS.goto 39 dX7_neighbours_35 (by decide) ?_
        refine VS.ior dX7_neighbours_39 ?_
        refine VS.val (y := ngJ (M 0 8) p (i + 1)) (by first | exact ngJ_y h_13 h_29 | exact ngJ_n (fun q => q.1 h_13) | exact ngJ_n (fun q => h_29 q.2)) ?_
        refine VS.istore_n dX7_neighbours_40 (by decide) rfl ?_
        refine VS.iinc (nI (i + 1)) dX7_neighbours_41 rfl (by decide) ((nI_succ i).symm) rfl ?_
        refine VS.goto 4 dX7_neighbours_44 (by decide) ?_
        exact ih
end
section
/-! the reference: its questions -/
def rK (s : Nat → Int32) : Int32 := rKn s (s 17)
def rTh (s : Nat → Int32) : Int32 := rK s &&& s 0
def rShown (s : Nat → Int32) (p : Nat) : Int32 := pcI (rK s &&& (s (11 + p) &&& (rTh s ^^^ -1) ||| s (14 + p) &&& rTh s))
def rSeen (s : Nat → Int32) (e : Int32) : Int32 := if sb (rK s) e = 0 then -6 else sb (rTh s) e
theorem kn0_kn0 (M : SS) (k1 k2 : Int32) : kn0 (kn0 M k1) k2 = kn0 M k2 := by
  have e : (kn0 M k1) 1 = M 1 := rfl
  have e0 : (kn0 M k1) 0 = upd (upd (M 0) 7 k1) 8 (k1 &&& M 1 0) := rfl
  have e2 : kn0 (kn0 M k1) k2 = upC (kn0 M k1) 0 (upd (upd ((kn0 M k1) 0) 7 k2) 8 (k2 &&& (kn0 M k1) 1 0)) := rfl
  have e3 : kn0 M k1 = upC M 0 ((kn0 M k1) 0) := by rw [e0]; rfl
  rw [e2, e, e0, e3, upC_upC]
  unfold kn0
  congr 1
  funext k
  unfold upd
  by_cases h8 : k = 8
  · rw [if_pos h8, if_pos h8]
  · rw [if_neg h8, if_neg h8]
    by_cases h7 : k = 7
    · simp [h7]
    · simp [h7, h8]
theorem rFol_rFol (M : SS) (a b : Int32) : rFol (rFol M a) b = rFol M b := kn0_kn0 M _ _
theorem rFol_1 (M : SS) (a : Int32) : rFol M a 1 = M 1 := rfl
theorem wr_ge {a b : Int32} (h : wrE a b = 0) : 0 ≤ wrE a b := by rw [h]; decide
theorem wr_lt {a b : Int32} (h : ¬ wrE a b = 0) : ¬ 0 ≤ wrE a b := by
  unfold wrE at *
  split
  · split
    · decide
    · rename_i h1 h2; rw [if_pos h1, if_neg h2] at h; exact absurd rfl h
  · decide
def rOfRoad (s : Nat → Int32) (a b what : Int32) : Int32 := pick [eI a b, rem3 (eI a b), sb (s 17) (eI a b), rSeen s (eI a b), clJ s 11 (eI a b) 3, clJ s 14 (eI a b) 3] what (-2)
def rKnows (s : Nat → Int32) (q a b : Int32) : Int32 := if rem3 (eI a b) = q then sb (s 0) (eI a b) else rSeen s (eI a b)
def rPlayer (s : Nat → Int32) (p : Nat) (what : Int32) : Int32 := pick [s (8 + p), rClaims s p, rShown s p, s (18 + p), s (21 + p), s (24 + p), s (27 + p), pcI (thI p ||| rK s)] what (-2)
def rCount (s : Nat → Int32) (len pasts what : Int32) : Int32 := pick [s 7, rem3 (s 7), s 6, s 30, pcI (rK s), pcI (rTh s), rShown s 0 + rShown s 1 + rShown s 2, pcI (s 17), s 2, s 3, s 4, s 5, len, pasts] what (-2)

set_option maxRecDepth 100000 in
set_option maxHeartbeats 4000000 in
theorem ct_X7_ofRoad (l : Launch) (M : SS) (a : Int32) (b : Int32) (what : Int32) (hw : wrE a b = 0) : CtS l yX7_ofRoad cX7_ofRoad 6 (some FieldType.int) (rmD 3) [.ref 0, .int a, .int b, .int what] 7 shM M (some (.int (rOfRoad (M 1) a b what))) (rFol M (M 1 17)) := by
  refine CtF.of (own := RX7) [some (.ref 0), some (.int a), some (.int b), some (.int what), none, none] (by decide +kernel) rfl (fun _ => Nat.le_of_ble_eq_true rfl) (fun _ => rfl) ?_
  refine VS.iload_n dX7_ofRoad_0 rfl ?_
  refine VS.iload_n dX7_ofRoad_1 rfl ?_
  refine VS.callN (ct_X7_barPair l _ _) dX7_ofRoad_2 mi_X7_barPair st_X7_barPair ml_X7_130 (rmOk_D (by decide) (by decide)) (Nat.le_of_ble_eq_true rfl) rfl ?_
  refine VS.istore dX7_ofRoad_5 (by decide) rfl ?_
  refine VS.iload dX7_ofRoad_7 rfl ?_
  refine VS.if_ge 15 dX7_ofRoad_9 (by decide) (fun _ => ?_) (fun hh => absurd (wr_ge hw) hh)
  refine VS.iload_n dX7_ofRoad_15 rfl ?_
  refine VS.iload_n dX7_ofRoad_16 rfl ?_
  refine VS.callN (ct_X7_edge l _ _) dX7_ofRoad_17 mi_X7_edge st_X7_edge ml_X7_37 (rmOk_D (by decide) (by decide)) (Nat.le_of_ble_eq_true rfl) rfl ?_
  refine VS.istore dX7_ofRoad_20 (by decide) rfl ?_
  refine VS.aload_n dX7_ofRoad_22 rfl ?_
  refine VS.aload_n dX7_ofRoad_23 rfl ?_
  refine VS.sgetR 6 dX7_ofRoad_24 uw_X7 rfl (by decide) 0 rfl rfl (by decide) fl_X7_7 rfl ?_
  refine VS.bipush (17) dX7_ofRoad_27 rfl ?_
  refine VS.siald (17) dX7_ofRoad_29 (by decide) rfl (rfl) (by decide) (by decide) ?_
  refine VS.val (y := M 1 17) rfl ?_
  refine VS.callT (ct_X7_follows l _ _) dX7_ofRoad_30 mi_X7_follows im_X7_follows sel_X7_follows ml_X7_80 (by decide) rfl rfl (rmOk_D (by decide) (by decide)) (Nat.le_of_ble_eq_true rfl) rfl ?_
  refine VS.iload_n dX7_ofRoad_33 rfl ?_
  rcases sw_0_5 what with rfl | rfl | rfl | rfl | rfl | rfl | ho
  · refine VS.tableIn 72 dX7_ofRoad_34 (by decide) (by decide) rfl (by decide) ?_
    refine VS.iload dX7_ofRoad_72 rfl ?_
    exact VS.iret dX7_ofRoad_74 (rfl) (fun _ _ => rfl)
  · refine VS.tableIn 75 dX7_ofRoad_34 (by decide) (by decide) rfl (by decide) ?_
    refine VS.iload dX7_ofRoad_75 rfl ?_
    refine VS.iconst (3) dX7_ofRoad_77 rfl ?_
    refine VS.irem dX7_ofRoad_78 (by decide) ?_
    exact VS.iret dX7_ofRoad_79 (rfl) (fun _ _ => rfl)
  · refine VS.tableIn 80 dX7_ofRoad_34 (by decide) (by decide) rfl (by decide) ?_
    refine VS.aload_n dX7_ofRoad_80 rfl ?_
    refine VS.sgetR 6 dX7_ofRoad_81 uw_X7 rfl (by decide) 0 rfl rfl (by decide) fl_X7_7 rfl ?_
    refine VS.bipush (17) dX7_ofRoad_84 rfl ?_
    refine VS.siald (17) dX7_ofRoad_86 (by decide) rfl (rfl) (by decide) (by decide) ?_
    refine VS.iload dX7_ofRoad_87 rfl ?_
    refine VS.ishr dX7_ofRoad_89 ?_
    refine VS.iconst (1) dX7_ofRoad_90 rfl ?_
    refine VS.iand dX7_ofRoad_91 ?_
    exact VS.iret dX7_ofRoad_92 (rfl) (fun _ _ => rfl)
  · refine VS.tableIn 93 dX7_ofRoad_34 (by decide) (by decide) rfl (by decide) ?_
    refine VS.aload_n dX7_ofRoad_93 rfl ?_
    refine VS.iload dX7_ofRoad_94 rfl ?_
    refine VS.callT (ct_X7_seen l _ _) dX7_ofRoad_96 mi_X7_seen im_X7_seen sel_X7_seen ml_X7_133 (by decide) rfl rfl (rmOk_D (by decide) (by decide)) (Nat.le_of_ble_eq_true rfl) rfl ?_
    refine VS.val (y := rSeen (M 1) (eI a b)) rfl ?_
    exact VS.iret dX7_ofRoad_99 (rfl) (fun _ _ => rfl)
  · refine VS.tableIn 100 dX7_ofRoad_34 (by decide) (by decide) rfl (by decide) ?_
    refine VS.aload_n dX7_ofRoad_100 rfl ?_
    refine VS.bipush (11) dX7_ofRoad_101 rfl ?_
    refine VS.iload dX7_ofRoad_103 rfl ?_
    refine VS.callT (ct_X7_claimers l _ _ (c := 11) (by decide)) dX7_ofRoad_105 mi_X7_claimers im_X7_claimers sel_X7_claimers ml_X7_136 (by decide) rfl rfl (rmOk_D (by decide) (by decide)) (Nat.le_of_ble_eq_true rfl) rfl ?_
    exact VS.iret dX7_ofRoad_108 (rfl) (fun _ _ => rfl)
  · refine VS.tableIn 109 dX7_ofRoad_34 (by decide) (by decide) rfl (by decide) ?_
    refine VS.aload_n dX7_ofRoad_109 rfl ?_
    refine VS.bipush (14) dX7_ofRoad_110 rfl ?_
    refine VS.iload dX7_ofRoad_112 rfl ?_
    refine VS.callT (ct_X7_claimers l _ _ (c := 14) (by decide)) dX7_ofRoad_114 mi_X7_claimers im_X7_claimers sel_X7_claimers ml_X7_136 (by decide) rfl rfl (rmOk_D (by decide) (by decide)) (Nat.le_of_ble_eq_true rfl) rfl ?_
    exact VS.iret dX7_ofRoad_117 (rfl) (fun _ _ => rfl)
  · refine VS.tableOut 118 dX7_ofRoad_34 (ho) (by decide) ?_
    refine VS.bipush (-2) dX7_ofRoad_118 rfl ?_
    exact VS.iret dX7_ofRoad_120 (by unfold rOfRoad; rw [pick_out (k := 5) ho rfl]) (fun _ _ => rfl)
set_option maxRecDepth 100000 in
set_option maxHeartbeats 4000000 in
theorem ct_X7_ofRoad_no (l : Launch) (M : SS) (a : Int32) (b : Int32) (what : Int32) (hw : ¬ wrE a b = 0) : CtS l yX7_ofRoad cX7_ofRoad 6 (some FieldType.int) (rmD 3) [.ref 0, .int a, .int b, .int what] 7 shM M (some (.int (wrE a b))) (M) := by
  refine CtF.of (own := RX7) [some (.ref 0), some (.int a), some (.int b), some (.int what), none, none] (by decide +kernel) rfl (fun _ => Nat.le_of_ble_eq_true rfl) (fun _ => rfl) ?_
  refine VS.iload_n dX7_ofRoad_0 rfl ?_
  refine VS.iload_n dX7_ofRoad_1 rfl ?_
  refine VS.callN (ct_X7_barPair l _ _) dX7_ofRoad_2 mi_X7_barPair st_X7_barPair ml_X7_130 (rmOk_D (by decide) (by decide)) (Nat.le_of_ble_eq_true rfl) rfl ?_
  refine VS.istore dX7_ofRoad_5 (by decide) rfl ?_
  refine VS.iload dX7_ofRoad_7 rfl ?_
  refine VS.if_ge 15 dX7_ofRoad_9 (by decide) (fun hh => absurd hh (wr_lt hw)) (fun _ => ?_)
  refine VS.iload dX7_ofRoad_12 rfl ?_
  exact VS.iret dX7_ofRoad_14 (rfl) (fun _ _ => rfl)
set_option maxRecDepth 100000 in
set_option maxHeartbeats 4000000 in
theorem ct_X7_knows (l : Launch) (M : SS) (q : Int32) (a : Int32) (b : Int32) (hq : 0 ≤ q ∧ q < 3) (hw : wrE a b = 0) : CtS l yX7_knows cX7_knows 6 (some FieldType.int) (rmD 3) [.ref 0, .int q, .int a, .int b] 7 shM M (some (.int (rKnows (M 1) q a b))) (rFol M (M 1 17)) := by
  refine CtF.of (own := RX7) [some (.ref 0), some (.int q), some (.int a), some (.int b), none, none] (by decide +kernel) rfl (fun _ => Nat.le_of_ble_eq_true rfl) (fun _ => rfl) ?_
  refine VS.iload_n dX7_knows_0 rfl ?_
  refine VS.callN (ct_X7_isPlayer l _) dX7_knows_1 mi_X7_isPlayer st_X7_isPlayer ml_X7_104 (rmOk_D (by decide) (by decide)) (Nat.le_of_ble_eq_true rfl) rfl ?_
  refine VS.if_ne 9 dX7_knows_4 (by decide) (fun _ => ?_) (fun hh => absurd hh (by rw [if_pos hq]; decide))
  refine VS.iload_n dX7_knows_9 rfl ?_
  refine VS.iload_n dX7_knows_10 rfl ?_
  refine VS.callN (ct_X7_barPair l _ _) dX7_knows_11 mi_X7_barPair st_X7_barPair ml_X7_130 (rmOk_D (by decide) (by decide)) (Nat.le_of_ble_eq_true rfl) rfl ?_
  refine VS.istore dX7_knows_14 (by decide) rfl ?_
  refine VS.iload dX7_knows_16 rfl ?_
  refine VS.if_ge 24 dX7_knows_18 (by decide) (fun _ => ?_) (fun hh => absurd (wr_ge hw) hh)
  refine VS.iload_n dX7_knows_24 rfl ?_
  refine VS.iload_n dX7_knows_25 rfl ?_
  refine VS.callN (ct_X7_edge l _ _) dX7_knows_26 mi_X7_edge st_X7_edge ml_X7_37 (rmOk_D (by decide) (by decide)) (Nat.le_of_ble_eq_true rfl) rfl ?_
  refine VS.istore dX7_knows_29 (by decide) rfl ?_
  refine VS.aload_n dX7_knows_31 rfl ?_
  refine VS.aload_n dX7_knows_32 rfl ?_
  refine VS.sgetR 6 dX7_knows_33 uw_X7 rfl (by decide) 0 rfl rfl (by decide) fl_X7_7 rfl ?_
  refine VS.bipush (17) dX7_knows_36 rfl ?_
  refine VS.siald (17) dX7_knows_38 (by decide) rfl (rfl) (by decide) (by decide) ?_
  refine VS.val (y := M 1 17) rfl ?_
  refine VS.callT (ct_X7_follows l _ _) dX7_knows_39 mi_X7_follows im_X7_follows sel_X7_follows ml_X7_80 (by decide) rfl rfl (rmOk_D (by decide) (by decide)) (Nat.le_of_ble_eq_true rfl) rfl ?_
  refine VS.iload dX7_knows_42 rfl ?_
  refine VS.iconst (3) dX7_knows_44 rfl ?_
  refine VS.irem dX7_knows_45 (by decide) ?_
  refine VS.val (y := rem3 (eI a b)) rfl ?_
  refine VS.iload_n dX7_knows_46 rfl ?_
  refine VS.icmp_ne 64 dX7_knows_47 (by decide) (fun h_47 => ?_) (fun h_47 => ?_)
  · refine VS.aload_n dX7_knows_64 rfl ?_
    refine VS.iload dX7_knows_65 rfl ?_
    refine VS.callT (ct_X7_seen l _ _) dX7_knows_67 mi_X7_seen im_X7_seen sel_X7_seen ml_X7_133 (by decide) rfl rfl (rmOk_D (by decide) (by decide)) (Nat.le_of_ble_eq_true rfl) rfl ?_
    refine VS.val (y := rSeen (M 1) (eI a b)) rfl ?_
    exact VS.iret dX7_knows_70 (by unfold rKnows; first | exact congrArg (fun z => some (Value.int z)) (if_pos h_47) | exact congrArg (fun z => some (Value.int z)) (if_neg h_47)) (fun _ _ => rfl)
  · refine VS.aload_n dX7_knows_50 rfl ?_
    refine VS.sgetR 6 dX7_knows_51 uw_X7 rfl (by decide) 0 rfl rfl (by decide) fl_X7_7 rfl ?_
    refine VS.iconst (0) dX7_knows_54 rfl ?_
    refine VS.siald (0) dX7_knows_55 (by decide) rfl (rfl) (by decide) (by decide) ?_
    refine VS.iload dX7_knows_56 rfl ?_
    refine VS.ishr dX7_knows_58 ?_
    refine VS.iconst (1) dX7_knows_59 rfl ?_
    refine VS.iand dX7_knows_60 ?_
    refine VS.val (y := sb (M 1 0) (eI a b)) rfl ?_
    refine VS.goto 70 dX7_knows_61 (by decide) ?_
    exact VS.iret dX7_knows_70 (by unfold rKnows; first | exact congrArg (fun z => some (Value.int z)) (if_pos h_47) | exact congrArg (fun z => some (Value.int z)) (if_neg h_47)) (fun _ _ => rfl)
set_option maxRecDepth 100000 in
set_option maxHeartbeats 4000000 in
theorem ct_X7_knows_no (l : Launch) (M : SS) (q : Int32) (a : Int32) (b : Int32) (hw : ¬ ((0 ≤ q ∧ q < 3) ∧ wrE a b = 0)) : CtS l yX7_knows cX7_knows 6 (some FieldType.int) (rmD 3) [.ref 0, .int q, .int a, .int b] 7 shM M (some (.int (if 0 ≤ q ∧ q < 3 then wrE a b else -1))) (M) := by
  refine CtF.of (own := RX7) [some (.ref 0), some (.int q), some (.int a), some (.int b), none, none] (by decide +kernel) rfl (fun _ => Nat.le_of_ble_eq_true rfl) (fun _ => rfl) ?_
  refine VS.iload_n dX7_knows_0 rfl ?_
  refine VS.callN (ct_X7_isPlayer l _) dX7_knows_1 mi_X7_isPlayer st_X7_isPlayer ml_X7_104 (rmOk_D (by decide) (by decide)) (Nat.le_of_ble_eq_true rfl) rfl ?_
  refine VS.if_ne 9 dX7_knows_4 (by decide) (fun h_4 => ?_) (fun h_4 => ?_)
  · refine VS.iload_n dX7_knows_9 rfl ?_
    refine VS.iload_n dX7_knows_10 rfl ?_
    refine VS.callN (ct_X7_barPair l _ _) dX7_knows_11 mi_X7_barPair st_X7_barPair ml_X7_130 (rmOk_D (by decide) (by decide)) (Nat.le_of_ble_eq_true rfl) rfl ?_
    refine VS.istore dX7_knows_14 (by decide) rfl ?_
    refine VS.iload dX7_knows_16 rfl ?_
    refine VS.if_ge 24 dX7_knows_18 (by decide) (fun hh => absurd hh (wr_lt (fun z => hw ⟨ite11 h_4, z⟩))) (fun _ => ?_)
    refine VS.iload dX7_knows_21 rfl ?_
    exact VS.iret dX7_knows_23 (by rw [if_pos (ite11 h_4)]) (fun _ _ => rfl)
  · refine VS.iconst (-1) dX7_knows_7 rfl ?_
    exact VS.iret dX7_knows_8 (by rw [if_neg (ite10.mp h_4)]) (fun _ _ => rfl)
theorem pl_y {p : Nat} (h : p < 3) : ¬ (if 0 ≤ nI p ∧ nI p < 3 then (1 : Int32) else 0) = 0 := by
  revert p; decide +kernel
theorem pc_y {p : Nat} (h : p < 8) : ¬ (if 0 ≤ nI p ∧ nI p < 8 then (1 : Int32) else 0) = 0 := by
  revert p; decide +kernel
theorem pc_v {p : Nat} (h : p < 8) : 0 ≤ nI p ∧ nI p < 8 := ite11 (pc_y h)
theorem pl_v {p : Nat} (h : p < 3) : 0 ≤ nI p ∧ nI p < 3 := ite11 (pl_y h)
set_option maxRecDepth 100000 in
set_option maxHeartbeats 4000000 in
theorem ct_X7_player (l : Launch) (M : SS) (what : Int32) {p : Nat} (hp : p < 3) : CtS l yX7_player cX7_player 3 (some FieldType.int) (rmD 3) [.ref 0, .int (nI p), .int what] 7 shM M (some (.int (rPlayer (M 1) p what))) (rFol M (M 1 17)) := by
  refine CtF.of (own := RX7) [some (.ref 0), some (.int (nI p)), some (.int what)] (by decide +kernel) rfl (fun _ => Nat.le_of_ble_eq_true rfl) (fun _ => rfl) ?_
  refine VS.iload_n dX7_player_0 rfl ?_
  refine VS.callN (ct_X7_isPlayer l _) dX7_player_1 mi_X7_isPlayer st_X7_isPlayer ml_X7_104 (rmOk_D (by decide) (by decide)) (Nat.le_of_ble_eq_true rfl) rfl ?_
  refine VS.if_ne 9 dX7_player_4 (by decide) (fun _ => ?_) (fun hh => absurd hh (pl_y hp))
  refine VS.aload_n dX7_player_9 rfl ?_
  refine VS.aload_n dX7_player_10 rfl ?_
  refine VS.sgetR 6 dX7_player_11 uw_X7 rfl (by decide) 0 rfl rfl (by decide) fl_X7_7 rfl ?_
  refine VS.bipush (17) dX7_player_14 rfl ?_
  refine VS.siald (17) dX7_player_16 (by decide) rfl (rfl) (by decide) (by decide) ?_
  refine VS.val (y := M 1 17) rfl ?_
  refine VS.callT (ct_X7_follows l _ _) dX7_player_17 mi_X7_follows im_X7_follows sel_X7_follows ml_X7_80 (by decide) rfl rfl (rmOk_D (by decide) (by decide)) (Nat.le_of_ble_eq_true rfl) rfl ?_
  refine VS.iload_n dX7_player_20 rfl ?_
  rcases sw_0_7 what with rfl | rfl | rfl | rfl | rfl | rfl | rfl | rfl | ho
  · refine VS.tableIn 68 dX7_player_21 (by decide) (by decide) rfl (by decide) ?_
    refine VS.aload_n dX7_player_68 rfl ?_
    refine VS.sgetR 6 dX7_player_69 uw_X7 rfl (by decide) 0 rfl rfl (by decide) fl_X7_7 rfl ?_
    refine VS.bipush (8) dX7_player_72 rfl ?_
    refine VS.iload_n dX7_player_74 rfl ?_
    refine VS.iadd dX7_player_75 ?_
    refine VS.siald (8 + p) dX7_player_76 (by decide) rfl (ix_add) (by omega) (by decide) ?_
    exact VS.iret dX7_player_77 (rfl) (fun _ _ => rfl)
  · refine VS.tableIn 78 dX7_player_21 (by decide) (by decide) rfl (by decide) ?_
    refine VS.aload_n dX7_player_78 rfl ?_
    refine VS.iload_n dX7_player_79 rfl ?_
    refine VS.callT (ct_X7_claims l _ hp) dX7_player_80 mi_X7_claims im_X7_claims sel_X7_claims ml_X7_94 (by decide) rfl rfl (rmOk_D (by decide) (by decide)) (Nat.le_of_ble_eq_true rfl) rfl ?_
    exact VS.iret dX7_player_83 (rfl) (fun _ _ => rfl)
  · refine VS.tableIn 84 dX7_player_21 (by decide) (by decide) rfl (by decide) ?_
    refine VS.aload_n dX7_player_84 rfl ?_
    refine VS.iload_n dX7_player_85 rfl ?_
    refine VS.callT (ct_X7_shown l _ hp) dX7_player_86 mi_X7_shown im_X7_shown sel_X7_shown ml_X7_139 (by decide) rfl rfl (rmOk_D (by decide) (by decide)) (Nat.le_of_ble_eq_true rfl) rfl ?_
    refine VS.val (y := rShown (M 1) p) rfl ?_
    exact VS.iret dX7_player_89 (rfl) (fun _ _ => rfl)
  · refine VS.tableIn 90 dX7_player_21 (by decide) (by decide) rfl (by decide) ?_
    refine VS.aload_n dX7_player_90 rfl ?_
    refine VS.sgetR 6 dX7_player_91 uw_X7 rfl (by decide) 0 rfl rfl (by decide) fl_X7_7 rfl ?_
    refine VS.bipush (18) dX7_player_94 rfl ?_
    refine VS.iload_n dX7_player_96 rfl ?_
    refine VS.iadd dX7_player_97 ?_
    refine VS.siald (18 + p) dX7_player_98 (by decide) rfl (ix_add) (by omega) (by decide) ?_
    exact VS.iret dX7_player_99 (rfl) (fun _ _ => rfl)
  · refine VS.tableIn 100 dX7_player_21 (by decide) (by decide) rfl (by decide) ?_
    refine VS.aload_n dX7_player_100 rfl ?_
    refine VS.sgetR 6 dX7_player_101 uw_X7 rfl (by decide) 0 rfl rfl (by decide) fl_X7_7 rfl ?_
    refine VS.bipush (21) dX7_player_104 rfl ?_
    refine VS.iload_n dX7_player_106 rfl ?_
    refine VS.iadd dX7_player_107 ?_
    refine VS.siald (21 + p) dX7_player_108 (by decide) rfl (ix_add) (by omega) (by decide) ?_
    exact VS.iret dX7_player_109 (rfl) (fun _ _ => rfl)
  · refine VS.tableIn 110 dX7_player_21 (by decide) (by decide) rfl (by decide) ?_
    refine VS.aload_n dX7_player_110 rfl ?_
    refine VS.sgetR 6 dX7_player_111 uw_X7 rfl (by decide) 0 rfl rfl (by decide) fl_X7_7 rfl ?_
    refine VS.bipush (24) dX7_player_114 rfl ?_
    refine VS.iload_n dX7_player_116 rfl ?_
    refine VS.iadd dX7_player_117 ?_
    refine VS.siald (24 + p) dX7_player_118 (by decide) rfl (ix_add) (by omega) (by decide) ?_
    exact VS.iret dX7_player_119 (rfl) (fun _ _ => rfl)
  · refine VS.tableIn 120 dX7_player_21 (by decide) (by decide) rfl (by decide) ?_
    refine VS.aload_n dX7_player_120 rfl ?_
    refine VS.sgetR 6 dX7_player_121 uw_X7 rfl (by decide) 0 rfl rfl (by decide) fl_X7_7 rfl ?_
    refine VS.bipush (27) dX7_player_124 rfl ?_
    refine VS.iload_n dX7_player_126 rfl ?_
    refine VS.iadd dX7_player_127 ?_
    refine VS.siald (27 + p) dX7_player_128 (by decide) rfl (ix_add) (by omega) (by decide) ?_
    exact VS.iret dX7_player_129 (rfl) (fun _ _ => rfl)
  · refine VS.tableIn 130 dX7_player_21 (by decide) (by decide) rfl (by decide) ?_
    refine VS.iload_n dX7_player_130 rfl ?_
    refine VS.callN (ct_X7_third l hp) dX7_player_131 mi_X7_third st_X7_third ml_X7_142 (rmOk_D (by decide) (by decide)) (Nat.le_of_ble_eq_true rfl) rfl ?_
    refine VS.aload_n dX7_player_134 rfl ?_
    refine VS.sgetI 6 dX7_player_135 uw_X7 rfl (by decide) 7 rfl rfl (by decide) fl_X7_45 rfl ?_
    refine VS.val (y := rK (M 1)) rfl ?_
    refine VS.ior dX7_player_138 ?_
    refine VS.callN (ct_X7_many l _) dX7_player_139 mi_X7_many st_X7_many ml_X7_55 (rmOk_D (by decide) (by decide)) (Nat.le_of_ble_eq_true rfl) rfl ?_
    exact VS.iret dX7_player_142 (rfl) (fun _ _ => rfl)
  · refine VS.tableOut 143 dX7_player_21 (ho) (by decide) ?_
    refine VS.bipush (-2) dX7_player_143 rfl ?_
    exact VS.iret dX7_player_145 (by unfold rPlayer; rw [pick_out (k := 7) ho rfl]) (fun _ _ => rfl)
set_option maxRecDepth 100000 in
set_option maxHeartbeats 4000000 in
theorem ct_X7_player_no (l : Launch) (M : SS) (q : Int32) (what : Int32) (hq : ¬ (0 ≤ q ∧ q < 3)) : CtS l yX7_player cX7_player 3 (some FieldType.int) (rmD 3) [.ref 0, .int q, .int what] 7 shM M (some (.int (-1))) (M) := by
  refine CtF.of (own := RX7) [some (.ref 0), some (.int q), some (.int what)] (by decide +kernel) rfl (fun _ => Nat.le_of_ble_eq_true rfl) (fun _ => rfl) ?_
  refine VS.iload_n dX7_player_0 rfl ?_
  refine VS.callN (ct_X7_isPlayer l _) dX7_player_1 mi_X7_isPlayer st_X7_isPlayer ml_X7_104 (rmOk_D (by decide) (by decide)) (Nat.le_of_ble_eq_true rfl) rfl ?_
  refine VS.if_ne 9 dX7_player_4 (by decide) (fun hh => absurd (if_neg hq) hh) (fun _ => ?_)
  refine VS.iconst (-1) dX7_player_7 rfl ?_
  exact VS.iret dX7_player_8 (rfl) (fun _ _ => rfl)
def dugB (s : Nat → Int32) (d p : Nat) : Prop := ∃ k, k < d ∧ s (32 + k) = nI p
set_option maxRecDepth 100000 in
set_option maxHeartbeats 4000000 in
theorem ct_X7_told_y (l : Launch) (M : SS)  {p d tr : Nat} (hp : p < 8) (hd : M 1 31 = nI d) (hd2 : d ≤ 150) (htr : M 1 1 = nI tr) (htr2 : tr < 8) (hdug : dugB (M 1) d p) : CtS l yX7_told cX7_told 3 (some FieldType.int) (rmD 2) [.ref 0, .int (nI p)] 7 shM M (some (.int (md (M 1 0) p (M 6) tr))) (upC M 6 (md (M 1 0) p (M 6))) := by
  refine CtF.of (own := RX7) [some (.ref 0), some (.int (nI p)), none] (by decide +kernel) rfl (fun _ => Nat.le_of_ble_eq_true rfl) (fun _ => rfl) ?_
  refine VS.iconst (0) dX7_told_0 rfl ?_
  refine VS.istore_n dX7_told_1 (by decide) rfl ?_
  refine VS.forSH (fun i => ∀ k, k < i → ¬ M 1 (32 + k) = nI p) (i0 := 0) (d) (fun _ => M) (fun i => [some (.ref 0), some (.int (nI p)), some (.int (nI i))]) (Nat.zero_le _) (fun k hk => absurd hk (Nat.not_lt_zero k)) (fun hy => ?_) (fun i hi hy ih => ?_)
  · exact absurd hdug (fun q => by obtain ⟨k, hk, e⟩ := q; exact hy k hk e)
  · refine VS.iload_n dX7_told_2 rfl ?_
    refine VS.aload_n dX7_told_3 rfl ?_
    refine VS.sgetR 6 dX7_told_4 uw_X7 rfl (by decide) 0 rfl rfl (by decide) fl_X7_7 rfl ?_
    refine VS.bipush (31) dX7_told_7 rfl ?_
    refine VS.siald (31) dX7_told_9 (by decide) rfl (rfl) (by decide) (by decide) ?_
    refine VS.val (y := nI d) hd ?_
    refine VS.icmp_ge 55 dX7_told_10 (by decide) (fun hh => absurd hh (nI_ge hi (by omega))) (fun _ => ?_)
    refine VS.aload_n dX7_told_13 rfl ?_
    refine VS.sgetR 6 dX7_told_14 uw_X7 rfl (by decide) 0 rfl rfl (by decide) fl_X7_7 rfl ?_
    refine VS.bipush (32) dX7_told_17 rfl ?_
    refine VS.iload_n dX7_told_19 rfl ?_
    refine VS.iadd dX7_told_20 ?_
    refine VS.siald (32 + i) dX7_told_21 (by decide) rfl (ix_add) (by omega) (by decide) ?_
    refine VS.iload_n dX7_told_22 rfl ?_
    refine VS.icmp_ne 49 dX7_told_23 (by decide) (fun h_23 => ?_) (fun h_23 => ?_)
    · refine VS.iinc (nI (i + 1)) dX7_told_49 rfl (by decide) ((nI_succ i).symm) rfl ?_
      refine VS.goto 2 dX7_told_52 (by decide) ?_
      exact ih (fun k hk => by
            rcases Nat.lt_or_ge k i with q | q
            · exact hy k q
            · rw [show k = i by omega]; exact h_23)
    · refine VS.aload_n dX7_told_26 rfl ?_
      refine VS.iload_n dX7_told_27 rfl ?_
      refine VS.aload_n dX7_told_28 rfl ?_
      refine VS.sgetR 6 dX7_told_29 uw_X7 rfl (by decide) 0 rfl rfl (by decide) fl_X7_7 rfl ?_
      refine VS.iconst (0) dX7_told_32 rfl ?_
      refine VS.siald (0) dX7_told_33 (by decide) rfl (rfl) (by decide) (by decide) ?_
      refine VS.val (y := M 1 0) rfl ?_
      refine VS.callT (ct_X7_measures l _ _ hp) dX7_told_34 mi_X7_measures im_X7_measures sel_X7_measures ml_X7_121 (by decide) rfl rfl (rmOk_D (by decide) (by decide)) (Nat.le_of_ble_eq_true rfl) rfl ?_
      refine VS.aload_n dX7_told_37 rfl ?_
      refine VS.sgetR 6 dX7_told_38 uw_X7 rfl (by decide) 9 rfl rfl (by decide) fl_X7_26 rfl ?_
      refine VS.aload_n dX7_told_41 rfl ?_
      refine VS.sgetR 6 dX7_told_42 uw_X7 rfl (by decide) 0 rfl rfl (by decide) fl_X7_7 rfl ?_
      refine VS.iconst (1) dX7_told_45 rfl ?_
      refine VS.siald (1) dX7_told_46 (by decide) rfl (rfl) (by decide) (by decide) ?_
      refine VS.siald (tr) dX7_told_47 (by decide) rfl (htr) (htr2) (by decide) ?_
      refine VS.val (y := md (M 1 0) p (M 6) tr) rfl ?_
      exact VS.iret dX7_told_48 (rfl) (fun _ _ => rfl)
set_option maxRecDepth 100000 in
set_option maxHeartbeats 4000000 in
theorem ct_X7_told_n (l : Launch) (M : SS)  {p d tr : Nat} (hp : p < 8) (hd : M 1 31 = nI d) (hd2 : d ≤ 150) (htr : M 1 1 = nI tr) (htr2 : tr < 8) (hdug : ¬ dugB (M 1) d p) : CtS l yX7_told cX7_told 3 (some FieldType.int) (rmD 2) [.ref 0, .int (nI p)] 7 shM M (some (.int (-6))) (M) := by
  refine CtF.of (own := RX7) [some (.ref 0), some (.int (nI p)), none] (by decide +kernel) rfl (fun _ => Nat.le_of_ble_eq_true rfl) (fun _ => rfl) ?_
  refine VS.iconst (0) dX7_told_0 rfl ?_
  refine VS.istore_n dX7_told_1 (by decide) rfl ?_
  refine VS.forS (i0 := 0) (d) (fun _ => M) (fun i => [some (.ref 0), some (.int (nI p)), some (.int (nI i))]) (Nat.zero_le _) ?_ (fun i hi ih => ?_)
  · refine VS.iload_n dX7_told_2 rfl ?_
    refine VS.aload_n dX7_told_3 rfl ?_
    refine VS.sgetR 6 dX7_told_4 uw_X7 rfl (by decide) 0 rfl rfl (by decide) fl_X7_7 rfl ?_
    refine VS.bipush (31) dX7_told_7 rfl ?_
    refine VS.siald (31) dX7_told_9 (by decide) rfl (rfl) (by decide) (by decide) ?_
    refine VS.val (y := nI d) hd ?_
    refine VS.icmp_ge 55 dX7_told_10 (by decide) (fun _ => ?_) (fun hh => absurd (nI_le (Nat.le_refl _) (by omega)) hh)
    refine VS.bipush (-6) dX7_told_55 rfl ?_
    exact VS.iret dX7_told_57 (rfl) (fun _ _ => rfl)
  · refine VS.iload_n dX7_told_2 rfl ?_
    refine VS.aload_n dX7_told_3 rfl ?_
    refine VS.sgetR 6 dX7_told_4 uw_X7 rfl (by decide) 0 rfl rfl (by decide) fl_X7_7 rfl ?_
    refine VS.bipush (31) dX7_told_7 rfl ?_
    refine VS.siald (31) dX7_told_9 (by decide) rfl (rfl) (by decide) (by decide) ?_
    refine VS.val (y := nI d) hd ?_
    refine VS.icmp_ge 55 dX7_told_10 (by decide) (fun hh => absurd hh (nI_ge hi (by omega))) (fun _ => ?_)
    refine VS.aload_n dX7_told_13 rfl ?_
    refine VS.sgetR 6 dX7_told_14 uw_X7 rfl (by decide) 0 rfl rfl (by decide) fl_X7_7 rfl ?_
    refine VS.bipush (32) dX7_told_17 rfl ?_
    refine VS.iload_n dX7_told_19 rfl ?_
    refine VS.iadd dX7_told_20 ?_
    refine VS.siald (32 + i) dX7_told_21 (by decide) rfl (ix_add) (by omega) (by decide) ?_
    refine VS.iload_n dX7_told_22 rfl ?_
    refine VS.icmp_ne 49 dX7_told_23 (by decide) (fun _ => ?_) (fun hh => absurd hh (fun q => hdug ⟨i, hi, q⟩))
    refine VS.iinc (nI (i + 1)) dX7_told_49 rfl (by decide) ((nI_succ i).symm) rfl ?_
    refine VS.goto 2 dX7_told_52 (by decide) ?_
    exact ih
def rPlace (s : Nat → Int32) (p : Nat) (tld what : Int32) : Int32 := pick [if 0 < s 6 then pcI (k_at p &&& s 0) else -6, pcI (k_at p &&& rTh s), pcI (k_at p &&& (rK s ^^^ -1)), tld, ngJ (rTh s) p 8] what (-2)
set_option maxRecDepth 100000 in
set_option maxHeartbeats 4000000 in
theorem ct_X7_place (l : Launch) (M : SS) (what : Int32) {p : Nat} {tld : Int32} (hp : p < 8) (h3w : ¬ what = 3) : CtS l yX7_place cX7_place 3 (some FieldType.int) (rmD 3) [.ref 0, .int (nI p), .int what] 7 shM M (some (.int (rPlace (M 1) p tld what))) (rFol M (M 1 17)) := by
  refine CtF.of (own := RX7) [some (.ref 0), some (.int (nI p)), some (.int what)] (by decide +kernel) rfl (fun _ => Nat.le_of_ble_eq_true rfl) (fun _ => rfl) ?_
  refine VS.iload_n dX7_place_0 rfl ?_
  refine VS.callN (ct_X7_isPlace l _) dX7_place_1 mi_X7_isPlace st_X7_isPlace ml_X7_67 (rmOk_D (by decide) (by decide)) (Nat.le_of_ble_eq_true rfl) rfl ?_
  refine VS.if_ne 9 dX7_place_4 (by decide) (fun _ => ?_) (fun hh => absurd hh (pc_y hp))
  refine VS.aload_n dX7_place_9 rfl ?_
  refine VS.aload_n dX7_place_10 rfl ?_
  refine VS.sgetR 6 dX7_place_11 uw_X7 rfl (by decide) 0 rfl rfl (by decide) fl_X7_7 rfl ?_
  refine VS.bipush (17) dX7_place_14 rfl ?_
  refine VS.siald (17) dX7_place_16 (by decide) rfl (rfl) (by decide) (by decide) ?_
  refine VS.val (y := M 1 17) rfl ?_
  refine VS.callT (ct_X7_follows l _ _) dX7_place_17 mi_X7_follows im_X7_follows sel_X7_follows ml_X7_80 (by decide) rfl rfl (rmOk_D (by decide) (by decide)) (Nat.le_of_ble_eq_true rfl) rfl ?_
  refine VS.iload_n dX7_place_20 rfl ?_
  rcases sw_0_4 what with rfl | rfl | rfl | rfl | rfl | ho
  · refine VS.tableIn 56 dX7_place_21 (by decide) (by decide) rfl (by decide) ?_
    refine VS.aload_n dX7_place_56 rfl ?_
    refine VS.callT (ct_X7_hasBegun l _) dX7_place_57 mi_X7_hasBegun im_X7_hasBegun sel_X7_hasBegun ml_X7_41 (by decide) rfl rfl (rmOk_D (by decide) (by decide)) (Nat.le_of_ble_eq_true rfl) rfl ?_
    refine VS.if_eq 80 dX7_place_60 (by decide) (fun h_60 => ?_) (fun h_60 => ?_)
    · refine VS.bipush (-6) dX7_place_80 rfl ?_
      exact VS.iret dX7_place_82 (by first | exact congrArg (fun z => some (Value.int z)) (show (if 0 < M 1 6 then pcI (k_at p &&& M 1 0) else (-6 : Int32)) = _ from if_pos (ite11 h_60)) | exact congrArg (fun z => some (Value.int z)) (show (if 0 < M 1 6 then pcI (k_at p &&& M 1 0) else (-6 : Int32)) = _ from if_neg (ite10.mp h_60))) (fun _ _ => rfl)
    · refine VS.iload_n dX7_place_63 rfl ?_
      refine VS.callN (ct_X7_around l hp) dX7_place_64 mi_X7_around st_X7_around ml_X7_51 (rmOk_D (by decide) (by decide)) (Nat.le_of_ble_eq_true rfl) rfl ?_
      refine VS.aload_n dX7_place_67 rfl ?_
      refine VS.sgetR 6 dX7_place_68 uw_X7 rfl (by decide) 0 rfl rfl (by decide) fl_X7_7 rfl ?_
      refine VS.iconst (0) dX7_place_71 rfl ?_
      refine VS.siald (0) dX7_place_72 (by decide) rfl (rfl) (by decide) (by decide) ?_
      refine VS.val (y := M 1 0) rfl ?_
      refine VS.iand dX7_place_73 ?_
      refine VS.callN (ct_X7_many l _) dX7_place_74 mi_X7_many st_X7_many ml_X7_55 (rmOk_D (by decide) (by decide)) (Nat.le_of_ble_eq_true rfl) rfl ?_
      refine VS.goto 82 dX7_place_77 (by decide) ?_
      exact VS.iret dX7_place_82 (by first | exact congrArg (fun z => some (Value.int z)) (show (if 0 < M 1 6 then pcI (k_at p &&& M 1 0) else (-6 : Int32)) = _ from if_pos (ite11 h_60)) | exact congrArg (fun z => some (Value.int z)) (show (if 0 < M 1 6 then pcI (k_at p &&& M 1 0) else (-6 : Int32)) = _ from if_neg (ite10.mp h_60))) (fun _ _ => rfl)
  · refine VS.tableIn 83 dX7_place_21 (by decide) (by decide) rfl (by decide) ?_
    refine VS.iload_n dX7_place_83 rfl ?_
    refine VS.callN (ct_X7_around l hp) dX7_place_84 mi_X7_around st_X7_around ml_X7_51 (rmOk_D (by decide) (by decide)) (Nat.le_of_ble_eq_true rfl) rfl ?_
    refine VS.aload_n dX7_place_87 rfl ?_
    refine VS.sgetI 6 dX7_place_88 uw_X7 rfl (by decide) 8 rfl rfl (by decide) fl_X7_48 rfl ?_
    refine VS.val (y := rTh (M 1)) rfl ?_
    refine VS.iand dX7_place_91 ?_
    refine VS.callN (ct_X7_many l _) dX7_place_92 mi_X7_many st_X7_many ml_X7_55 (rmOk_D (by decide) (by decide)) (Nat.le_of_ble_eq_true rfl) rfl ?_
    exact VS.iret dX7_place_95 (rfl) (fun _ _ => rfl)
  · refine VS.tableIn 96 dX7_place_21 (by decide) (by decide) rfl (by decide) ?_
    refine VS.iload_n dX7_place_96 rfl ?_
    refine VS.callN (ct_X7_around l hp) dX7_place_97 mi_X7_around st_X7_around ml_X7_51 (rmOk_D (by decide) (by decide)) (Nat.le_of_ble_eq_true rfl) rfl ?_
    refine VS.aload_n dX7_place_100 rfl ?_
    refine VS.sgetI 6 dX7_place_101 uw_X7 rfl (by decide) 7 rfl rfl (by decide) fl_X7_45 rfl ?_
    refine VS.val (y := rK (M 1)) rfl ?_
    refine VS.iconst (-1) dX7_place_104 rfl ?_
    refine VS.ixor dX7_place_105 ?_
    refine VS.iand dX7_place_106 ?_
    refine VS.callN (ct_X7_many l _) dX7_place_107 mi_X7_many st_X7_many ml_X7_55 (rmOk_D (by decide) (by decide)) (Nat.le_of_ble_eq_true rfl) rfl ?_
    exact VS.iret dX7_place_110 (rfl) (fun _ _ => rfl)
  · refine VS.tableIn 111 dX7_place_21 (by decide) (by decide) rfl (by decide) ?_
    refine VS.aload_n dX7_place_111 rfl ?_
    refine VS.iload_n dX7_place_112 rfl ?_
    exact absurd rfl h3w
  · refine VS.tableIn 117 dX7_place_21 (by decide) (by decide) rfl (by decide) ?_
    refine VS.aload_n dX7_place_117 rfl ?_
    refine VS.iload_n dX7_place_118 rfl ?_
    refine VS.callT (ct_X7_neighbours l _ hp) dX7_place_119 mi_X7_neighbours im_X7_neighbours sel_X7_neighbours ml_X7_148 (by decide) rfl rfl (rmOk_D (by decide) (by decide)) (Nat.le_of_ble_eq_true rfl) rfl ?_
    refine VS.val (y := ngJ (rTh (M 1)) p 8) rfl ?_
    exact VS.iret dX7_place_122 (rfl) (fun _ _ => rfl)
  · refine VS.tableOut 123 dX7_place_21 (ho) (by decide) ?_
    refine VS.bipush (-2) dX7_place_123 rfl ?_
    exact VS.iret dX7_place_125 (by unfold rPlace; rw [pick_out (k := 4) ho rfl]) (fun _ _ => rfl)
set_option maxRecDepth 100000 in
set_option maxHeartbeats 4000000 in
theorem ct_X7_place_3y (l : Launch) (M : SS) {p d tr : Nat} (hp : p < 8) (hd : M 1 31 = nI d) (hd2 : d ≤ 150) (htr : M 1 1 = nI tr) (htr2 : tr < 8) (hdug : dugB (M 1) d p) : CtS l yX7_place cX7_place 3 (some FieldType.int) (rmD 3) [.ref 0, .int (nI p), .int 3] 7 shM M (some (.int (md (M 1 0) p (M 6) tr))) (upC (rFol M (M 1 17)) 6 (md (M 1 0) p (M 6))) := by
  refine CtF.of (own := RX7) [some (.ref 0), some (.int (nI p)), some (.int 3)] (by decide +kernel) rfl (fun _ => Nat.le_of_ble_eq_true rfl) (fun _ => rfl) ?_
  refine VS.iload_n dX7_place_0 rfl ?_
  refine VS.callN (ct_X7_isPlace l _) dX7_place_1 mi_X7_isPlace st_X7_isPlace ml_X7_67 (rmOk_D (by decide) (by decide)) (Nat.le_of_ble_eq_true rfl) rfl ?_
  refine VS.if_ne 9 dX7_place_4 (by decide) (fun _ => ?_) (fun hh => absurd hh (pc_y hp))
  refine VS.aload_n dX7_place_9 rfl ?_
  refine VS.aload_n dX7_place_10 rfl ?_
  refine VS.sgetR 6 dX7_place_11 uw_X7 rfl (by decide) 0 rfl rfl (by decide) fl_X7_7 rfl ?_
  refine VS.bipush (17) dX7_place_14 rfl ?_
  refine VS.siald (17) dX7_place_16 (by decide) rfl (rfl) (by decide) (by decide) ?_
  refine VS.val (y := M 1 17) rfl ?_
  refine VS.callT (ct_X7_follows l _ _) dX7_place_17 mi_X7_follows im_X7_follows sel_X7_follows ml_X7_80 (by decide) rfl rfl (rmOk_D (by decide) (by decide)) (Nat.le_of_ble_eq_true rfl) rfl ?_
  refine VS.iload_n dX7_place_20 rfl ?_
  refine VS.tableIn 111 dX7_place_21 (by decide) (by decide) rfl (by decide) ?_
  refine VS.aload_n dX7_place_111 rfl ?_
  refine VS.iload_n dX7_place_112 rfl ?_
  refine VS.callT (ct_X7_told_y l (rFol M (M 1 17)) hp hd hd2 htr htr2 hdug) dX7_place_113 mi_X7_told im_X7_told sel_X7_told ml_X7_145 (by decide) rfl rfl (rmOk_D (by decide) (by decide)) (Nat.le_of_ble_eq_true rfl) rfl ?_
  exact VS.iret dX7_place_116 (rfl) (fun _ _ => rfl)
set_option maxRecDepth 100000 in
set_option maxHeartbeats 4000000 in
theorem ct_X7_place_3n (l : Launch) (M : SS) {p d tr : Nat} (hp : p < 8) (hd : M 1 31 = nI d) (hd2 : d ≤ 150) (htr : M 1 1 = nI tr) (htr2 : tr < 8) (hdug : ¬ dugB (M 1) d p) : CtS l yX7_place cX7_place 3 (some FieldType.int) (rmD 3) [.ref 0, .int (nI p), .int 3] 7 shM M (some (.int (-6))) (rFol M (M 1 17)) := by
  refine CtF.of (own := RX7) [some (.ref 0), some (.int (nI p)), some (.int 3)] (by decide +kernel) rfl (fun _ => Nat.le_of_ble_eq_true rfl) (fun _ => rfl) ?_
  refine VS.iload_n dX7_place_0 rfl ?_
  refine VS.callN (ct_X7_isPlace l _) dX7_place_1 mi_X7_isPlace st_X7_isPlace ml_X7_67 (rmOk_D (by decide) (by decide)) (Nat.le_of_ble_eq_true rfl) rfl ?_
  refine VS.if_ne 9 dX7_place_4 (by decide) (fun _ => ?_) (fun hh => absurd hh (pc_y hp))
  refine VS.aload_n dX7_place_9 rfl ?_
  refine VS.aload_n dX7_place_10 rfl ?_
  refine VS.sgetR 6 dX7_place_11 uw_X7 rfl (by decide) 0 rfl rfl (by decide) fl_X7_7 rfl ?_
  refine VS.bipush (17) dX7_place_14 rfl ?_
  refine VS.siald (17) dX7_place_16 (by decide) rfl (rfl) (by decide) (by decide) ?_
  refine VS.val (y := M 1 17) rfl ?_
  refine VS.callT (ct_X7_follows l _ _) dX7_place_17 mi_X7_follows im_X7_follows sel_X7_follows ml_X7_80 (by decide) rfl rfl (rmOk_D (by decide) (by decide)) (Nat.le_of_ble_eq_true rfl) rfl ?_
  refine VS.iload_n dX7_place_20 rfl ?_
  refine VS.tableIn 111 dX7_place_21 (by decide) (by decide) rfl (by decide) ?_
  refine VS.aload_n dX7_place_111 rfl ?_
  refine VS.iload_n dX7_place_112 rfl ?_
  refine VS.callT (ct_X7_told_n l (rFol M (M 1 17)) hp hd hd2 htr htr2 hdug) dX7_place_113 mi_X7_told im_X7_told sel_X7_told ml_X7_145 (by decide) rfl rfl (rmOk_D (by decide) (by decide)) (Nat.le_of_ble_eq_true rfl) rfl ?_
  exact VS.iret dX7_place_116 (rfl) (fun _ _ => rfl)
set_option maxRecDepth 100000 in
set_option maxHeartbeats 4000000 in
theorem ct_X7_place_no (l : Launch) (M : SS) (a : Int32) (what : Int32) (ha : ¬ (0 ≤ a ∧ a < 8)) : CtS l yX7_place cX7_place 3 (some FieldType.int) (rmD 3) [.ref 0, .int a, .int what] 7 shM M (some (.int (-1))) (M) := by
  refine CtF.of (own := RX7) [some (.ref 0), some (.int a), some (.int what)] (by decide +kernel) rfl (fun _ => Nat.le_of_ble_eq_true rfl) (fun _ => rfl) ?_
  refine VS.iload_n dX7_place_0 rfl ?_
  refine VS.callN (ct_X7_isPlace l _) dX7_place_1 mi_X7_isPlace st_X7_isPlace ml_X7_67 (rmOk_D (by decide) (by decide)) (Nat.le_of_ble_eq_true rfl) rfl ?_
  refine VS.if_ne 9 dX7_place_4 (by decide) (fun hh => absurd (if_neg ha) hh) (fun _ => ?_)
  refine VS.iconst (-1) dX7_place_7 rfl ?_
  exact VS.iret dX7_place_8 (rfl) (fun _ _ => rfl)
theorem sub1 {d : Nat} : nI (d + 1) - 1 = nI d := nI_pred d
theorem dug_in {r : Int32} {d : Nat} (hd : d ≤ 150) (h : 0 ≤ r ∧ r ≤ nI d - 1) : ∃ k, k < d ∧ r = nI k := by
  cases d with
  | zero => obtain ⟨h1, h2⟩ := h; rw [show nI 0 - 1 = (-1 : Int32) from rfl] at h2; exact absurd (Int32.le_trans h1 h2) (by decide)
  | succ d =>
    rw [nI_pred] at h
    obtain ⟨j, hj, e⟩ := nI_of2 (n := d) (nI_toInt (by omega)) (Int32.not_lt.mpr h.1) h.2
    exact ⟨j, by omega, e⟩
theorem dug_of {k d : Nat} (h : k < d) (hd : d ≤ 150) : 0 ≤ nI k ∧ nI k ≤ nI d - 1 := by
  obtain ⟨e, rfl⟩ : ∃ e, d = e + 1 := ⟨d - 1, by omega⟩
  rw [nI_pred]
  exact ⟨nI_pos' (by omega), nI_le (by omega) (by omega)⟩
set_option maxRecDepth 100000 in
set_option maxHeartbeats 4000000 in
theorem ct_X7_dug (l : Launch) (M : SS)  {k d : Nat} (hk : k < d) (hd : M 1 31 = nI d) (hd2 : d ≤ 150) : CtS l yX7_dug cX7_dug 2 (some FieldType.int) (rmD 1) [.ref 0, .int (nI k)] 7 shM M (some (.int (M 1 (32 + k)))) (M) := by
  refine CtF.of (own := RX7) [some (.ref 0), some (.int (nI k))] (by decide +kernel) rfl (fun _ => Nat.le_of_ble_eq_true rfl) (fun _ => rfl) ?_
  refine VS.iload_n dX7_dug_0 rfl ?_
  refine VS.iconst (0) dX7_dug_1 rfl ?_
  refine VS.aload_n dX7_dug_2 rfl ?_
  refine VS.sgetR 6 dX7_dug_3 uw_X7 rfl (by decide) 0 rfl rfl (by decide) fl_X7_7 rfl ?_
  refine VS.bipush (31) dX7_dug_6 rfl ?_
  refine VS.siald (31) dX7_dug_8 (by decide) rfl (rfl) (by decide) (by decide) ?_
  refine VS.val (y := nI d) hd ?_
  refine VS.iconst (1) dX7_dug_9 rfl ?_
  refine VS.isub dX7_dug_10 ?_
  refine VS.callN (ct_X7_in l _ _ _) dX7_dug_11 mi_X7_in st_X7_in ml_X7_29 (rmOk_D (by decide) (by decide)) (Nat.le_of_ble_eq_true rfl) rfl ?_
  refine VS.if_eq 29 dX7_dug_14 (by decide) (fun hh => absurd hh (by rw [if_pos (dug_of hk hd2)]; decide)) (fun _ => ?_)
  refine VS.aload_n dX7_dug_17 rfl ?_
  refine VS.sgetR 6 dX7_dug_18 uw_X7 rfl (by decide) 0 rfl rfl (by decide) fl_X7_7 rfl ?_
  refine VS.bipush (32) dX7_dug_21 rfl ?_
  refine VS.iload_n dX7_dug_23 rfl ?_
  refine VS.iadd dX7_dug_24 ?_
  refine VS.siald (32 + k) dX7_dug_25 (by decide) rfl (ix_add) (by omega) (by decide) ?_
  refine VS.goto 30 dX7_dug_26 (by decide) ?_
  exact VS.iret dX7_dug_30 (rfl) (fun _ _ => rfl)
set_option maxRecDepth 100000 in
set_option maxHeartbeats 4000000 in
theorem ct_X7_dug_no (l : Launch) (M : SS) (r : Int32) {d : Nat} (hr : ¬ (0 ≤ r ∧ r ≤ nI d - 1)) (hd : M 1 31 = nI d) : CtS l yX7_dug cX7_dug 2 (some FieldType.int) (rmD 1) [.ref 0, .int r] 7 shM M (some (.int (-1))) (M) := by
  refine CtF.of (own := RX7) [some (.ref 0), some (.int r)] (by decide +kernel) rfl (fun _ => Nat.le_of_ble_eq_true rfl) (fun _ => rfl) ?_
  refine VS.iload_n dX7_dug_0 rfl ?_
  refine VS.iconst (0) dX7_dug_1 rfl ?_
  refine VS.aload_n dX7_dug_2 rfl ?_
  refine VS.sgetR 6 dX7_dug_3 uw_X7 rfl (by decide) 0 rfl rfl (by decide) fl_X7_7 rfl ?_
  refine VS.bipush (31) dX7_dug_6 rfl ?_
  refine VS.siald (31) dX7_dug_8 (by decide) rfl (rfl) (by decide) (by decide) ?_
  refine VS.val (y := nI d) hd ?_
  refine VS.iconst (1) dX7_dug_9 rfl ?_
  refine VS.isub dX7_dug_10 ?_
  refine VS.callN (ct_X7_in l _ _ _) dX7_dug_11 mi_X7_in st_X7_in ml_X7_29 (rmOk_D (by decide) (by decide)) (Nat.le_of_ble_eq_true rfl) rfl ?_
  refine VS.if_eq 29 dX7_dug_14 (by decide) (fun _ => ?_) (fun hh => absurd (if_neg hr) hh)
  refine VS.iconst (-1) dX7_dug_29 rfl ?_
  exact VS.iret dX7_dug_30 (rfl) (fun _ _ => rfl)
set_option maxRecDepth 100000 in
set_option maxHeartbeats 4000000 in
theorem ct_X7_count (l : Launch) (M : SS) (what : Int32) : CtS l yX7_count cX7_count 2 (some FieldType.int) (rmD 3) [.ref 0, .int what] 7 shM M (some (.int (rCount (M 1) (M 0 6) (M 0 2) what))) (rFol M (M 1 17)) := by
  refine CtF.of (own := RX7) [some (.ref 0), some (.int what)] (by decide +kernel) rfl (fun _ => Nat.le_of_ble_eq_true rfl) (fun _ => rfl) ?_
  refine VS.aload_n dX7_count_0 rfl ?_
  refine VS.aload_n dX7_count_1 rfl ?_
  refine VS.sgetR 6 dX7_count_2 uw_X7 rfl (by decide) 0 rfl rfl (by decide) fl_X7_7 rfl ?_
  refine VS.bipush (17) dX7_count_5 rfl ?_
  refine VS.siald (17) dX7_count_7 (by decide) rfl (rfl) (by decide) (by decide) ?_
  refine VS.val (y := M 1 17) rfl ?_
  refine VS.callT (ct_X7_follows l _ _) dX7_count_8 mi_X7_follows im_X7_follows sel_X7_follows ml_X7_80 (by decide) rfl rfl (rmOk_D (by decide) (by decide)) (Nat.le_of_ble_eq_true rfl) rfl ?_
  refine VS.iload_n dX7_count_11 rfl ?_
  rcases sw_0_13 what with rfl | rfl | rfl | rfl | rfl | rfl | rfl | rfl | rfl | rfl | rfl | rfl | rfl | rfl | ho
  · refine VS.tableIn 84 dX7_count_12 (by decide) (by decide) rfl (by decide) ?_
    refine VS.aload_n dX7_count_84 rfl ?_
    refine VS.sgetR 6 dX7_count_85 uw_X7 rfl (by decide) 0 rfl rfl (by decide) fl_X7_7 rfl ?_
    refine VS.bipush (7) dX7_count_88 rfl ?_
    refine VS.siald (7) dX7_count_90 (by decide) rfl (rfl) (by decide) (by decide) ?_
    exact VS.iret dX7_count_91 (rfl) (fun _ _ => rfl)
  · refine VS.tableIn 92 dX7_count_12 (by decide) (by decide) rfl (by decide) ?_
    refine VS.aload_n dX7_count_92 rfl ?_
    refine VS.callT (ct_X7_turn l _) dX7_count_93 mi_X7_turn im_X7_turn sel_X7_turn ml_X7_87 (by decide) rfl rfl (rmOk_D (by decide) (by decide)) (Nat.le_of_ble_eq_true rfl) rfl ?_
    exact VS.iret dX7_count_96 (rfl) (fun _ _ => rfl)
  · refine VS.tableIn 97 dX7_count_12 (by decide) (by decide) rfl (by decide) ?_
    refine VS.aload_n dX7_count_97 rfl ?_
    refine VS.sgetR 6 dX7_count_98 uw_X7 rfl (by decide) 0 rfl rfl (by decide) fl_X7_7 rfl ?_
    refine VS.bipush (6) dX7_count_101 rfl ?_
    refine VS.siald (6) dX7_count_103 (by decide) rfl (rfl) (by decide) (by decide) ?_
    exact VS.iret dX7_count_104 (rfl) (fun _ _ => rfl)
  · refine VS.tableIn 105 dX7_count_12 (by decide) (by decide) rfl (by decide) ?_
    refine VS.aload_n dX7_count_105 rfl ?_
    refine VS.sgetR 6 dX7_count_106 uw_X7 rfl (by decide) 0 rfl rfl (by decide) fl_X7_7 rfl ?_
    refine VS.bipush (30) dX7_count_109 rfl ?_
    refine VS.siald (30) dX7_count_111 (by decide) rfl (rfl) (by decide) (by decide) ?_
    exact VS.iret dX7_count_112 (rfl) (fun _ _ => rfl)
  · refine VS.tableIn 113 dX7_count_12 (by decide) (by decide) rfl (by decide) ?_
    refine VS.aload_n dX7_count_113 rfl ?_
    refine VS.sgetI 6 dX7_count_114 uw_X7 rfl (by decide) 7 rfl rfl (by decide) fl_X7_45 rfl ?_
    refine VS.val (y := rK (M 1)) rfl ?_
    refine VS.callN (ct_X7_many l _) dX7_count_117 mi_X7_many st_X7_many ml_X7_55 (rmOk_D (by decide) (by decide)) (Nat.le_of_ble_eq_true rfl) rfl ?_
    exact VS.iret dX7_count_120 (rfl) (fun _ _ => rfl)
  · refine VS.tableIn 121 dX7_count_12 (by decide) (by decide) rfl (by decide) ?_
    refine VS.aload_n dX7_count_121 rfl ?_
    refine VS.sgetI 6 dX7_count_122 uw_X7 rfl (by decide) 8 rfl rfl (by decide) fl_X7_48 rfl ?_
    refine VS.val (y := rTh (M 1)) rfl ?_
    refine VS.callN (ct_X7_many l _) dX7_count_125 mi_X7_many st_X7_many ml_X7_55 (rmOk_D (by decide) (by decide)) (Nat.le_of_ble_eq_true rfl) rfl ?_
    exact VS.iret dX7_count_128 (rfl) (fun _ _ => rfl)
  · refine VS.tableIn 129 dX7_count_12 (by decide) (by decide) rfl (by decide) ?_
    refine VS.aload_n dX7_count_129 rfl ?_
    refine VS.iconst (0) dX7_count_130 rfl ?_
    refine VS.callT (ct_X7_shown l _ (p := 0) (by decide)) dX7_count_131 mi_X7_shown im_X7_shown sel_X7_shown ml_X7_139 (by decide) rfl rfl (rmOk_D (by decide) (by decide)) (Nat.le_of_ble_eq_true rfl) rfl ?_
    refine VS.val (y := rShown (M 1) 0) rfl ?_
    refine VS.aload_n dX7_count_134 rfl ?_
    refine VS.iconst (1) dX7_count_135 rfl ?_
    refine VS.callT (ct_X7_shown l _ (p := 1) (by decide)) dX7_count_136 mi_X7_shown im_X7_shown sel_X7_shown ml_X7_139 (by decide) rfl rfl (rmOk_D (by decide) (by decide)) (Nat.le_of_ble_eq_true rfl) rfl ?_
    refine VS.val (y := rShown (M 1) 1) rfl ?_
    refine VS.iadd dX7_count_139 ?_
    refine VS.aload_n dX7_count_140 rfl ?_
    refine VS.iconst (2) dX7_count_141 rfl ?_
    refine VS.callT (ct_X7_shown l _ (p := 2) (by decide)) dX7_count_142 mi_X7_shown im_X7_shown sel_X7_shown ml_X7_139 (by decide) rfl rfl (rmOk_D (by decide) (by decide)) (Nat.le_of_ble_eq_true rfl) rfl ?_
    refine VS.val (y := rShown (M 1) 2) rfl ?_
    refine VS.iadd dX7_count_145 ?_
    exact VS.iret dX7_count_146 (rfl) (fun _ _ => rfl)
  · refine VS.tableIn 147 dX7_count_12 (by decide) (by decide) rfl (by decide) ?_
    refine VS.aload_n dX7_count_147 rfl ?_
    refine VS.sgetR 6 dX7_count_148 uw_X7 rfl (by decide) 0 rfl rfl (by decide) fl_X7_7 rfl ?_
    refine VS.bipush (17) dX7_count_151 rfl ?_
    refine VS.siald (17) dX7_count_153 (by decide) rfl (rfl) (by decide) (by decide) ?_
    refine VS.callN (ct_X7_many l _) dX7_count_154 mi_X7_many st_X7_many ml_X7_55 (rmOk_D (by decide) (by decide)) (Nat.le_of_ble_eq_true rfl) rfl ?_
    exact VS.iret dX7_count_157 (rfl) (fun _ _ => rfl)
  · refine VS.tableIn 158 dX7_count_12 (by decide) (by decide) rfl (by decide) ?_
    refine VS.aload_n dX7_count_158 rfl ?_
    refine VS.sgetR 6 dX7_count_159 uw_X7 rfl (by decide) 0 rfl rfl (by decide) fl_X7_7 rfl ?_
    refine VS.iconst (2) dX7_count_162 rfl ?_
    refine VS.iload_n dX7_count_163 rfl ?_
    refine VS.iadd dX7_count_164 ?_
    refine VS.bipush (8) dX7_count_165 rfl ?_
    refine VS.isub dX7_count_167 ?_
    refine VS.siald (2) dX7_count_168 (by decide) rfl (by decide) (by decide) (by decide) ?_
    exact VS.iret dX7_count_169 (rfl) (fun _ _ => rfl)
  · refine VS.tableIn 158 dX7_count_12 (by decide) (by decide) rfl (by decide) ?_
    refine VS.aload_n dX7_count_158 rfl ?_
    refine VS.sgetR 6 dX7_count_159 uw_X7 rfl (by decide) 0 rfl rfl (by decide) fl_X7_7 rfl ?_
    refine VS.iconst (2) dX7_count_162 rfl ?_
    refine VS.iload_n dX7_count_163 rfl ?_
    refine VS.iadd dX7_count_164 ?_
    refine VS.bipush (8) dX7_count_165 rfl ?_
    refine VS.isub dX7_count_167 ?_
    refine VS.siald (3) dX7_count_168 (by decide) rfl (by decide) (by decide) (by decide) ?_
    exact VS.iret dX7_count_169 (rfl) (fun _ _ => rfl)
  · refine VS.tableIn 158 dX7_count_12 (by decide) (by decide) rfl (by decide) ?_
    refine VS.aload_n dX7_count_158 rfl ?_
    refine VS.sgetR 6 dX7_count_159 uw_X7 rfl (by decide) 0 rfl rfl (by decide) fl_X7_7 rfl ?_
    refine VS.iconst (2) dX7_count_162 rfl ?_
    refine VS.iload_n dX7_count_163 rfl ?_
    refine VS.iadd dX7_count_164 ?_
    refine VS.bipush (8) dX7_count_165 rfl ?_
    refine VS.isub dX7_count_167 ?_
    refine VS.siald (4) dX7_count_168 (by decide) rfl (by decide) (by decide) (by decide) ?_
    exact VS.iret dX7_count_169 (rfl) (fun _ _ => rfl)
  · refine VS.tableIn 158 dX7_count_12 (by decide) (by decide) rfl (by decide) ?_
    refine VS.aload_n dX7_count_158 rfl ?_
    refine VS.sgetR 6 dX7_count_159 uw_X7 rfl (by decide) 0 rfl rfl (by decide) fl_X7_7 rfl ?_
    refine VS.iconst (2) dX7_count_162 rfl ?_
    refine VS.iload_n dX7_count_163 rfl ?_
    refine VS.iadd dX7_count_164 ?_
    refine VS.bipush (8) dX7_count_165 rfl ?_
    refine VS.isub dX7_count_167 ?_
    refine VS.siald (5) dX7_count_168 (by decide) rfl (by decide) (by decide) (by decide) ?_
    exact VS.iret dX7_count_169 (rfl) (fun _ _ => rfl)
  · refine VS.tableIn 170 dX7_count_12 (by decide) (by decide) rfl (by decide) ?_
    refine VS.aload_n dX7_count_170 rfl ?_
    refine VS.sgetI 6 dX7_count_171 uw_X7 rfl (by decide) 6 rfl rfl (by decide) fl_X7_151 rfl ?_
    exact VS.iret dX7_count_174 (rfl) (fun _ _ => rfl)
  · refine VS.tableIn 175 dX7_count_12 (by decide) (by decide) rfl (by decide) ?_
    refine VS.aload_n dX7_count_175 rfl ?_
    refine VS.sgetI 6 dX7_count_176 uw_X7 rfl (by decide) 2 rfl rfl (by decide) fl_X7_33 rfl ?_
    exact VS.iret dX7_count_179 (rfl) (fun _ _ => rfl)
  · refine VS.tableOut 180 dX7_count_12 (ho) (by decide) ?_
    refine VS.bipush (-2) dX7_count_180 rfl ?_
    exact VS.iret dX7_count_182 (by unfold rCount; rw [pick_out (k := 13) ho rfl]) (fun _ _ => rfl)
set_option maxRecDepth 100000 in
set_option maxHeartbeats 4000000 in
theorem ct_X7_wipe (l : Launch) (M : SS)  : CtS l yX7_wipe cX7_wipe 2 (some FieldType.int) (rmD 0) [.ref 0] 7 shM M (some (.int (M 0 6))) (up2 M 0 6 0) := by
  refine CtF.of (own := RX7) [some (.ref 0), none] (by decide +kernel) rfl (fun _ => Nat.le_of_ble_eq_true rfl) (fun _ => rfl) ?_
  refine VS.aload_n dX7_wipe_0 rfl ?_
  refine VS.sgetI 6 dX7_wipe_1 uw_X7 rfl (by decide) 6 rfl rfl (by decide) fl_X7_151 rfl ?_
  refine VS.istore_n dX7_wipe_4 (by decide) rfl ?_
  refine VS.aload_n dX7_wipe_5 rfl ?_
  refine VS.iconst (0) dX7_wipe_6 rfl ?_
  refine VS.sput 6 dX7_wipe_7 uw_X7 tyX7 tyX7_ok nmX7 rfl (by decide) 6 rfl rfl (by decide) fl_X7_151 rfl rfl (rfl) (rfl) ?_
  refine VS.iload_n dX7_wipe_10 rfl ?_
  exact VS.iret dX7_wipe_11 (rfl) (fun _ _ => rfl)
end
section
/-! the reference: what if; roads that follow from one more -/
def rMore (s : Nat → Int32) (e : Int32) : Int32 := if sb (rK s) e = 1 then 0 else pcI (rKn s (s 17 ||| (1 : Int32) <<< (e &&& 31))) - pcI (rK s)
def mMore (M : SS) (e : Int32) : SS := if sb (rK (M 1)) e = 1 then rFol M (M 1 17) else rFol M (M 1 17 ||| (1 : Int32) <<< (e &&& 31))
theorem mMore_1 (M : SS) (e : Int32) : mMore M e 1 = M 1 := by
  unfold mMore; split <;> rfl
theorem stt_if {c : Prop} [Decidable c] {a b x : SS} (h : c) (e : x = a) : x = (if c then a else b) := by rw [if_pos h]; exact e
theorem stt_else {c : Prop} [Decidable c] {a b x : SS} (h : ¬ c) (e : x = b) : x = (if c then a else b) := by rw [if_neg h]; exact e
theorem shk {sh : Nat → Shp} {S S2 : SS} (h : S = S2) : ∀ k, k < 7 → shW sh S k = shW sh S2 k := fun k _ => by rw [h]
set_option maxRecDepth 100000 in
set_option maxHeartbeats 4000000 in
theorem ct_X7_more (l : Launch) (M : SS) (e : Int32) : CtS l yX7_more cX7_more 3 (some FieldType.int) (rmD 3) [.ref 0, .int e] 7 shM M (some (.int (rMore (M 1) e))) (mMore M e) := by
  refine CtF.of (own := RX7) [some (.ref 0), some (.int e), none] (by decide +kernel) rfl (fun _ => Nat.le_of_ble_eq_true rfl) (fun _ => rfl) ?_
  refine VS.aload_n dX7_more_0 rfl ?_
  refine VS.aload_n dX7_more_1 rfl ?_
  refine VS.sgetR 6 dX7_more_2 uw_X7 rfl (by decide) 0 rfl rfl (by decide) fl_X7_7 rfl ?_
  refine VS.bipush (17) dX7_more_5 rfl ?_
  refine VS.siald (17) dX7_more_7 (by decide) rfl (rfl) (by decide) (by decide) ?_
  refine VS.val (y := M 1 17) rfl ?_
  refine VS.callT (ct_X7_follows l _ _) dX7_more_8 mi_X7_follows im_X7_follows sel_X7_follows ml_X7_80 (by decide) rfl rfl (rmOk_D (by decide) (by decide)) (Nat.le_of_ble_eq_true rfl) rfl ?_
  refine VS.aload_n dX7_more_11 rfl ?_
  refine VS.sgetI 6 dX7_more_12 uw_X7 rfl (by decide) 7 rfl rfl (by decide) fl_X7_45 rfl ?_
  refine VS.val (y := rK (M 1)) rfl ?_
  refine VS.callN (ct_X7_many l _) dX7_more_15 mi_X7_many st_X7_many ml_X7_55 (rmOk_D (by decide) (by decide)) (Nat.le_of_ble_eq_true rfl) rfl ?_
  refine VS.istore_n dX7_more_18 (by decide) rfl ?_
  refine VS.aload_n dX7_more_19 rfl ?_
  refine VS.sgetI 6 dX7_more_20 uw_X7 rfl (by decide) 7 rfl rfl (by decide) fl_X7_45 rfl ?_
  refine VS.val (y := rK (M 1)) rfl ?_
  refine VS.iload_n dX7_more_23 rfl ?_
  refine VS.ishr dX7_more_24 ?_
  refine VS.iconst (1) dX7_more_25 rfl ?_
  refine VS.iand dX7_more_26 ?_
  refine VS.val (y := sb (rK (M 1)) e) rfl ?_
  refine VS.iconst (1) dX7_more_27 rfl ?_
  refine VS.icmp_ne 33 dX7_more_28 (by decide) (fun h_28 => ?_) (fun h_28 => ?_)
  · refine VS.aload_n dX7_more_33 rfl ?_
    refine VS.aload_n dX7_more_34 rfl ?_
    refine VS.sgetR 6 dX7_more_35 uw_X7 rfl (by decide) 0 rfl rfl (by decide) fl_X7_7 rfl ?_
    refine VS.bipush (17) dX7_more_38 rfl ?_
    refine VS.siald (17) dX7_more_40 (by decide) rfl (rfl) (by decide) (by decide) ?_
    refine VS.val (y := M 1 17) rfl ?_
    refine VS.iconst (1) dX7_more_41 rfl ?_
    refine VS.iload_n dX7_more_42 rfl ?_
    refine VS.ishl dX7_more_43 ?_
    refine VS.ior dX7_more_44 ?_
    refine VS.callT (ct_X7_follows l _ _) dX7_more_45 mi_X7_follows im_X7_follows sel_X7_follows ml_X7_80 (by decide) rfl rfl (rmOk_D (by decide) (by decide)) (Nat.le_of_ble_eq_true rfl) rfl ?_
    refine VS.stt (rFol_rFol M _ _) ?_
    refine VS.aload_n dX7_more_48 rfl ?_
    refine VS.sgetI 6 dX7_more_49 uw_X7 rfl (by decide) 7 rfl rfl (by decide) fl_X7_45 rfl ?_
    refine VS.val (y := rKn (M 1) (M 1 17 ||| (1 : Int32) <<< (e &&& 31))) rfl ?_
    refine VS.callN (ct_X7_many l _) dX7_more_52 mi_X7_many st_X7_many ml_X7_55 (rmOk_D (by decide) (by decide)) (Nat.le_of_ble_eq_true rfl) rfl ?_
    refine VS.iload_n dX7_more_55 rfl ?_
    refine VS.isub dX7_more_56 ?_
    exact VS.iret dX7_more_57 (congrArg (fun z => some (Value.int z)) (if_neg h_28)) (shk (stt_else h_28 rfl))
  · refine VS.iconst (0) dX7_more_31 rfl ?_
    exact VS.iret dX7_more_32 (congrArg (fun z => some (Value.int z)) (if_pos h_28)) (shk (stt_if h_28 rfl))
def rShows (s : Nat → Int32) (a b : Int32) : Int32 := if wrE a b = 0 then (if 0 < s 6 then rMore s (eI a b) else -5) else wrE a b
def mShows (M : SS) (a b : Int32) : SS := if wrE a b = 0 ∧ 0 < M 1 6 then mMore M (eI a b) else M
theorem wr_0 {a b : Int32} (h : 0 ≤ wrE a b) : wrE a b = 0 := Decidable.byContradiction fun q => absurd h (wr_lt q)
set_option maxRecDepth 100000 in
set_option maxHeartbeats 4000000 in
theorem ct_X7_shows (l : Launch) (M : SS) (a : Int32) (b : Int32) : CtS l yX7_shows cX7_shows 4 (some FieldType.int) (rmD 4) [.ref 0, .int a, .int b] 7 shM M (some (.int (rShows (M 1) a b))) (mShows M a b) := by
  refine CtF.of (own := RX7) [some (.ref 0), some (.int a), some (.int b), none] (by decide +kernel) rfl (fun _ => Nat.le_of_ble_eq_true rfl) (fun _ => rfl) ?_
  refine VS.iload_n dX7_shows_0 rfl ?_
  refine VS.iload_n dX7_shows_1 rfl ?_
  refine VS.callN (ct_X7_barPair l _ _) dX7_shows_2 mi_X7_barPair st_X7_barPair ml_X7_130 (rmOk_D (by decide) (by decide)) (Nat.le_of_ble_eq_true rfl) rfl ?_
  refine VS.istore_n dX7_shows_5 (by decide) rfl ?_
  refine VS.iload_n dX7_shows_6 rfl ?_
  refine VS.if_ge 14 dX7_shows_7 (by decide) (fun h_7 => ?_) (fun h_7 => ?_)
  · refine VS.aload_n dX7_shows_14 rfl ?_
    refine VS.callT (ct_X7_hasBegun l _) dX7_shows_15 mi_X7_hasBegun im_X7_hasBegun sel_X7_hasBegun ml_X7_41 (by decide) rfl rfl (rmOk_D (by decide) (by decide)) (Nat.le_of_ble_eq_true rfl) rfl ?_
    refine VS.if_eq 33 dX7_shows_18 (by decide) (fun h_18 => ?_) (fun h_18 => ?_)
    · refine VS.bipush (-5) dX7_shows_33 rfl ?_
      exact VS.iret dX7_shows_35 (by unfold rShows; first | rw [if_neg (fun q => h_7 (wr_ge q))] | rw [if_pos (wr_0 h_7), if_pos (ite11 h_18)] | rw [if_pos (wr_0 h_7), if_neg (ite10.mp h_18)]) (shk (by first | exact stt_else (fun q => h_7 (wr_ge q.1)) rfl | exact stt_if ⟨wr_0 h_7, ite11 h_18⟩ rfl | exact stt_else (fun q => (ite10.mp h_18) q.2) rfl))
    · refine VS.aload_n dX7_shows_21 rfl ?_
      refine VS.iload_n dX7_shows_22 rfl ?_
      refine VS.iload_n dX7_shows_23 rfl ?_
      refine VS.callN (ct_X7_edge l _ _) dX7_shows_24 mi_X7_edge st_X7_edge ml_X7_37 (rmOk_D (by decide) (by decide)) (Nat.le_of_ble_eq_true rfl) rfl ?_
      refine VS.callT (ct_X7_more l _ _) dX7_shows_27 mi_X7_more im_X7_more sel_X7_more ml_X7_154 (by decide) rfl rfl (rmOk_D (by decide) (by decide)) (Nat.le_of_ble_eq_true rfl) rfl ?_
      refine VS.goto 35 dX7_shows_30 (by decide) ?_
      exact VS.iret dX7_shows_35 (by unfold rShows; first | rw [if_neg (fun q => h_7 (wr_ge q))] | rw [if_pos (wr_0 h_7), if_pos (ite11 h_18)] | rw [if_pos (wr_0 h_7), if_neg (ite10.mp h_18)]) (shk (by first | exact stt_else (fun q => h_7 (wr_ge q.1)) rfl | exact stt_if ⟨wr_0 h_7, ite11 h_18⟩ rfl | exact stt_else (fun q => (ite10.mp h_18) q.2) rfl))
  · refine VS.iload_n dX7_shows_10 rfl ?_
    refine VS.goto 35 dX7_shows_11 (by decide) ?_
    exact VS.iret dX7_shows_35 (by unfold rShows; first | rw [if_neg (fun q => h_7 (wr_ge q))] | rw [if_pos (wr_0 h_7), if_pos (ite11 h_18)] | rw [if_pos (wr_0 h_7), if_neg (ite10.mp h_18)]) (shk (by first | exact stt_else (fun q => h_7 (wr_ge q.1)) rfl | exact stt_if ⟨wr_0 h_7, ite11 h_18⟩ rfl | exact stt_else (fun q => (ite10.mp h_18) q.2) rfl))
def bsF (s : Nat → Int32) : Nat → Int32 × Int32
  | 0 => (-6, 0)
  | i + 1 => (if (bsF s i).2 < rMore s (nI i) then nI i else (bsF s i).1, if (bsF s i).2 < rMore s (nI i) then rMore s (nI i) else (bsF s i).2)
def bsS (M : SS) : Nat → SS
  | 0 => M
  | i + 1 => mMore (bsS M i) (nI i)
theorem bsS_1 (M : SS) : ∀ i, bsS M i 1 = M 1
  | 0 => rfl
  | i + 1 => (mMore_1 _ _).trans (bsS_1 M i)
def rBest (s : Nat → Int32) (what : Int32) : Int32 := if (bsF s 28).1 = -6 ∨ what = 0 then (bsF s 28).1 else (bsF s 28).2
def rBestShow (s : Nat → Int32) (what : Int32) : Int32 := if 0 ≤ what ∧ what ≤ 1 then (if 0 < s 6 then rBest s what else -5) else -2
def mBestShow (M : SS) (what : Int32) : SS := if (0 ≤ what ∧ what ≤ 1) ∧ 0 < M 1 6 then bsS M 28 else M
set_option maxRecDepth 100000 in
set_option maxHeartbeats 4000000 in
theorem ct_X7_bestShow (l : Launch) (M : SS) (what : Int32) : CtS l yX7_bestShow cX7_bestShow 6 (some FieldType.int) (rmD 4) [.ref 0, .int what] 7 shM M (some (.int (rBestShow (M 1) what))) (mBestShow M what) := by
  refine CtF.of (own := RX7) [some (.ref 0), some (.int what), none, none, none, none] (by decide +kernel) rfl (fun _ => Nat.le_of_ble_eq_true rfl) (fun _ => rfl) ?_
  refine VS.iload_n dX7_bestShow_0 rfl ?_
  refine VS.iconst (0) dX7_bestShow_1 rfl ?_
  refine VS.iconst (1) dX7_bestShow_2 rfl ?_
  refine VS.callN (ct_X7_in l _ _ _) dX7_bestShow_3 mi_X7_in st_X7_in ml_X7_29 (rmOk_D (by decide) (by decide)) (Nat.le_of_ble_eq_true rfl) rfl ?_
  refine VS.if_ne 12 dX7_bestShow_6 (by decide) (fun h_6 => ?_) (fun h_6 => ?_)
  · refine VS.aload_n dX7_bestShow_12 rfl ?_
    refine VS.callT (ct_X7_hasBegun l _) dX7_bestShow_13 mi_X7_hasBegun im_X7_hasBegun sel_X7_hasBegun ml_X7_41 (by decide) rfl rfl (rmOk_D (by decide) (by decide)) (Nat.le_of_ble_eq_true rfl) rfl ?_
    refine VS.if_ne 22 dX7_bestShow_16 (by decide) (fun h_16 => ?_) (fun h_16 => ?_)
    · refine VS.bipush (-6) dX7_bestShow_22 rfl ?_
      refine VS.istore_n dX7_bestShow_24 (by decide) rfl ?_
      refine VS.iconst (0) dX7_bestShow_25 rfl ?_
      refine VS.istore_n dX7_bestShow_26 (by decide) rfl ?_
      refine VS.iconst (0) dX7_bestShow_27 rfl ?_
      refine VS.istore dX7_bestShow_28 (by decide) rfl ?_
      refine VS.forS (i0 := 0) (28) (fun i => bsS M i) (fun i => [some (.ref 0), some (.int what), some (.int (bsF (M 1) i).1), some (.int (bsF (M 1) i).2), some (.int (nI i)), none]) (by decide) ?_ (fun i hi ih => ?_)
      · refine VS.iload dX7_bestShow_30 rfl ?_
        refine VS.bipush (28) dX7_bestShow_32 rfl ?_
        refine VS.icmp_ge 77 dX7_bestShow_34 (by decide) (fun _ => ?_) (fun hh => absurd (by decide) hh)
        refine VS.iload_n dX7_bestShow_77 rfl ?_
        refine VS.bipush (-6) dX7_bestShow_78 rfl ?_
        refine VS.icmp_eq 87 dX7_bestShow_80 (by decide) (fun h_80 => ?_) (fun h_80 => ?_)
        · refine VS.iload_n dX7_bestShow_87 rfl ?_
          refine VS.goto 92 dX7_bestShow_88 (by decide) ?_
          exact VS.iret dX7_bestShow_92 (by unfold rBestShow rBest; rw [if_pos (ite11 h_6), if_pos (ite11 h_16)]; first | rw [if_pos (Or.inl h_80)] | rw [if_pos (Or.inr h_84)] | rw [if_neg (fun q => q.elim h_80 h_84)]) (shk (stt_if ⟨ite11 h_6, ite11 h_16⟩ rfl))
        · refine VS.iload_n dX7_bestShow_83 rfl ?_
          refine VS.if_ne 91 dX7_bestShow_84 (by decide) (fun h_84 => ?_) (fun h_84 => ?_)
          · refine VS.iload_n dX7_bestShow_91 rfl ?_
            exact VS.iret dX7_bestShow_92 (by unfold rBestShow rBest; rw [if_pos (ite11 h_6), if_pos (ite11 h_16)]; first | rw [if_pos (Or.inl h_80)] | rw [if_pos (Or.inr h_84)] | rw [if_neg (fun q => q.elim h_80 h_84)]) (shk (stt_if ⟨ite11 h_6, ite11 h_16⟩ rfl))
          · refine VS.iload_n dX7_bestShow_87 rfl ?_
            refine VS.goto 92 dX7_bestShow_88 (by decide) ?_
            exact VS.iret dX7_bestShow_92 (by unfold rBestShow rBest; rw [if_pos (ite11 h_6), if_pos (ite11 h_16)]; first | rw [if_pos (Or.inl h_80)] | rw [if_pos (Or.inr h_84)] | rw [if_neg (fun q => q.elim h_80 h_84)]) (shk (stt_if ⟨ite11 h_6, ite11 h_16⟩ rfl))
      · refine VS.iload dX7_bestShow_30 rfl ?_
        refine VS.bipush (28) dX7_bestShow_32 rfl ?_
        refine VS.icmp_ge 77 dX7_bestShow_34 (by decide) (fun hh => absurd hh (nge28 hi)) (fun _ => ?_)
        refine VS.aload_n dX7_bestShow_37 rfl ?_
        refine VS.iload dX7_bestShow_38 rfl ?_
        refine VS.callT (ct_X7_more l _ _) dX7_bestShow_40 mi_X7_more im_X7_more sel_X7_more ml_X7_154 (by decide) rfl rfl (rmOk_D (by decide) (by decide)) (Nat.le_of_ble_eq_true rfl) rfl ?_
        refine VS.val (y := rMore (M 1) (nI i)) (by rw [bsS_1]) ?_
        refine VS.istore dX7_bestShow_43 (by decide) rfl ?_
        refine VS.iload dX7_bestShow_45 rfl ?_
        refine VS.iload_n dX7_bestShow_47 rfl ?_
        refine VS.icmp_le 56 dX7_bestShow_48 (by decide) (fun h_48 => ?_) (fun h_48 => ?_)
        · refine VS.iload_n dX7_bestShow_56 rfl ?_
          refine VS.val (y := (bsF (M 1) (i + 1)).1) (by first | exact (if_pos (Int32.not_le.mp h_48)).symm | exact (if_neg (Int32.not_lt.mpr h_48)).symm) ?_
          refine VS.istore_n dX7_bestShow_57 (by decide) rfl ?_
          refine VS.iload dX7_bestShow_58 rfl ?_
          refine VS.iload_n dX7_bestShow_60 rfl ?_
          refine VS.icmp_le 69 dX7_bestShow_61 (by decide) (fun _ => ?_) (fun hh => absurd (h_48) hh)
          refine VS.iload_n dX7_bestShow_69 rfl ?_
          refine VS.val (y := (bsF (M 1) (i + 1)).2) (by first | exact (if_pos (Int32.not_le.mp h_48)).symm | exact (if_neg (Int32.not_lt.mpr h_48)).symm) ?_
          refine VS.istore_n dX7_bestShow_70 (by decide) rfl ?_
          refine VS.iinc (nI (i + 1)) dX7_bestShow_71 rfl (by decide) ((nI_succ i).symm) rfl ?_
          refine VS.goto 30 dX7_bestShow_74 (by decide) ?_
          exact VS.forget 5 ih
        · refine VS.iload dX7_bestShow_51 rfl ?_
          refine VS.goto 57 dX7_bestShow_53 (by decide) ?_
          refine VS.val (y := (bsF (M 1) (i + 1)).1) (by first | exact (if_pos (Int32.not_le.mp h_48)).symm | exact (if_neg (Int32.not_lt.mpr h_48)).symm) ?_
          refine VS.istore_n dX7_bestShow_57 (by decide) rfl ?_
          refine VS.iload dX7_bestShow_58 rfl ?_
          refine VS.iload_n dX7_bestShow_60 rfl ?_
          refine VS.icmp_le 69 dX7_bestShow_61 (by decide) (fun hh => absurd hh (h_48)) (fun _ => ?_)
          refine VS.iload dX7_bestShow_64 rfl ?_
          refine VS.goto 70 dX7_bestShow_66 (by decide) ?_
          refine VS.val (y := (bsF (M 1) (i + 1)).2) (by first | exact (if_pos (Int32.not_le.mp h_48)).symm | exact (if_neg (Int32.not_lt.mpr h_48)).symm) ?_
          refine VS.istore_n dX7_bestShow_70 (by decide) rfl ?_
          refine VS.iinc (nI (i + 1)) dX7_bestShow_71 rfl (by decide) ((nI_succ i).symm) rfl ?_
          refine VS.goto 30 dX7_bestShow_74 (by decide) ?_
          exact VS.forget 5 ih
    · refine VS.bipush (-5) dX7_bestShow_19 rfl ?_
      exact VS.iret dX7_bestShow_21 (by unfold rBestShow; rw [if_pos (ite11 h_6), if_neg (ite10.mp h_16)]) (shk (stt_else (fun q => (ite10.mp h_16) q.2) rfl))
  · refine VS.bipush (-2) dX7_bestShow_9 rfl ?_
    exact VS.iret dX7_bestShow_11 (by unfold rBestShow; rw [if_neg (ite10.mp h_6)]) (shk (stt_else (fun q => (ite10.mp h_6) q.1) rfl))
def rWay (s F : Nat → Int32) (p q : Nat) : Int32 := if md (rTh s) p F q = 99 then -6 else md (rTh s) p F q
set_option maxRecDepth 100000 in
set_option maxHeartbeats 4000000 in
theorem ct_X7_knownWay (l : Launch) (M : SS)  {p q : Nat} (hp : p < 8) (hq : q < 8) : CtS l yX7_knownWay cX7_knownWay 3 (some FieldType.int) (rmD 3) [.ref 0, .int (nI p), .int (nI q)] 7 shM M (some (.int (rWay (M 1) (M 6) p q))) (upC (rFol M (M 1 17)) 6 (md (rTh (M 1)) p (M 6))) := by
  refine CtF.of (own := RX7) [some (.ref 0), some (.int (nI p)), some (.int (nI q))] (by decide +kernel) rfl (fun _ => Nat.le_of_ble_eq_true rfl) (fun _ => rfl) ?_
  refine VS.iload_n dX7_knownWay_0 rfl ?_
  refine VS.callN (ct_X7_isPlace l _) dX7_knownWay_1 mi_X7_isPlace st_X7_isPlace ml_X7_67 (rmOk_D (by decide) (by decide)) (Nat.le_of_ble_eq_true rfl) rfl ?_
  refine VS.if_eq 14 dX7_knownWay_4 (by decide) (fun hh => absurd hh (pc_y hp)) (fun _ => ?_)
  refine VS.iload_n dX7_knownWay_7 rfl ?_
  refine VS.callN (ct_X7_isPlace l _) dX7_knownWay_8 mi_X7_isPlace st_X7_isPlace ml_X7_67 (rmOk_D (by decide) (by decide)) (Nat.le_of_ble_eq_true rfl) rfl ?_
  refine VS.if_ne 16 dX7_knownWay_11 (by decide) (fun _ => ?_) (fun hh => absurd hh (pc_y hq))
  refine VS.aload_n dX7_knownWay_16 rfl ?_
  refine VS.aload_n dX7_knownWay_17 rfl ?_
  refine VS.sgetR 6 dX7_knownWay_18 uw_X7 rfl (by decide) 0 rfl rfl (by decide) fl_X7_7 rfl ?_
  refine VS.bipush (17) dX7_knownWay_21 rfl ?_
  refine VS.siald (17) dX7_knownWay_23 (by decide) rfl (rfl) (by decide) (by decide) ?_
  refine VS.val (y := M 1 17) rfl ?_
  refine VS.callT (ct_X7_follows l _ _) dX7_knownWay_24 mi_X7_follows im_X7_follows sel_X7_follows ml_X7_80 (by decide) rfl rfl (rmOk_D (by decide) (by decide)) (Nat.le_of_ble_eq_true rfl) rfl ?_
  refine VS.aload_n dX7_knownWay_27 rfl ?_
  refine VS.iload_n dX7_knownWay_28 rfl ?_
  refine VS.aload_n dX7_knownWay_29 rfl ?_
  refine VS.sgetI 6 dX7_knownWay_30 uw_X7 rfl (by decide) 8 rfl rfl (by decide) fl_X7_48 rfl ?_
  refine VS.val (y := rTh (M 1)) rfl ?_
  refine VS.callT (ct_X7_measures l _ _ hp) dX7_knownWay_33 mi_X7_measures im_X7_measures sel_X7_measures ml_X7_121 (by decide) rfl rfl (rmOk_D (by decide) (by decide)) (Nat.le_of_ble_eq_true rfl) rfl ?_
  refine VS.aload_n dX7_knownWay_36 rfl ?_
  refine VS.sgetR 6 dX7_knownWay_37 uw_X7 rfl (by decide) 9 rfl rfl (by decide) fl_X7_26 rfl ?_
  refine VS.iload_n dX7_knownWay_40 rfl ?_
  refine VS.siald (q) dX7_knownWay_41 (by decide) rfl (rfl) (hq) (by decide) ?_
  refine VS.val (y := md (rTh (M 1)) p (M 6) q) rfl ?_
  refine VS.bipush (99) dX7_knownWay_42 rfl ?_
  refine VS.icmp_ne 52 dX7_knownWay_44 (by decide) (fun h_44 => ?_) (fun h_44 => ?_)
  · refine VS.aload_n dX7_knownWay_52 rfl ?_
    refine VS.sgetR 6 dX7_knownWay_53 uw_X7 rfl (by decide) 9 rfl rfl (by decide) fl_X7_26 rfl ?_
    refine VS.iload_n dX7_knownWay_56 rfl ?_
    refine VS.siald (q) dX7_knownWay_57 (by decide) rfl (rfl) (hq) (by decide) ?_
    refine VS.val (y := md (rTh (M 1)) p (M 6) q) rfl ?_
    exact VS.iret dX7_knownWay_58 (by unfold rWay; first | rw [if_neg h_44] | rw [if_pos h_44]) (fun k _ => rfl)
  · refine VS.bipush (-6) dX7_knownWay_47 rfl ?_
    refine VS.goto 58 dX7_knownWay_49 (by decide) ?_
    exact VS.iret dX7_knownWay_58 (by unfold rWay; first | rw [if_neg h_44] | rw [if_pos h_44]) (fun k _ => rfl)
set_option maxRecDepth 100000 in
set_option maxHeartbeats 4000000 in
theorem ct_X7_knownWay_no (l : Launch) (M : SS) (a : Int32) (b : Int32) (hn : ¬ ((0 ≤ a ∧ a < 8) ∧ (0 ≤ b ∧ b < 8))) : CtS l yX7_knownWay cX7_knownWay 3 (some FieldType.int) (rmD 3) [.ref 0, .int a, .int b] 7 shM M (some (.int (-1))) (M) := by
  refine CtF.of (own := RX7) [some (.ref 0), some (.int a), some (.int b)] (by decide +kernel) rfl (fun _ => Nat.le_of_ble_eq_true rfl) (fun _ => rfl) ?_
  refine VS.iload_n dX7_knownWay_0 rfl ?_
  refine VS.callN (ct_X7_isPlace l _) dX7_knownWay_1 mi_X7_isPlace st_X7_isPlace ml_X7_67 (rmOk_D (by decide) (by decide)) (Nat.le_of_ble_eq_true rfl) rfl ?_
  refine VS.if_eq 14 dX7_knownWay_4 (by decide) (fun h_4 => ?_) (fun h_4 => ?_)
  · refine VS.iconst (-1) dX7_knownWay_14 rfl ?_
    exact VS.iret dX7_knownWay_15 (rfl) (fun _ _ => rfl)
  · refine VS.iload_n dX7_knownWay_7 rfl ?_
    refine VS.callN (ct_X7_isPlace l _) dX7_knownWay_8 mi_X7_isPlace st_X7_isPlace ml_X7_67 (rmOk_D (by decide) (by decide)) (Nat.le_of_ble_eq_true rfl) rfl ?_
    refine VS.if_ne 16 dX7_knownWay_11 (by decide) (fun hh => absurd (if_neg (fun z => hn ⟨ite11 h_4, z⟩)) hh) (fun _ => ?_)
    refine VS.iconst (-1) dX7_knownWay_14 rfl ?_
    exact VS.iret dX7_knownWay_15 (rfl) (fun _ _ => rfl)
def cbP (F : Nat → Int32) (tr : Nat) (acc : Int32) : Nat → Int32
  | 0 => acc
  | p + 1 => cbP F tr acc p &&& (if F p = F tr then -1 else (1 : Int32) <<< (nI p &&& 31) ^^^ -1)
def cbF (r : Int32) (q : Nat → Nat) (F : Nat → Int32) : Nat → (Nat → Int32)
  | 0 => F
  | k + 1 => md r (q k) (cbF r q F k)
def cbA (r : Int32) (q : Nat → Nat) (F : Nat → Int32) (tr : Nat) (a : Int32) : Nat → Int32
  | 0 => a
  | k + 1 => cbP (cbF r q F (k + 1)) tr (cbA r q F tr a k) 8
theorem cbP_y {F : Nat → Int32} {tr p : Nat} {a : Int32} (h : F p = F tr) : cbP F tr a p &&& -1 = cbP F tr a (p + 1) := congrArg (fun z => cbP F tr a p &&& z) (if_pos h).symm
theorem cbP_n {F : Nat → Int32} {tr p : Nat} {a : Int32} (h : ¬ F p = F tr) : cbP F tr a p &&& ((1 : Int32) <<< (nI p &&& 31) ^^^ -1) = cbP F tr a (p + 1) := congrArg (fun z => cbP F tr a p &&& z) (if_neg h).symm
set_option maxRecDepth 100000 in
set_option maxHeartbeats 4000000 in
theorem ct_X7_canBe (l : Launch) (M : SS)  {d tr : Nat} {q : Nat → Nat} (hd : M 1 31 = nI d) (hd2 : d ≤ 150) (htr : M 1 1 = nI tr) (htr2 : tr < 8) (hq : ∀ k, k < d → q k < 8 ∧ M 1 (32 + k) = nI (q k)) : CtS l yX7_canBe cX7_canBe 4 (some FieldType.int) (rmD 2) [.ref 0] 7 shM M (some (.int (cbA (M 1 0) q (M 6) tr (if 0 < M 1 6 then 255 else 0) d))) (upC M 6 (cbF (M 1 0) q (M 6) d)) := by
  refine CtF.of (own := RX7) [some (.ref 0), none, none, none] (by decide +kernel) rfl (fun _ => Nat.le_of_ble_eq_true rfl) (fun _ => rfl) ?_
  refine VS.aload_n dX7_canBe_0 rfl ?_
  refine VS.callT (ct_X7_hasBegun l _) dX7_canBe_1 mi_X7_hasBegun im_X7_hasBegun sel_X7_hasBegun ml_X7_41 (by decide) rfl rfl (rmOk_D (by decide) (by decide)) (Nat.le_of_ble_eq_true rfl) rfl ?_
  refine VS.if_eq 13 dX7_canBe_4 (by decide) (fun h_4 => ?_) (fun h_4 => ?_)
  · refine VS.iconst (0) dX7_canBe_13 rfl ?_
    refine VS.val (y := if 0 < M 1 6 then 255 else 0) (by first | exact (if_pos (ite11 h_4)).symm | exact (if_neg (ite10.mp h_4)).symm) ?_
    refine VS.istore_n dX7_canBe_14 (by decide) rfl ?_
    refine VS.iconst (0) dX7_canBe_15 rfl ?_
    refine VS.istore_n dX7_canBe_16 (by decide) rfl ?_
    refine VS.stt (S2 := upC M 6 (cbF (M 1 0) q (M 6) 0)) (upC_id M 6).symm ?_
    refine VS.forS (i0 := 0) (d) (fun k => upC M 6 (cbF (M 1 0) q (M 6) k)) (fun k => [some (.ref 0), some (.int (cbA (M 1 0) q (M 6) tr (if 0 < M 1 6 then 255 else 0) k)), some (.int (nI k)), none]) (Nat.zero_le _) ?_ (fun k hk ik => ?_)
    · refine VS.iload_n dX7_canBe_17 rfl ?_
      refine VS.aload_n dX7_canBe_18 rfl ?_
      refine VS.sgetR 6 dX7_canBe_19 uw_X7 rfl (by decide) 0 rfl rfl (by decide) fl_X7_7 rfl ?_
      refine VS.bipush (31) dX7_canBe_22 rfl ?_
      refine VS.siald (31) dX7_canBe_24 (by decide) rfl (rfl) (by decide) (by decide) ?_
      refine VS.val (y := nI d) hd ?_
      refine VS.icmp_ge 99 dX7_canBe_25 (by decide) (fun _ => ?_) (fun hh => absurd (nI_le (Nat.le_refl _) (by omega)) hh)
      refine VS.iload_n dX7_canBe_99 rfl ?_
      exact VS.iret dX7_canBe_100 (rfl) (fun k _ => rfl)
    · refine VS.iload_n dX7_canBe_17 rfl ?_
      refine VS.aload_n dX7_canBe_18 rfl ?_
      refine VS.sgetR 6 dX7_canBe_19 uw_X7 rfl (by decide) 0 rfl rfl (by decide) fl_X7_7 rfl ?_
      refine VS.bipush (31) dX7_canBe_22 rfl ?_
      refine VS.siald (31) dX7_canBe_24 (by decide) rfl (rfl) (by decide) (by decide) ?_
      refine VS.val (y := nI d) hd ?_
      refine VS.icmp_ge 99 dX7_canBe_25 (by decide) (fun hh => absurd hh (nI_ge hk (by omega))) (fun _ => ?_)
      refine VS.aload_n dX7_canBe_28 rfl ?_
      refine VS.aload_n dX7_canBe_29 rfl ?_
      refine VS.sgetR 6 dX7_canBe_30 uw_X7 rfl (by decide) 0 rfl rfl (by decide) fl_X7_7 rfl ?_
      refine VS.bipush (32) dX7_canBe_33 rfl ?_
      refine VS.iload_n dX7_canBe_35 rfl ?_
      refine VS.iadd dX7_canBe_36 ?_
      refine VS.siald (32 + k) dX7_canBe_37 (by decide) rfl (ix_add) (by omega) (by decide) ?_
      refine VS.val (y := nI (q k)) (hq k hk).2 ?_
      refine VS.aload_n dX7_canBe_38 rfl ?_
      refine VS.sgetR 6 dX7_canBe_39 uw_X7 rfl (by decide) 0 rfl rfl (by decide) fl_X7_7 rfl ?_
      refine VS.iconst (0) dX7_canBe_42 rfl ?_
      refine VS.siald (0) dX7_canBe_43 (by decide) rfl (rfl) (by decide) (by decide) ?_
      refine VS.val (y := M 1 0) rfl ?_
      refine VS.callT (ct_X7_measures l _ _ (hq k hk).1) dX7_canBe_44 mi_X7_measures im_X7_measures sel_X7_measures ml_X7_121 (by decide) rfl rfl (rmOk_D (by decide) (by decide)) (Nat.le_of_ble_eq_true rfl) rfl ?_
      refine VS.stt (S2 := upC M 6 (cbF (M 1 0) q (M 6) (k + 1))) (by rw [upC_upC, upC_at]; rfl) ?_
      refine VS.iconst (0) dX7_canBe_47 rfl ?_
      refine VS.istore_n dX7_canBe_48 (by decide) rfl ?_
      refine VS.forS (i0 := 0) (8) (fun _ => upC M 6 (cbF (M 1 0) q (M 6) (k + 1))) (fun p => [some (.ref 0), some (.int (cbP (cbF (M 1 0) q (M 6) (k + 1)) tr (cbA (M 1 0) q (M 6) tr (if 0 < M 1 6 then 255 else 0) k) p)), some (.int (nI k)), some (.int (nI p))]) (by decide) ?_ (fun p hp ip => ?_)
      · refine VS.iload_n dX7_canBe_49 rfl ?_
        refine VS.bipush (8) dX7_canBe_50 rfl ?_
        refine VS.icmp_ge 93 dX7_canBe_52 (by decide) (fun _ => ?_) (fun hh => absurd (by decide) hh)
        refine VS.iinc (nI (k + 1)) dX7_canBe_93 rfl (by decide) ((nI_succ k).symm) rfl ?_
        refine VS.goto 17 dX7_canBe_96 (by decide) ?_
        exact VS.forget 3 ik
      · refine VS.iload_n dX7_canBe_49 rfl ?_
        refine VS.bipush (8) dX7_canBe_50 rfl ?_
        refine VS.icmp_ge 93 dX7_canBe_52 (by decide) (fun hh => absurd hh (nge8 hp)) (fun _ => ?_)
        refine VS.iload_n dX7_canBe_55 rfl ?_
        refine VS.aload_n dX7_canBe_56 rfl ?_
        refine VS.sgetR 6 dX7_canBe_57 uw_X7 rfl (by decide) 9 rfl rfl (by decide) fl_X7_26 rfl ?_
        refine VS.iload_n dX7_canBe_60 rfl ?_
        refine VS.siald (p) dX7_canBe_61 (by decide) rfl (rfl) (hp) (by decide) ?_
        refine VS.val (y := cbF (M 1 0) q (M 6) (k + 1) p) rfl ?_
        refine VS.aload_n dX7_canBe_62 rfl ?_
        refine VS.sgetR 6 dX7_canBe_63 uw_X7 rfl (by decide) 9 rfl rfl (by decide) fl_X7_26 rfl ?_
        refine VS.aload_n dX7_canBe_66 rfl ?_
        refine VS.sgetR 6 dX7_canBe_67 uw_X7 rfl (by decide) 0 rfl rfl (by decide) fl_X7_7 rfl ?_
        refine VS.iconst (1) dX7_canBe_70 rfl ?_
        refine VS.siald (1) dX7_canBe_71 (by decide) rfl (rfl) (by decide) (by decide) ?_
        refine VS.siald (tr) dX7_canBe_72 (by decide) rfl (htr) (htr2) (by decide) ?_
        refine VS.val (y := cbF (M 1 0) q (M 6) (k + 1) tr) rfl ?_
        refine VS.icmp_ne 80 dX7_canBe_73 (by decide) (fun h_73 => ?_) (fun h_73 => ?_)
        · refine VS.iconst (1) dX7_canBe_80 rfl ?_
          refine VS.iload_n dX7_canBe_81 rfl ?_
          refine VS.ishl dX7_canBe_82 ?_
          refine VS.iconst (-1) dX7_canBe_83 rfl ?_
          refine VS.ixor dX7_canBe_84 ?_
          refine VS.iand dX7_canBe_85 ?_
          refine VS.val (y := cbP (cbF (M 1 0) q (M 6) (k + 1)) tr (cbA (M 1 0) q (M 6) tr (if 0 < M 1 6 then 255 else 0) k) (p + 1)) (by first | exact cbP_y h_73 | exact cbP_n h_73) ?_
          refine VS.istore_n dX7_canBe_86 (by decide) rfl ?_
          refine VS.iinc (nI (p + 1)) dX7_canBe_87 rfl (by decide) ((nI_succ p).symm) rfl ?_
          refine VS.goto 49 dX7_canBe_90 (by decide) ?_
          exact ip
        · refine VS.iconst (-1) dX7_canBe_76 rfl ?_
          refine VS.goto 85 dX7_canBe_77 (by decide) ?_
          refine VS.iand dX7_canBe_85 ?_
          refine VS.val (y := cbP (cbF (M 1 0) q (M 6) (k + 1)) tr (cbA (M 1 0) q (M 6) tr (if 0 < M 1 6 then 255 else 0) k) (p + 1)) (by first | exact cbP_y h_73 | exact cbP_n h_73) ?_
          refine VS.istore_n dX7_canBe_86 (by decide) rfl ?_
          refine VS.iinc (nI (p + 1)) dX7_canBe_87 rfl (by decide) ((nI_succ p).symm) rfl ?_
          refine VS.goto 49 dX7_canBe_90 (by decide) ?_
          exact ip
  · refine VS.sipush (255) dX7_canBe_7 rfl ?_
    refine VS.goto 14 dX7_canBe_10 (by decide) ?_
    refine VS.val (y := if 0 < M 1 6 then 255 else 0) (by first | exact (if_pos (ite11 h_4)).symm | exact (if_neg (ite10.mp h_4)).symm) ?_
    refine VS.istore_n dX7_canBe_14 (by decide) rfl ?_
    refine VS.iconst (0) dX7_canBe_15 rfl ?_
    refine VS.istore_n dX7_canBe_16 (by decide) rfl ?_
    refine VS.stt (S2 := upC M 6 (cbF (M 1 0) q (M 6) 0)) (upC_id M 6).symm ?_
    refine VS.forS (i0 := 0) (d) (fun k => upC M 6 (cbF (M 1 0) q (M 6) k)) (fun k => [some (.ref 0), some (.int (cbA (M 1 0) q (M 6) tr (if 0 < M 1 6 then 255 else 0) k)), some (.int (nI k)), none]) (Nat.zero_le _) ?_ (fun k hk ik => ?_)
    · refine VS.iload_n dX7_canBe_17 rfl ?_
      refine VS.aload_n dX7_canBe_18 rfl ?_
      refine VS.sgetR 6 dX7_canBe_19 uw_X7 rfl (by decide) 0 rfl rfl (by decide) fl_X7_7 rfl ?_
      refine VS.bipush (31) dX7_canBe_22 rfl ?_
      refine VS.siald (31) dX7_canBe_24 (by decide) rfl (rfl) (by decide) (by decide) ?_
      refine VS.val (y := nI d) hd ?_
      refine VS.icmp_ge 99 dX7_canBe_25 (by decide) (fun _ => ?_) (fun hh => absurd (nI_le (Nat.le_refl _) (by omega)) hh)
      refine VS.iload_n dX7_canBe_99 rfl ?_
      exact VS.iret dX7_canBe_100 (rfl) (fun k _ => rfl)
    · refine VS.iload_n dX7_canBe_17 rfl ?_
      refine VS.aload_n dX7_canBe_18 rfl ?_
      refine VS.sgetR 6 dX7_canBe_19 uw_X7 rfl (by decide) 0 rfl rfl (by decide) fl_X7_7 rfl ?_
      refine VS.bipush (31) dX7_canBe_22 rfl ?_
      refine VS.siald (31) dX7_canBe_24 (by decide) rfl (rfl) (by decide) (by decide) ?_
      refine VS.val (y := nI d) hd ?_
      refine VS.icmp_ge 99 dX7_canBe_25 (by decide) (fun hh => absurd hh (nI_ge hk (by omega))) (fun _ => ?_)
      refine VS.aload_n dX7_canBe_28 rfl ?_
      refine VS.aload_n dX7_canBe_29 rfl ?_
      refine VS.sgetR 6 dX7_canBe_30 uw_X7 rfl (by decide) 0 rfl rfl (by decide) fl_X7_7 rfl ?_
      refine VS.bipush (32) dX7_canBe_33 rfl ?_
      refine VS.iload_n dX7_canBe_35 rfl ?_
      refine VS.iadd dX7_canBe_36 ?_
      refine VS.siald (32 + k) dX7_canBe_37 (by decide) rfl (ix_add) (by omega) (by decide) ?_
      refine VS.val (y := nI (q k)) (hq k hk).2 ?_
      refine VS.aload_n dX7_canBe_38 rfl ?_
      refine VS.sgetR 6 dX7_canBe_39 uw_X7 rfl (by decide) 0 rfl rfl (by decide) fl_X7_7 rfl ?_
      refine VS.iconst (0) dX7_canBe_42 rfl ?_
      refine VS.siald (0) dX7_canBe_43 (by decide) rfl (rfl) (by decide) (by decide) ?_
      refine VS.val (y := M 1 0) rfl ?_
      refine VS.callT (ct_X7_measures l _ _ (hq k hk).1) dX7_canBe_44 mi_X7_measures im_X7_measures sel_X7_measures ml_X7_121 (by decide) rfl rfl (rmOk_D (by decide) (by decide)) (Nat.le_of_ble_eq_true rfl) rfl ?_
      refine VS.stt (S2 := upC M 6 (cbF (M 1 0) q (M 6) (k + 1))) (by rw [upC_upC, upC_at]; rfl) ?_
      refine VS.iconst (0) dX7_canBe_47 rfl ?_
      refine VS.istore_n dX7_canBe_48 (by decide) rfl ?_
      refine VS.forS (i0 := 0) (8) (fun _ => upC M 6 (cbF (M 1 0) q (M 6) (k + 1))) (fun p => [some (.ref 0), some (.int (cbP (cbF (M 1 0) q (M 6) (k + 1)) tr (cbA (M 1 0) q (M 6) tr (if 0 < M 1 6 then 255 else 0) k) p)), some (.int (nI k)), some (.int (nI p))]) (by decide) ?_ (fun p hp ip => ?_)
      · refine VS.iload_n dX7_canBe_49 rfl ?_
        refine VS.bipush (8) dX7_canBe_50 rfl ?_
        refine VS.icmp_ge 93 dX7_canBe_52 (by decide) (fun _ => ?_) (fun hh => absurd (by decide) hh)
        refine VS.iinc (nI (k + 1)) dX7_canBe_93 rfl (by decide) ((nI_succ k).symm) rfl ?_
        refine VS.goto 17 dX7_canBe_96 (by decide) ?_
        exact VS.forget 3 ik
      · refine VS.iload_n dX7_canBe_49 rfl ?_
        refine VS.bipush (8) dX7_canBe_50 rfl ?_
        refine VS.icmp_ge 93 dX7_canBe_52 (by decide) (fun hh => absurd hh (nge8 hp)) (fun _ => ?_)
        refine VS.iload_n dX7_canBe_55 rfl ?_
        refine VS.aload_n dX7_canBe_56 rfl ?_
        refine VS.sgetR 6 dX7_canBe_57 uw_X7 rfl (by decide) 9 rfl rfl (by decide) fl_X7_26 rfl ?_
        refine VS.iload_n dX7_canBe_60 rfl ?_
        refine VS.siald (p) dX7_canBe_61 (by decide) rfl (rfl) (hp) (by decide) ?_
        refine VS.val (y := cbF (M 1 0) q (M 6) (k + 1) p) rfl ?_
        refine VS.aload_n dX7_canBe_62 rfl ?_
        refine VS.sgetR 6 dX7_canBe_63 uw_X7 rfl (by decide) 9 rfl rfl (by decide) fl_X7_26 rfl ?_
        refine VS.aload_n dX7_canBe_66 rfl ?_
        refine VS.sgetR 6 dX7_canBe_67 uw_X7 rfl (by decide) 0 rfl rfl (by decide) fl_X7_7 rfl ?_
        refine VS.iconst (1) dX7_canBe_70 rfl ?_
        refine VS.siald (1) dX7_canBe_71 (by decide) rfl (rfl) (by decide) (by decide) ?_
        refine VS.siald (tr) dX7_canBe_72 (by decide) rfl (htr) (htr2) (by decide) ?_
        refine VS.val (y := cbF (M 1 0) q (M 6) (k + 1) tr) rfl ?_
        refine VS.icmp_ne 80 dX7_canBe_73 (by decide) (fun h_73 => ?_) (fun h_73 => ?_)
        · refine VS.iconst (1) dX7_canBe_80 rfl ?_
          refine VS.iload_n dX7_canBe_81 rfl ?_
          refine VS.ishl dX7_canBe_82 ?_
          refine VS.iconst (-1) dX7_canBe_83 rfl ?_
          refine VS.ixor dX7_canBe_84 ?_
          refine VS.iand dX7_canBe_85 ?_
          refine VS.val (y := cbP (cbF (M 1 0) q (M 6) (k + 1)) tr (cbA (M 1 0) q (M 6) tr (if 0 < M 1 6 then 255 else 0) k) (p + 1)) (by first | exact cbP_y h_73 | exact cbP_n h_73) ?_
          refine VS.istore_n dX7_canBe_86 (by decide) rfl ?_
          refine VS.iinc (nI (p + 1)) dX7_canBe_87 rfl (by decide) ((nI_succ p).symm) rfl ?_
          refine VS.goto 49 dX7_canBe_90 (by decide) ?_
          exact ip
        · refine VS.iconst (-1) dX7_canBe_76 rfl ?_
          refine VS.goto 85 dX7_canBe_77 (by decide) ?_
          refine VS.iand dX7_canBe_85 ?_
          refine VS.val (y := cbP (cbF (M 1 0) q (M 6) (k + 1)) tr (cbA (M 1 0) q (M 6) tr (if 0 < M 1 6 then 255 else 0) k) (p + 1)) (by first | exact cbP_y h_73 | exact cbP_n h_73) ?_
          refine VS.istore_n dX7_canBe_86 (by decide) rfl ?_
          refine VS.iinc (nI (p + 1)) dX7_canBe_87 rfl (by decide) ((nI_succ p).symm) rfl ?_
          refine VS.goto 49 dX7_canBe_90 (by decide) ?_
          exact ip
end
