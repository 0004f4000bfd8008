/-! the reference: its loops over rows -/
def kI (M : SS) (rev : Int32) (i : Nat) : Int32 := itN (swp (M 1 0)) rev i
def kJ (M : SS) (rev : Int32) (i j : Nat) : Int32 := swJ (M 1 0) (kI M rev i) j
def FL0 (M : SS) (rev : Int32) (i : Nat) : Int32 := if i = 0 then 1 else if kI M rev i = kI M rev (i - 1) then 0 else 1
def swF (M : SS) (rev : Int32) (i j : Nat) : Int32 := if kJ M rev i j = kI M rev i then 0 else 1
def kn0 (M : SS) (k : Int32) : SS := upC M 0 (upd (upd (M 0) 7 k) 8 (k &&& M 1 0))
/-- behind follows: known and there -/
def rKn (s : Nat → Int32) (rev : Int32) : Int32 := if 0 < s 6 then KK (s 0) rev else 0
def rFol (M : SS) (rev : Int32) : SS := kn0 M (rKn (M 1) rev)
theorem FL0_0 {M : SS} {rev : Int32} {i : Nat} (hi : i ≤ 29) (h : FL0 M rev i = 0) : kI M rev i = KK (M 1 0) rev := by
  unfold FL0 at h
  by_cases h0 : i = 0
  · rw [if_pos h0] at h; exact absurd h (by decide)
  · rw [if_neg h0] at h
    by_cases h1 : kI M rev i = kI M rev (i - 1)
    · have h2 : itN (swp (M 1 0)) rev (i - 1 + 1) = itN (swp (M 1 0)) rev (i - 1) := by rw [show i - 1 + 1 = i by omega]; exact h1
      rw [h1]
      exact (itN_stop (n := 28) h2 (by omega)).symm
    · rw [if_neg h1] at h; exact absurd h (by decide)
theorem FL0_N (M : SS) (rev : Int32) : FL0 M rev 29 = 0 := (if_neg (by decide)).trans (if_pos (KK_stop _ _))
theorem kn0_put {M : SS} {k k2 o x : Int32} (h1 : k2 = k ||| o) (h2 : k2 &&& M 1 0 = (k &&& M 1 0) ||| x) : up2 (up2 (kn0 M k) 0 8 ((k &&& M 1 0) ||| x)) 0 7 (k ||| o) = kn0 M k2 := by
  unfold kn0 up2
  rw [upC_upC, upC_upC, upC_at, upC_at, ← h2, ← h1, upd_upd, upd_comm _ _ _ (by decide), upd_upd]
theorem kn0_two (M : SS) (k : Int32) : up2 (up2 M 0 7 k) 0 8 (k &&& M 1 0) = kn0 M k := by
  unfold kn0 up2
  rw [upC_upC, upC_at]
theorem kJ_same {M : SS} {rev : Int32} {i j : Nat} (h : folJ (M 1 0) (kJ M rev i j) j = 0) : kJ M rev i (j + 1) = kJ M rev i j := (congrArg (fun z => kJ M rev i j ||| z) h).trans Int32.or_zero
theorem swF_same {M : SS} {rev : Int32} {i j : Nat} (h : kJ M rev i (j + 1) = kJ M rev i j) : swF M rev i (j + 1) = swF M rev i j := by unfold swF; rw [h]
theorem kJ_on {M : SS} {rev : Int32} {i j : Nat} (h : folJ (M 1 0) (kJ M rev i j) j = k_at j &&& (kJ M rev i j ^^^ -1)) : kJ M rev i (j + 1) = kJ M rev i j ||| (k_at j &&& (kJ M rev i j ^^^ -1)) := congrArg (fun z => kJ M rev i j ||| z) h
theorem swF_on {M : SS} {rev : Int32} {i j : Nat} (h : folJ (M 1 0) (kJ M rev i j) j = k_at j &&& (kJ M rev i j ^^^ -1)) (h2 : ¬ k_at j &&& (kJ M rev i j ^^^ -1) = 0) : (1 : Int32) = swF M rev i (j + 1) := by
  unfold swF
  rw [kJ_on h]
  exact (if_neg (swJ_ne (r := M 1 0) (k := kI M rev i) h2)).symm
theorem hb1 {M : SS} (h : 0 < M 1 6) (rev : Int32) : kn0 M (KK (M 1 0) rev) = rFol M rev := by unfold rFol rKn; rw [if_pos h]
theorem hb0 {M : SS} (h : ¬ 0 < M 1 6) (rev : Int32) : kn0 M 0 = rFol M rev := by unfold rFol rKn; rw [if_neg h]
theorem upC_self {S : SS} {c : Nat} {f : Nat → Int32} (h : f = S c) : upC S c f = S := by rw [h, upC_id]
/-- the states kept, behind one more -/
def rRecP (M : SS) (p : Nat) : Nat → Int32 := if p = 6 then putR (putR (M 2) (fun k => M 2 (182 + k)) 0 910) (M 1) 910 182 else putR (M 2) (M 1) (182 * p) 182
def rRec (M : SS) (p : Nat) : SS := upC (upC M 2 (rRecP M p)) 0 (upd (M 0) 2 (nI (if p = 6 then 6 else p + 1)))
theorem nge910 {i : Nat} (h : i < 910) : ¬ (910 : Int32) ≤ nI i := nI_ge (b := 910) h (by decide)
theorem nge182 {i : Nat} (h : i < 182) : ¬ (182 : Int32) ≤ nI i := nI_ge (b := 182) h (by decide)
theorem rec_fin6 {M : SS} {z : Int32} (hz : z = nI 5 + 1) : up2 (upC (upC (upC M 2 (putR (M 2) (fun k => M 2 (182 + k)) 0 910)) 0 (upd (M 0) 2 (nI 5))) 2 (putR (putR (M 2) (fun k => M 2 (182 + k)) 0 910) (M 1) 910 182)) 0 2 z = rRec M 6 := by
  subst hz
  unfold rRec rRecP up2
  rw [if_pos rfl, if_pos rfl, upC_ne (by decide), upC_at, upd_upd, upC_comm _ _ _ (by decide : (0 : Nat) ≠ 2), upC_upC, upC_upC]
  rfl
theorem rec_fin {M : SS} {p : Nat} {z : Int32} (hn : ¬ p = 6) (hz : z = nI p + 1) : up2 (upC M 2 (putR (M 2) (M 1) (182 * p) 182)) 0 2 z = rRec M p := by
  subst hz
  unfold rRec rRecP up2
  rw [if_neg hn, if_neg hn, upC_ne (by decide), ← nI_succ]
theorem mul182 {p i : Nat} : (182 : Int32) * nI p + nI i = nI (182 * p + i) := by
  rw [show (182 : Int32) = nI 182 from rfl, pk_mul, nI_add]
