/-! each change: the class and the reference answer alike, and go on alike -/
theorem fin_neg {S : SS} {f q : Nat} {r : Int32} (h : r < 0) : finK S f q r = S := if_neg (Int32.not_le.mpr h)
theorem fin_pos {S : SS} {f q : Nat} {r : Int32} (h : 0 ≤ r) : finK S f q r = keepK S f q := if_pos h
/-- a change that fails -/
theorem Rel.fail {S M G2 : SS} {f np : Nat} {r : Int32} (h : Rel S M) (hp : RelP S M f np) (hr : r < 0) (hV : Vs G2 (M 1)) : Rel (finK (putG (holdK S f) 1 7 G2) f np r) M := by
  rw [fin_neg hr]
  exact h.drop hp ⟨hV, h.1.2⟩
/-- a change that is done -/
theorem Rel.done {S M G2 M2 : SS} {f np : Nat} {r : Int32} (h : Rel S M) (hp : RelP S M f np) (hr : 0 ≤ r) (hV : Vs G2 (M2 1)) (hg : Good (M2 1)) (e2 : M2 2 = rRecP M np) (e3 : M2 3 = M 3) (e4 : M2 4 = M 4) (e5 : M2 5 = M 5) (e02 : M2 0 2 = nI (if np = 6 then 6 else np + 1)) (e06 : M2 0 6 = M 0 6) : Rel (finK (putG (holdK S f) 1 7 G2) f np r) M2 := by
  rw [fin_pos hr]
  have hf := hp.1
  refine h.keep hp ⟨hV.congr (fun i hi => ?_), hg⟩ e2 e3 e4 e02 ?_ (fun k h1 h2 => ?_) ?_ (fun k hk => ?_)
  · show keepK (putG (holdK S f) 1 7 G2) f np (1 + i) = G2 i
    rw [keepK_8 (by omega)]; exact putG_in hi
  · unfold keepK up2; rw [upC_at, upC_at, upC_at, upC_at, goK_8]
  · rw [keepK_8 (by omega), putG_hi (by omega)]
  · obtain ⟨-, -, ⟨L, hL⟩, -⟩ := h
    refine ⟨L, hL.1, ?_, e06.trans hL.2.2.1, ?_⟩
    · rw [keepK_8 (by decide), putG_hi (by decide), hold_hi hf (by decide)]; exact hL.2.1
    · rw [keepK_8 (by decide), putG_hi (by decide), hold_hi hf (by decide), e5]; exact hL.2.2.2
  · rw [keepK_8 (by omega), putG_hi (by omega), hold_hi hf (by omega)]
theorem Rel.hold {S M : SS} {f : Nat} (h : Rel S M) (hf : f < 7) : Vs (gm (holdK S f) 1) (M 1) := h.1.1.congr (fun i hi => hold_1 (by omega))
theorem bar_n {x : Int32} (h : x < 0) : ¬ 0 ≤ x := Int32.not_le.mpr h
theorem lo_0 (k : Int32) : 0 ≤ loS k := by unfold loS; split <;> decide
theorem k_4 {k : Int32} (hk : 0 ≤ k ∧ k ≤ 3) : ∃ j : Nat, j < 4 ∧ k = nI j := by
  obtain ⟨j, hj, e⟩ := vp_in_of (n := 4) (x := k) (vp_in_iff.mpr ⟨Int32.le_iff_toInt_le.mp hk.1, by have := Int32.le_iff_toInt_le.mp hk.2; have e3 : (3 : Int32).toInt = 3 := rfl; omega⟩) (by decide)
  exact ⟨j, hj, e⟩
