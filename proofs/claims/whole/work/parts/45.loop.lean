/-! the law's loop -/
def XL (N : Nat) (xs : Nat → Int32) : XT := fun s args below meth _ _ A ad Q => (∀ q, A q ↔ s.heap.size ≤ q) ∧ args = #[Value.ref (ad 84)] ∧ va_X (ad 84) N xs s s.heap ∧ ad 84 < s.heap.size ∧ meth.sig.returnType = ret ∧ Q = lw_Z below args s
section
variable {l : Launch} {R : Room} {own : String} {cc : ByteArray} {nL N : Nat} {xs : Nat → Int32} {cl sl n : Nat} {g : Nat → va_E} {pc : Nat} {L : List (Option Value)} {st : List Value}
theorem VS.scld (k : Nat) (d : decode cc pc = .ok (.iaload, 1)) (hk : k < N) (hN : N ≤ 2048) (kk : VS l R own cc nL (XL N xs) cl sl n g (pc + 1) L (.int (xs k) :: st)) : VS l R own cc nL (XL N xs) cl sl n g pc L (.int (nI k) :: .ref 84 :: st) := by
  intro p e s m args below meth c D cy A ad Q H locs ls C0 x i a hP hS hl
  obtain ⟨h1, h2, h3, h4, h5, h6⟩ := id x
  refine va_sld C0.1 C0.2.1 h3 h4 (fun z => by have := (h1 _).mp z; omega) hS (i := nI k) (vp_in_nI hk (by omega)) d ?_
  rw [nI_clamp (by omega)]
  exact kk p e s m args below meth c D cy A ad Q H locs ls C0 x i a hP hS hl
theorem VS.sclen (d : decode cc pc = .ok (.arraylength, 1)) (kk : VS l R own cc nL (XL N xs) cl sl n g (pc + 1) L (.int (nI N) :: st)) : VS l R own cc nL (XL N xs) cl sl n g pc L (.ref 84 :: st) := by
  intro p e s m args below meth c D cy A ad Q H locs ls C0 x i a hP hS hl
  obtain ⟨h1, h2, h3, h4, h5, h6⟩ := id x
  exact va_slen C0.1 C0.2.1 h3 h4 (fun z => by have := (h1 _).mp z; omega) hS d (kk p e s m args below meth c D cy A ad Q H locs ls C0 x i a hP hS hl)
theorem VS.lwret (hcl : cl ≤ 600000) (hsl : sl ≤ 7302250) (d : decode code pc = .ok (.ireturn, 1)) : VS l room_1 own code nL (XL N xs) cl sl n g pc L [.int 1] := by
  intro p e s m args below meth c D cy A ad Q H locs ls C0 x i a hP hS hl
  obtain ⟨h1, rfl, h3, h4, h5, rfl⟩ := id x
  refine va_forget (fun q hq => (h1 _).mp (hS.2.2 q hq)) ?_
  refine W.widen hcl hsl ?_
  exact lw_ret C0.1 C0.2.1 h5 C0.2.2.2.2.2.1 d
theorem VS.capL {x : Int64} {R : Room} {X : XT} (kk : ∀ c, c = x → VS l R own cc nL X cl sl n g pc L (.long c :: st)) : VS l R own cc nL X cl sl n g pc L (.long x :: st) := kk x rfl
theorem VS.valL {x y : Int64} {X : XT} (h : x = y) (kk : VS l R own cc nL X cl sl n g pc L (.long y :: st)) : VS l R own cc nL X cl sl n g pc L (.long x :: st) := h ▸ kk
end
/-- the class's cells, the reference's -/
def shL (k : Nat) : Shp := if k < 77 then shK k else shR (fun i => 77 + i) (shM (k - 77))
theorem shR_id (h : Shp) : shR (fun i => i) h = h := by
  rcases h with ⟨ci, fl⟩ | z | ⟨N, f⟩
  · show (Sum.inl (ci, fl.map (Option.map fun i => i)) : Shp) = _
    congr 2
    exact (List.map_congr_left fun o _ => by cases o <;> rfl).trans (List.map_id fl)
  · rfl
  · show (Sum.inr (Sum.inr (N, fun i => (f i).map fun i => i)) : Shp) = _
    congr 3
    funext i
    cases f i <;> rfl
theorem shi_c : ShI (fun i => i) 77 shK 84 shL := ⟨fun i hi => Nat.lt_of_lt_of_le hi (by decide), fun i j _ _ h => h, fun i hi => by rw [shR_id]; exact if_pos hi⟩
theorem shi_r : ShI (fun i => 77 + i) 7 shM 84 shL := ⟨fun i hi => by show 77 + i < 84; omega, fun i j _ _ h => by have : 77 + i = 77 + j := h; omega, fun i hi => by
  show shL (77 + i) = _
  unfold shL; rw [if_neg (by omega), show 77 + i - 77 = i by omega]⟩
theorem mg_c (S2 S : SS) : mg (fun i => i) 77 S2 S = putG S 0 77 S2 := by
  funext k
  unfold putG
  by_cases h : k < 77
  · rw [if_pos (by omega)]
    exact mg_in (ρ := fun i => i) (S2 := S2) (S := S) (fun i j _ _ z => z) h
  · rw [if_neg (by omega)]
    exact mg_out fun i hi z => h (by have : i = k := z; omega)
theorem Rel.congr {S M S' M' : SS} (h : Rel S M) (eS : ∀ k, k < 77 → S' k = S k) (eM : ∀ k, k < 7 → M' k = M k) : Rel S' M' := by
  refine Rel.ref ?_ (eM 1 (by decide)) (eM 2 (by decide)) (eM 3 (by decide)) (eM 4 (by decide)) (eM 5 (by decide)) (congrFun (eM 0 (by decide)) 2) (congrFun (eM 0 (by decide)) 6)
  obtain ⟨hV, ⟨f, np, hp⟩, ⟨L, hL⟩, hs⟩ := h
  have hf := hp.1
  have h6 := hp.2.2.1
  refine ⟨hV.congr (fun i hi => eS _ (by omega)), ⟨f, np, hp.1, ?_, hp.2.2.1, ?_, hp.2.2.2.2.1, fun j hj => (hp.2.2.2.2.2 j hj).congr (fun i hi => eS _ (by omega))⟩, ⟨L, hL.1, ?_, hL.2.2.1, ?_⟩, fun q hq => ?_⟩
  · rw [eS 8 (by decide)]; exact hp.2.1
  · rw [eS 8 (by decide)]; exact hp.2.2.2.1
  · rw [eS 59 (by decide)]; exact hL.2.1
  · rw [eS 60 (by decide)]; exact hL.2.2.2
  · have hA := slA_ge q
    rw [eS _ (by omega)]
    rcases hs q hq with h | ⟨h1, h2, h3⟩
    · exact Or.inl h
    · exact Or.inr ⟨h1, h2, h3.congr (fun i hi => eS _ (by omega))⟩
def lawS (S S2 M2 : SS) : SS := putG (putG S 0 77 S2) 77 7 M2
theorem law_ref (S S2 : SS) : (fun i => putG S 0 77 S2 ((fun i => 77 + i) i)) = gm S 77 := by
  funext i; show putG S 0 77 S2 (77 + i) = S (77 + i); exact putG_out (by omega)
theorem law_rel {S S2 M2 : SS} (h : Rel S2 M2) : Rel (lawS S S2 M2) (gm (lawS S S2 M2) 77) := by
  refine h.congr (fun k hk => ?_) (fun k hk => ?_)
  · unfold lawS
    rw [putG_out (by omega)]
    have e := putG_in (S := S) (a := 0) (n := 77) (G := S2) hk
    rwa [Nat.zero_add] at e
  · exact putG_in hk
theorem RmOk.law {j nL cl sl : Nat} (h : j < 9) (hn : nL ≤ 13) (hcl : cl ≤ 600000) (hsl : sl ≤ 7302250) : RmOk (rmD j) nL room_1 cl sl := ⟨⟨by show j + 1 ≤ room_1.frames; exact Nat.le_trans (show j + 1 ≤ 9 by omega) (by decide), by show 8 + (nL + 11) + 32 * j ≤ room_1.locals; exact Nat.le_trans (show 8 + (nL + 11) + 32 * j ≤ 300 by omega) (by decide)⟩, ⟨rfl, rfl⟩, hcl, hsl⟩
theorem sw_0_24 (x : Int32) : x = 0 ∨ x = 1 ∨ x = 2 ∨ x = 3 ∨ x = 4 ∨ x = 5 ∨ x = 6 ∨ x = 7 ∨ x = 8 ∨ x = 9 ∨ x = 10 ∨ x = 11 ∨ x = 12 ∨ x = 13 ∨ x = 14 ∨ x = 15 ∨ x = 16 ∨ x = 17 ∨ x = 18 ∨ x = 19 ∨ x = 20 ∨ x = 21 ∨ x = 22 ∨ x = 23 ∨ x = 24 ∨ (x.toInt < 0 ∨ 24 < x.toInt) := by
  by_cases h : x.toInt < 0 ∨ 24 < x.toInt
  · exact Or.inr (Or.inr (Or.inr (Or.inr (Or.inr (Or.inr (Or.inr (Or.inr (Or.inr (Or.inr (Or.inr (Or.inr (Or.inr (Or.inr (Or.inr (Or.inr (Or.inr (Or.inr (Or.inr (Or.inr (Or.inr (Or.inr (Or.inr (Or.inr (Or.inr (h)))))))))))))))))))))))))
  · rcases (show x.toInt = 0 ∨ x.toInt = 1 ∨ x.toInt = 2 ∨ x.toInt = 3 ∨ x.toInt = 4 ∨ x.toInt = 5 ∨ x.toInt = 6 ∨ x.toInt = 7 ∨ x.toInt = 8 ∨ x.toInt = 9 ∨ x.toInt = 10 ∨ x.toInt = 11 ∨ x.toInt = 12 ∨ x.toInt = 13 ∨ x.toInt = 14 ∨ x.toInt = 15 ∨ x.toInt = 16 ∨ x.toInt = 17 ∨ x.toInt = 18 ∨ x.toInt = 19 ∨ x.toInt = 20 ∨ x.toInt = 21 ∨ x.toInt = 22 ∨ x.toInt = 23 ∨ x.toInt = 24 by omega) with q | q | q | q | q | q | q | q | q | q | q | q | q | q | q | q | q | q | q | q | q | q | q | q | q
    · exact Or.inl (toInt_inj q)
    · exact Or.inr (Or.inl (toInt_inj q))
    · exact Or.inr (Or.inr (Or.inl (toInt_inj q)))
    · exact Or.inr (Or.inr (Or.inr (Or.inl (toInt_inj q))))
    · exact Or.inr (Or.inr (Or.inr (Or.inr (Or.inl (toInt_inj q)))))
    · exact Or.inr (Or.inr (Or.inr (Or.inr (Or.inr (Or.inl (toInt_inj q))))))
    · exact Or.inr (Or.inr (Or.inr (Or.inr (Or.inr (Or.inr (Or.inl (toInt_inj q)))))))
    · exact Or.inr (Or.inr (Or.inr (Or.inr (Or.inr (Or.inr (Or.inr (Or.inl (toInt_inj q))))))))
    · exact Or.inr (Or.inr (Or.inr (Or.inr (Or.inr (Or.inr (Or.inr (Or.inr (Or.inl (toInt_inj q)))))))))
    · exact Or.inr (Or.inr (Or.inr (Or.inr (Or.inr (Or.inr (Or.inr (Or.inr (Or.inr (Or.inl (toInt_inj q))))))))))
    · exact Or.inr (Or.inr (Or.inr (Or.inr (Or.inr (Or.inr (Or.inr (Or.inr (Or.inr (Or.inr (Or.inl (toInt_inj q)))))))))))
    · exact Or.inr (Or.inr (Or.inr (Or.inr (Or.inr (Or.inr (Or.inr (Or.inr (Or.inr (Or.inr (Or.inr (Or.inl (toInt_inj q))))))))))))
    · exact Or.inr (Or.inr (Or.inr (Or.inr (Or.inr (Or.inr (Or.inr (Or.inr (Or.inr (Or.inr (Or.inr (Or.inr (Or.inl (toInt_inj q)))))))))))))
    · exact Or.inr (Or.inr (Or.inr (Or.inr (Or.inr (Or.inr (Or.inr (Or.inr (Or.inr (Or.inr (Or.inr (Or.inr (Or.inr (Or.inl (toInt_inj q))))))))))))))
    · exact Or.inr (Or.inr (Or.inr (Or.inr (Or.inr (Or.inr (Or.inr (Or.inr (Or.inr (Or.inr (Or.inr (Or.inr (Or.inr (Or.inr (Or.inl (toInt_inj q)))))))))))))))
    · exact Or.inr (Or.inr (Or.inr (Or.inr (Or.inr (Or.inr (Or.inr (Or.inr (Or.inr (Or.inr (Or.inr (Or.inr (Or.inr (Or.inr (Or.inr (Or.inl (toInt_inj q))))))))))))))))
    · exact Or.inr (Or.inr (Or.inr (Or.inr (Or.inr (Or.inr (Or.inr (Or.inr (Or.inr (Or.inr (Or.inr (Or.inr (Or.inr (Or.inr (Or.inr (Or.inr (Or.inl (toInt_inj q)))))))))))))))))
    · exact Or.inr (Or.inr (Or.inr (Or.inr (Or.inr (Or.inr (Or.inr (Or.inr (Or.inr (Or.inr (Or.inr (Or.inr (Or.inr (Or.inr (Or.inr (Or.inr (Or.inr (Or.inl (toInt_inj q))))))))))))))))))
    · exact Or.inr (Or.inr (Or.inr (Or.inr (Or.inr (Or.inr (Or.inr (Or.inr (Or.inr (Or.inr (Or.inr (Or.inr (Or.inr (Or.inr (Or.inr (Or.inr (Or.inr (Or.inr (Or.inl (toInt_inj q)))))))))))))))))))
    · exact Or.inr (Or.inr (Or.inr (Or.inr (Or.inr (Or.inr (Or.inr (Or.inr (Or.inr (Or.inr (Or.inr (Or.inr (Or.inr (Or.inr (Or.inr (Or.inr (Or.inr (Or.inr (Or.inr (Or.inl (toInt_inj q))))))))))))))))))))
    · exact Or.inr (Or.inr (Or.inr (Or.inr (Or.inr (Or.inr (Or.inr (Or.inr (Or.inr (Or.inr (Or.inr (Or.inr (Or.inr (Or.inr (Or.inr (Or.inr (Or.inr (Or.inr (Or.inr (Or.inr (Or.inl (toInt_inj q)))))))))))))))))))))
    · exact Or.inr (Or.inr (Or.inr (Or.inr (Or.inr (Or.inr (Or.inr (Or.inr (Or.inr (Or.inr (Or.inr (Or.inr (Or.inr (Or.inr (Or.inr (Or.inr (Or.inr (Or.inr (Or.inr (Or.inr (Or.inr (Or.inl (toInt_inj q))))))))))))))))))))))
    · exact Or.inr (Or.inr (Or.inr (Or.inr (Or.inr (Or.inr (Or.inr (Or.inr (Or.inr (Or.inr (Or.inr (Or.inr (Or.inr (Or.inr (Or.inr (Or.inr (Or.inr (Or.inr (Or.inr (Or.inr (Or.inr (Or.inr (Or.inl (toInt_inj q)))))))))))))))))))))))
    · exact Or.inr (Or.inr (Or.inr (Or.inr (Or.inr (Or.inr (Or.inr (Or.inr (Or.inr (Or.inr (Or.inr (Or.inr (Or.inr (Or.inr (Or.inr (Or.inr (Or.inr (Or.inr (Or.inr (Or.inr (Or.inr (Or.inr (Or.inr (Or.inl (toInt_inj q))))))))))))))))))))))))
    · exact Or.inr (Or.inr (Or.inr (Or.inr (Or.inr (Or.inr (Or.inr (Or.inr (Or.inr (Or.inr (Or.inr (Or.inr (Or.inr (Or.inr (Or.inr (Or.inr (Or.inr (Or.inr (Or.inr (Or.inr (Or.inr (Or.inr (Or.inr (Or.inr (Or.inl (toInt_inj q)))))))))))))))))))))))))
/-- what holds at the loop's head -/
theorem quad {N t : Nat} (hN : N ≤ 2048) (h : ¬ nI (4 * t) > nI N - 4) (ht : 4 * t ≤ 2100) : 4 * t + 4 ≤ N := by
  rcases Nat.lt_or_ge N 4 with q | q
  · exfalso
    apply h
    have e : ∀ N, N < 4 → nI N - 4 < 0 := by decide
    exact Int32.lt_of_lt_of_le (e N q) (nI_ge0 _ (by omega))
  · obtain ⟨k, rfl⟩ : ∃ k, N = k + 4 := ⟨N - 4, by omega⟩
    have e : nI (k + 4) - 4 = nI k := by
      rw [← nI_add k 4]
      show nI k + 4 - 4 = nI k
      rw [Int32.add_sub_cancel]
    rw [e] at h
    rcases Nat.lt_or_ge k (4 * t) with z | z
    · exact absurd (Int32.not_le.mp (nI_ge z (by omega))) h
    · omega
theorem quad_n {N t : Nat} (hN : N ≤ 2048) (h : N ≤ 4 * t + 3) (ht : 4 * t ≤ 2100) : nI (4 * t) > nI N - 4 := by
  apply Classical.byContradiction
  intro z
  have := quad hN z ht
  omega

set_option maxRecDepth 100000 in
set_option maxHeartbeats 2000000 in
theorem law_case_0 (l : Launch) {N : Nat} {xs : Nat → Int32} (hN : N ≤ 2048) {cl sl : Nat} (hcl : cl ≤ 600000) (hsl : sl ≤ 7302250) {S : SS} {t : Nat} (hq : 4 * t + 4 ≤ N) (hRel : Rel S (gm S 77)) (back : ∀ S' : SS, Rel S' (gm S' 77) → VS l room_1 RL cL_law 4 (XL N xs) cl sl 84 (shW shL S') 823 [some (.ref 84), some (.ref 0), some (.ref 77), some (.int (nI (4 * t)))] []) : VS l room_1 RL cL_law 4 (XL N xs) cl sl 84 (shW shL S) 148 [some (.ref 84), some (.ref 0), some (.ref 77), some (.int (nI (4 * t)))] [] := by
  obtain ⟨v, S2, M2, hC, hR, hRel2⟩ := st_set l hRel (xs (4 * t + 1)) (xs (4 * t + 2))
  refine VS.aload_n dL_law_148 rfl ?_
  refine VS.aload_n dL_law_149 rfl ?_
  refine VS.iload_n dL_law_150 rfl ?_
  refine VS.iconst (1) dL_law_151 rfl ?_
  refine VS.iadd dL_law_152 ?_
  refine VS.val (y := nI (4 * t + 1)) (nI_add (4 * t) 1) ?_
  refine VS.scld (4 * t + 1) dL_law_153 (by omega) hN ?_
  refine VS.aload_n dL_law_154 rfl ?_
  refine VS.iload_n dL_law_155 rfl ?_
  refine VS.iconst (2) dL_law_156 rfl ?_
  refine VS.iadd dL_law_157 ?_
  refine VS.val (y := nI (4 * t + 2)) (nI_add (4 * t) 2) ?_
  refine VS.scld (4 * t + 2) dL_law_158 (by omega) hN ?_
  refine VS.callR (fun i => i) shi_c hC dL_law_159 mi_X6_set im_X6_set sel_X6_set ml_L_13 (by decide) rfl rfl (RmOk.law (by decide) (by decide) hcl hsl) (Nat.le_of_ble_eq_true rfl) rfl ?_
  refine VS.stt (mg_c S2 S) ?_
  refine VS.aload_n dL_law_162 rfl ?_
  refine VS.aload_n dL_law_163 rfl ?_
  refine VS.iload_n dL_law_164 rfl ?_
  refine VS.iconst (1) dL_law_165 rfl ?_
  refine VS.iadd dL_law_166 ?_
  refine VS.val (y := nI (4 * t + 1)) (nI_add (4 * t) 1) ?_
  refine VS.scld (4 * t + 1) dL_law_167 (by omega) hN ?_
  refine VS.aload_n dL_law_168 rfl ?_
  refine VS.iload_n dL_law_169 rfl ?_
  refine VS.iconst (2) dL_law_170 rfl ?_
  refine VS.iadd dL_law_171 ?_
  refine VS.val (y := nI (4 * t + 2)) (nI_add (4 * t) 2) ?_
  refine VS.scld (4 * t + 2) dL_law_172 (by omega) hN ?_
  refine VS.callR (fun i => 77 + i) shi_r ((law_ref S S2).symm ▸ hR) dL_law_173 mi_X7_set im_X7_set sel_X7_set ml_L_17 (by decide) rfl rfl (RmOk.law (by decide) (by decide) hcl hsl) (Nat.le_of_ble_eq_true rfl) rfl ?_
  refine VS.stt (mg_off 77 7 M2 (putG S 0 77 S2)) ?_
  refine VS.icmp_eq 823 dL_law_176 (by decide) (fun _ => ?_) (fun hh => absurd rfl hh)
  exact back (lawS S S2 M2) (law_rel hRel2)

set_option maxRecDepth 100000 in
set_option maxHeartbeats 2000000 in
theorem law_case_1 (l : Launch) {N : Nat} {xs : Nat → Int32} (hN : N ≤ 2048) {cl sl : Nat} (hcl : cl ≤ 600000) (hsl : sl ≤ 7302250) {S : SS} {t : Nat} (hq : 4 * t + 4 ≤ N) (hRel : Rel S (gm S 77)) (back : ∀ S' : SS, Rel S' (gm S' 77) → VS l room_1 RL cL_law 4 (XL N xs) cl sl 84 (shW shL S') 823 [some (.ref 84), some (.ref 0), some (.ref 77), some (.int (nI (4 * t)))] []) : VS l room_1 RL cL_law 4 (XL N xs) cl sl 84 (shW shL S) 181 [some (.ref 84), some (.ref 0), some (.ref 77), some (.int (nI (4 * t)))] [] := by
  obtain ⟨v, S2, M2, hC, hR, hRel2⟩ := st_road l hRel (xs (4 * t + 1)) (xs (4 * t + 2))
  refine VS.aload_n dL_law_181 rfl ?_
  refine VS.aload_n dL_law_182 rfl ?_
  refine VS.iload_n dL_law_183 rfl ?_
  refine VS.iconst (1) dL_law_184 rfl ?_
  refine VS.iadd dL_law_185 ?_
  refine VS.val (y := nI (4 * t + 1)) (nI_add (4 * t) 1) ?_
  refine VS.scld (4 * t + 1) dL_law_186 (by omega) hN ?_
  refine VS.aload_n dL_law_187 rfl ?_
  refine VS.iload_n dL_law_188 rfl ?_
  refine VS.iconst (2) dL_law_189 rfl ?_
  refine VS.iadd dL_law_190 ?_
  refine VS.val (y := nI (4 * t + 2)) (nI_add (4 * t) 2) ?_
  refine VS.scld (4 * t + 2) dL_law_191 (by omega) hN ?_
  refine VS.callR (fun i => i) shi_c hC dL_law_192 mi_X6_road im_X6_road sel_X6_road ml_L_18 (by decide) rfl rfl (RmOk.law (by decide) (by decide) hcl hsl) (Nat.le_of_ble_eq_true rfl) rfl ?_
  refine VS.stt (mg_c S2 S) ?_
  refine VS.aload_n dL_law_195 rfl ?_
  refine VS.aload_n dL_law_196 rfl ?_
  refine VS.iload_n dL_law_197 rfl ?_
  refine VS.iconst (1) dL_law_198 rfl ?_
  refine VS.iadd dL_law_199 ?_
  refine VS.val (y := nI (4 * t + 1)) (nI_add (4 * t) 1) ?_
  refine VS.scld (4 * t + 1) dL_law_200 (by omega) hN ?_
  refine VS.aload_n dL_law_201 rfl ?_
  refine VS.iload_n dL_law_202 rfl ?_
  refine VS.iconst (2) dL_law_203 rfl ?_
  refine VS.iadd dL_law_204 ?_
  refine VS.val (y := nI (4 * t + 2)) (nI_add (4 * t) 2) ?_
  refine VS.scld (4 * t + 2) dL_law_205 (by omega) hN ?_
  refine VS.callR (fun i => 77 + i) shi_r ((law_ref S S2).symm ▸ hR) dL_law_206 mi_X7_road im_X7_road sel_X7_road ml_L_21 (by decide) rfl rfl (RmOk.law (by decide) (by decide) hcl hsl) (Nat.le_of_ble_eq_true rfl) rfl ?_
  refine VS.stt (mg_off 77 7 M2 (putG S 0 77 S2)) ?_
  refine VS.icmp_eq 823 dL_law_209 (by decide) (fun _ => ?_) (fun hh => absurd rfl hh)
  exact back (lawS S S2 M2) (law_rel hRel2)

set_option maxRecDepth 100000 in
set_option maxHeartbeats 2000000 in
theorem law_case_2 (l : Launch) {N : Nat} {xs : Nat → Int32} (hN : N ≤ 2048) {cl sl : Nat} (hcl : cl ≤ 600000) (hsl : sl ≤ 7302250) {S : SS} {t : Nat} (hq : 4 * t + 4 ≤ N) (hRel : Rel S (gm S 77)) (back : ∀ S' : SS, Rel S' (gm S' 77) → VS l room_1 RL cL_law 4 (XL N xs) cl sl 84 (shW shL S') 823 [some (.ref 84), some (.ref 0), some (.ref 77), some (.int (nI (4 * t)))] []) : VS l room_1 RL cL_law 4 (XL N xs) cl sl 84 (shW shL S) 214 [some (.ref 84), some (.ref 0), some (.ref 77), some (.int (nI (4 * t)))] [] := by
  obtain ⟨v, S2, M2, hC, hR, hRel2⟩ := st_treasure l hRel (xs (4 * t + 1))
  refine VS.aload_n dL_law_214 rfl ?_
  refine VS.aload_n dL_law_215 rfl ?_
  refine VS.iload_n dL_law_216 rfl ?_
  refine VS.iconst (1) dL_law_217 rfl ?_
  refine VS.iadd dL_law_218 ?_
  refine VS.val (y := nI (4 * t + 1)) (nI_add (4 * t) 1) ?_
  refine VS.scld (4 * t + 1) dL_law_219 (by omega) hN ?_
  refine VS.callR (fun i => i) shi_c hC dL_law_220 mi_X6_treasure im_X6_treasure sel_X6_treasure ml_L_22 (by decide) rfl rfl (RmOk.law (by decide) (by decide) hcl hsl) (Nat.le_of_ble_eq_true rfl) rfl ?_
  refine VS.stt (mg_c S2 S) ?_
  refine VS.aload_n dL_law_223 rfl ?_
  refine VS.aload_n dL_law_224 rfl ?_
  refine VS.iload_n dL_law_225 rfl ?_
  refine VS.iconst (1) dL_law_226 rfl ?_
  refine VS.iadd dL_law_227 ?_
  refine VS.val (y := nI (4 * t + 1)) (nI_add (4 * t) 1) ?_
  refine VS.scld (4 * t + 1) dL_law_228 (by omega) hN ?_
  refine VS.callR (fun i => 77 + i) shi_r ((law_ref S S2).symm ▸ hR) dL_law_229 mi_X7_treasure im_X7_treasure sel_X7_treasure ml_L_26 (by decide) rfl rfl (RmOk.law (by decide) (by decide) hcl hsl) (Nat.le_of_ble_eq_true rfl) rfl ?_
  refine VS.stt (mg_off 77 7 M2 (putG S 0 77 S2)) ?_
  refine VS.icmp_eq 823 dL_law_232 (by decide) (fun _ => ?_) (fun hh => absurd rfl hh)
  exact back (lawS S S2 M2) (law_rel hRel2)

set_option maxRecDepth 100000 in
set_option maxHeartbeats 2000000 in
theorem law_case_3 (l : Launch) {N : Nat} {xs : Nat → Int32} (hN : N ≤ 2048) {cl sl : Nat} (hcl : cl ≤ 600000) (hsl : sl ≤ 7302250) {S : SS} {t : Nat} (hq : 4 * t + 4 ≤ N) (hRel : Rel S (gm S 77)) (back : ∀ S' : SS, Rel S' (gm S' 77) → VS l room_1 RL cL_law 4 (XL N xs) cl sl 84 (shW shL S') 823 [some (.ref 84), some (.ref 0), some (.ref 77), some (.int (nI (4 * t)))] []) : VS l room_1 RL cL_law 4 (XL N xs) cl sl 84 (shW shL S) 237 [some (.ref 84), some (.ref 0), some (.ref 77), some (.int (nI (4 * t)))] [] := by
  obtain ⟨v, S2, M2, hC, hR, hRel2⟩ := st_begin l hRel 
  refine VS.aload_n dL_law_237 rfl ?_
  refine VS.callR (fun i => i) shi_c hC dL_law_238 mi_X6_begin im_X6_begin sel_X6_begin ml_L_27 (by decide) rfl rfl (RmOk.law (by decide) (by decide) hcl hsl) (Nat.le_of_ble_eq_true rfl) rfl ?_
  refine VS.stt (mg_c S2 S) ?_
  refine VS.aload_n dL_law_241 rfl ?_
  refine VS.callR (fun i => 77 + i) shi_r ((law_ref S S2).symm ▸ hR) dL_law_242 mi_X7_begin im_X7_begin sel_X7_begin ml_L_31 (by decide) rfl rfl (RmOk.law (by decide) (by decide) hcl hsl) (Nat.le_of_ble_eq_true rfl) rfl ?_
  refine VS.stt (mg_off 77 7 M2 (putG S 0 77 S2)) ?_
  refine VS.icmp_eq 823 dL_law_245 (by decide) (fun _ => ?_) (fun hh => absurd rfl hh)
  exact back (lawS S S2 M2) (law_rel hRel2)

set_option maxRecDepth 100000 in
set_option maxHeartbeats 2000000 in
theorem law_case_4 (l : Launch) {N : Nat} {xs : Nat → Int32} (hN : N ≤ 2048) {cl sl : Nat} (hcl : cl ≤ 600000) (hsl : sl ≤ 7302250) {S : SS} {t : Nat} (hq : 4 * t + 4 ≤ N) (hRel : Rel S (gm S 77)) (back : ∀ S' : SS, Rel S' (gm S' 77) → VS l room_1 RL cL_law 4 (XL N xs) cl sl 84 (shW shL S') 823 [some (.ref 84), some (.ref 0), some (.ref 77), some (.int (nI (4 * t)))] []) : VS l room_1 RL cL_law 4 (XL N xs) cl sl 84 (shW shL S) 250 [some (.ref 84), some (.ref 0), some (.ref 77), some (.int (nI (4 * t)))] [] := by
  obtain ⟨v, S2, M2, hC, hR, hRel2⟩ := st_claim l hRel (xs (4 * t + 1)) (xs (4 * t + 2)) (xs (4 * t + 3))
  refine VS.aload_n dL_law_250 rfl ?_
  refine VS.aload_n dL_law_251 rfl ?_
  refine VS.iload_n dL_law_252 rfl ?_
  refine VS.iconst (1) dL_law_253 rfl ?_
  refine VS.iadd dL_law_254 ?_
  refine VS.val (y := nI (4 * t + 1)) (nI_add (4 * t) 1) ?_
  refine VS.scld (4 * t + 1) dL_law_255 (by omega) hN ?_
  refine VS.aload_n dL_law_256 rfl ?_
  refine VS.iload_n dL_law_257 rfl ?_
  refine VS.iconst (2) dL_law_258 rfl ?_
  refine VS.iadd dL_law_259 ?_
  refine VS.val (y := nI (4 * t + 2)) (nI_add (4 * t) 2) ?_
  refine VS.scld (4 * t + 2) dL_law_260 (by omega) hN ?_
  refine VS.aload_n dL_law_261 rfl ?_
  refine VS.iload_n dL_law_262 rfl ?_
  refine VS.iconst (3) dL_law_263 rfl ?_
  refine VS.iadd dL_law_264 ?_
  refine VS.val (y := nI (4 * t + 3)) (nI_add (4 * t) 3) ?_
  refine VS.scld (4 * t + 3) dL_law_265 (by omega) hN ?_
  refine VS.callR (fun i => i) shi_c hC dL_law_266 mi_X6_claim im_X6_claim sel_X6_claim ml_L_32 (by decide) rfl rfl (RmOk.law (by decide) (by decide) hcl hsl) (Nat.le_of_ble_eq_true rfl) rfl ?_
  refine VS.stt (mg_c S2 S) ?_
  refine VS.aload_n dL_law_269 rfl ?_
  refine VS.aload_n dL_law_270 rfl ?_
  refine VS.iload_n dL_law_271 rfl ?_
  refine VS.iconst (1) dL_law_272 rfl ?_
  refine VS.iadd dL_law_273 ?_
  refine VS.val (y := nI (4 * t + 1)) (nI_add (4 * t) 1) ?_
  refine VS.scld (4 * t + 1) dL_law_274 (by omega) hN ?_
  refine VS.aload_n dL_law_275 rfl ?_
  refine VS.iload_n dL_law_276 rfl ?_
  refine VS.iconst (2) dL_law_277 rfl ?_
  refine VS.iadd dL_law_278 ?_
  refine VS.val (y := nI (4 * t + 2)) (nI_add (4 * t) 2) ?_
  refine VS.scld (4 * t + 2) dL_law_279 (by omega) hN ?_
  refine VS.aload_n dL_law_280 rfl ?_
  refine VS.iload_n dL_law_281 rfl ?_
  refine VS.iconst (3) dL_law_282 rfl ?_
  refine VS.iadd dL_law_283 ?_
  refine VS.val (y := nI (4 * t + 3)) (nI_add (4 * t) 3) ?_
  refine VS.scld (4 * t + 3) dL_law_284 (by omega) hN ?_
  refine VS.callR (fun i => 77 + i) shi_r ((law_ref S S2).symm ▸ hR) dL_law_285 mi_X7_claim im_X7_claim sel_X7_claim ml_L_36 (by decide) rfl rfl (RmOk.law (by decide) (by decide) hcl hsl) (Nat.le_of_ble_eq_true rfl) rfl ?_
  refine VS.stt (mg_off 77 7 M2 (putG S 0 77 S2)) ?_
  refine VS.icmp_eq 823 dL_law_288 (by decide) (fun _ => ?_) (fun hh => absurd rfl hh)
  exact back (lawS S S2 M2) (law_rel hRel2)

set_option maxRecDepth 100000 in
set_option maxHeartbeats 2000000 in
theorem law_case_5 (l : Launch) {N : Nat} {xs : Nat → Int32} (hN : N ≤ 2048) {cl sl : Nat} (hcl : cl ≤ 600000) (hsl : sl ≤ 7302250) {S : SS} {t : Nat} (hq : 4 * t + 4 ≤ N) (hRel : Rel S (gm S 77)) (back : ∀ S' : SS, Rel S' (gm S' 77) → VS l room_1 RL cL_law 4 (XL N xs) cl sl 84 (shW shL S') 823 [some (.ref 84), some (.ref 0), some (.ref 77), some (.int (nI (4 * t)))] []) : VS l room_1 RL cL_law 4 (XL N xs) cl sl 84 (shW shL S) 293 [some (.ref 84), some (.ref 0), some (.ref 77), some (.int (nI (4 * t)))] [] := by
  obtain ⟨v, S2, M2, hC, hR, hRel2⟩ := st_check l hRel (xs (4 * t + 1)) (xs (4 * t + 2)) (xs (4 * t + 3))
  refine VS.aload_n dL_law_293 rfl ?_
  refine VS.aload_n dL_law_294 rfl ?_
  refine VS.iload_n dL_law_295 rfl ?_
  refine VS.iconst (1) dL_law_296 rfl ?_
  refine VS.iadd dL_law_297 ?_
  refine VS.val (y := nI (4 * t + 1)) (nI_add (4 * t) 1) ?_
  refine VS.scld (4 * t + 1) dL_law_298 (by omega) hN ?_
  refine VS.aload_n dL_law_299 rfl ?_
  refine VS.iload_n dL_law_300 rfl ?_
  refine VS.iconst (2) dL_law_301 rfl ?_
  refine VS.iadd dL_law_302 ?_
  refine VS.val (y := nI (4 * t + 2)) (nI_add (4 * t) 2) ?_
  refine VS.scld (4 * t + 2) dL_law_303 (by omega) hN ?_
  refine VS.aload_n dL_law_304 rfl ?_
  refine VS.iload_n dL_law_305 rfl ?_
  refine VS.iconst (3) dL_law_306 rfl ?_
  refine VS.iadd dL_law_307 ?_
  refine VS.val (y := nI (4 * t + 3)) (nI_add (4 * t) 3) ?_
  refine VS.scld (4 * t + 3) dL_law_308 (by omega) hN ?_
  refine VS.callR (fun i => i) shi_c hC dL_law_309 mi_X6_check im_X6_check sel_X6_check ml_L_37 (by decide) rfl rfl (RmOk.law (by decide) (by decide) hcl hsl) (Nat.le_of_ble_eq_true rfl) rfl ?_
  refine VS.stt (mg_c S2 S) ?_
  refine VS.aload_n dL_law_312 rfl ?_
  refine VS.aload_n dL_law_313 rfl ?_
  refine VS.iload_n dL_law_314 rfl ?_
  refine VS.iconst (1) dL_law_315 rfl ?_
  refine VS.iadd dL_law_316 ?_
  refine VS.val (y := nI (4 * t + 1)) (nI_add (4 * t) 1) ?_
  refine VS.scld (4 * t + 1) dL_law_317 (by omega) hN ?_
  refine VS.aload_n dL_law_318 rfl ?_
  refine VS.iload_n dL_law_319 rfl ?_
  refine VS.iconst (2) dL_law_320 rfl ?_
  refine VS.iadd dL_law_321 ?_
  refine VS.val (y := nI (4 * t + 2)) (nI_add (4 * t) 2) ?_
  refine VS.scld (4 * t + 2) dL_law_322 (by omega) hN ?_
  refine VS.aload_n dL_law_323 rfl ?_
  refine VS.iload_n dL_law_324 rfl ?_
  refine VS.iconst (3) dL_law_325 rfl ?_
  refine VS.iadd dL_law_326 ?_
  refine VS.val (y := nI (4 * t + 3)) (nI_add (4 * t) 3) ?_
  refine VS.scld (4 * t + 3) dL_law_327 (by omega) hN ?_
  refine VS.callR (fun i => 77 + i) shi_r ((law_ref S S2).symm ▸ hR) dL_law_328 mi_X7_check im_X7_check sel_X7_check ml_L_40 (by decide) rfl rfl (RmOk.law (by decide) (by decide) hcl hsl) (Nat.le_of_ble_eq_true rfl) rfl ?_
  refine VS.stt (mg_off 77 7 M2 (putG S 0 77 S2)) ?_
  refine VS.icmp_eq 823 dL_law_331 (by decide) (fun _ => ?_) (fun hh => absurd rfl hh)
  exact back (lawS S S2 M2) (law_rel hRel2)

set_option maxRecDepth 100000 in
set_option maxHeartbeats 2000000 in
theorem law_case_6 (l : Launch) {N : Nat} {xs : Nat → Int32} (hN : N ≤ 2048) {cl sl : Nat} (hcl : cl ≤ 600000) (hsl : sl ≤ 7302250) {S : SS} {t : Nat} (hq : 4 * t + 4 ≤ N) (hRel : Rel S (gm S 77)) (back : ∀ S' : SS, Rel S' (gm S' 77) → VS l room_1 RL cL_law 4 (XL N xs) cl sl 84 (shW shL S') 823 [some (.ref 84), some (.ref 0), some (.ref 77), some (.int (nI (4 * t)))] []) : VS l room_1 RL cL_law 4 (XL N xs) cl sl 84 (shW shL S) 336 [some (.ref 84), some (.ref 0), some (.ref 77), some (.int (nI (4 * t)))] [] := by
  obtain ⟨v, S2, M2, hC, hR, hRel2⟩ := st_dig l hRel (xs (4 * t + 1))
  refine VS.aload_n dL_law_336 rfl ?_
  refine VS.aload_n dL_law_337 rfl ?_
  refine VS.iload_n dL_law_338 rfl ?_
  refine VS.iconst (1) dL_law_339 rfl ?_
  refine VS.iadd dL_law_340 ?_
  refine VS.val (y := nI (4 * t + 1)) (nI_add (4 * t) 1) ?_
  refine VS.scld (4 * t + 1) dL_law_341 (by omega) hN ?_
  refine VS.callR (fun i => i) shi_c hC dL_law_342 mi_X6_dig im_X6_dig sel_X6_dig ml_L_41 (by decide) rfl rfl (RmOk.law (by decide) (by decide) hcl hsl) (Nat.le_of_ble_eq_true rfl) rfl ?_
  refine VS.stt (mg_c S2 S) ?_
  refine VS.aload_n dL_law_345 rfl ?_
  refine VS.aload_n dL_law_346 rfl ?_
  refine VS.iload_n dL_law_347 rfl ?_
  refine VS.iconst (1) dL_law_348 rfl ?_
  refine VS.iadd dL_law_349 ?_
  refine VS.val (y := nI (4 * t + 1)) (nI_add (4 * t) 1) ?_
  refine VS.scld (4 * t + 1) dL_law_350 (by omega) hN ?_
  refine VS.callR (fun i => 77 + i) shi_r ((law_ref S S2).symm ▸ hR) dL_law_351 mi_X7_dig im_X7_dig sel_X7_dig ml_L_44 (by decide) rfl rfl (RmOk.law (by decide) (by decide) hcl hsl) (Nat.le_of_ble_eq_true rfl) rfl ?_
  refine VS.stt (mg_off 77 7 M2 (putG S 0 77 S2)) ?_
  refine VS.icmp_eq 823 dL_law_354 (by decide) (fun _ => ?_) (fun hh => absurd rfl hh)
  exact back (lawS S S2 M2) (law_rel hRel2)

set_option maxRecDepth 100000 in
set_option maxHeartbeats 2000000 in
theorem law_case_7 (l : Launch) {N : Nat} {xs : Nat → Int32} (hN : N ≤ 2048) {cl sl : Nat} (hcl : cl ≤ 600000) (hsl : sl ≤ 7302250) {S : SS} {t : Nat} (hq : 4 * t + 4 ≤ N) (hRel : Rel S (gm S 77)) (back : ∀ S' : SS, Rel S' (gm S' 77) → VS l room_1 RL cL_law 4 (XL N xs) cl sl 84 (shW shL S') 823 [some (.ref 84), some (.ref 0), some (.ref 77), some (.int (nI (4 * t)))] []) : VS l room_1 RL cL_law 4 (XL N xs) cl sl 84 (shW shL S) 359 [some (.ref 84), some (.ref 0), some (.ref 77), some (.int (nI (4 * t)))] [] := by
  obtain ⟨v, S2, M2, hC, hR, hRel2⟩ := st_pass l hRel 
  refine VS.aload_n dL_law_359 rfl ?_
  refine VS.callR (fun i => i) shi_c hC dL_law_360 mi_X6_pass im_X6_pass sel_X6_pass ml_L_45 (by decide) rfl rfl (RmOk.law (by decide) (by decide) hcl hsl) (Nat.le_of_ble_eq_true rfl) rfl ?_
  refine VS.stt (mg_c S2 S) ?_
  refine VS.aload_n dL_law_363 rfl ?_
  refine VS.callR (fun i => 77 + i) shi_r ((law_ref S S2).symm ▸ hR) dL_law_364 mi_X7_pass im_X7_pass sel_X7_pass ml_L_48 (by decide) rfl rfl (RmOk.law (by decide) (by decide) hcl hsl) (Nat.le_of_ble_eq_true rfl) rfl ?_
  refine VS.stt (mg_off 77 7 M2 (putG S 0 77 S2)) ?_
  refine VS.icmp_eq 823 dL_law_367 (by decide) (fun _ => ?_) (fun hh => absurd rfl hh)
  exact back (lawS S S2 M2) (law_rel hRel2)

set_option maxRecDepth 100000 in
set_option maxHeartbeats 2000000 in
theorem law_case_8 (l : Launch) {N : Nat} {xs : Nat → Int32} (hN : N ≤ 2048) {cl sl : Nat} (hcl : cl ≤ 600000) (hsl : sl ≤ 7302250) {S : SS} {t : Nat} (hq : 4 * t + 4 ≤ N) (hRel : Rel S (gm S 77)) (back : ∀ S' : SS, Rel S' (gm S' 77) → VS l room_1 RL cL_law 4 (XL N xs) cl sl 84 (shW shL S') 823 [some (.ref 84), some (.ref 0), some (.ref 77), some (.int (nI (4 * t)))] []) : VS l room_1 RL cL_law 4 (XL N xs) cl sl 84 (shW shL S) 372 [some (.ref 84), some (.ref 0), some (.ref 77), some (.int (nI (4 * t)))] [] := by
  obtain ⟨v, S2, M2, hC, hR, hRel2⟩ := st_ofRoad l hRel (xs (4 * t + 1)) (xs (4 * t + 2)) (xs (4 * t + 3))
  refine VS.aload_n dL_law_372 rfl ?_
  refine VS.aload_n dL_law_373 rfl ?_
  refine VS.iload_n dL_law_374 rfl ?_
  refine VS.iconst (1) dL_law_375 rfl ?_
  refine VS.iadd dL_law_376 ?_
  refine VS.val (y := nI (4 * t + 1)) (nI_add (4 * t) 1) ?_
  refine VS.scld (4 * t + 1) dL_law_377 (by omega) hN ?_
  refine VS.aload_n dL_law_378 rfl ?_
  refine VS.iload_n dL_law_379 rfl ?_
  refine VS.iconst (2) dL_law_380 rfl ?_
  refine VS.iadd dL_law_381 ?_
  refine VS.val (y := nI (4 * t + 2)) (nI_add (4 * t) 2) ?_
  refine VS.scld (4 * t + 2) dL_law_382 (by omega) hN ?_
  refine VS.aload_n dL_law_383 rfl ?_
  refine VS.iload_n dL_law_384 rfl ?_
  refine VS.iconst (3) dL_law_385 rfl ?_
  refine VS.iadd dL_law_386 ?_
  refine VS.val (y := nI (4 * t + 3)) (nI_add (4 * t) 3) ?_
  refine VS.scld (4 * t + 3) dL_law_387 (by omega) hN ?_
  refine VS.callR (fun i => i) shi_c hC dL_law_388 mi_X6_ofRoad im_X6_ofRoad sel_X6_ofRoad ml_L_49 (by decide) rfl rfl (RmOk.law (by decide) (by decide) hcl hsl) (Nat.le_of_ble_eq_true rfl) rfl ?_
  refine VS.stt (mg_c S2 S) ?_
  refine VS.aload_n dL_law_391 rfl ?_
  refine VS.aload_n dL_law_392 rfl ?_
  refine VS.iload_n dL_law_393 rfl ?_
  refine VS.iconst (1) dL_law_394 rfl ?_
  refine VS.iadd dL_law_395 ?_
  refine VS.val (y := nI (4 * t + 1)) (nI_add (4 * t) 1) ?_
  refine VS.scld (4 * t + 1) dL_law_396 (by omega) hN ?_
  refine VS.aload_n dL_law_397 rfl ?_
  refine VS.iload_n dL_law_398 rfl ?_
  refine VS.iconst (2) dL_law_399 rfl ?_
  refine VS.iadd dL_law_400 ?_
  refine VS.val (y := nI (4 * t + 2)) (nI_add (4 * t) 2) ?_
  refine VS.scld (4 * t + 2) dL_law_401 (by omega) hN ?_
  refine VS.aload_n dL_law_402 rfl ?_
  refine VS.iload_n dL_law_403 rfl ?_
  refine VS.iconst (3) dL_law_404 rfl ?_
  refine VS.iadd dL_law_405 ?_
  refine VS.val (y := nI (4 * t + 3)) (nI_add (4 * t) 3) ?_
  refine VS.scld (4 * t + 3) dL_law_406 (by omega) hN ?_
  refine VS.callR (fun i => 77 + i) shi_r ((law_ref S S2).symm ▸ hR) dL_law_407 mi_X7_ofRoad im_X7_ofRoad sel_X7_ofRoad ml_L_52 (by decide) rfl rfl (RmOk.law (by decide) (by decide) hcl hsl) (Nat.le_of_ble_eq_true rfl) rfl ?_
  refine VS.stt (mg_off 77 7 M2 (putG S 0 77 S2)) ?_
  refine VS.icmp_eq 823 dL_law_410 (by decide) (fun _ => ?_) (fun hh => absurd rfl hh)
  exact back (lawS S S2 M2) (law_rel hRel2)

set_option maxRecDepth 100000 in
set_option maxHeartbeats 2000000 in
theorem law_case_9 (l : Launch) {N : Nat} {xs : Nat → Int32} (hN : N ≤ 2048) {cl sl : Nat} (hcl : cl ≤ 600000) (hsl : sl ≤ 7302250) {S : SS} {t : Nat} (hq : 4 * t + 4 ≤ N) (hRel : Rel S (gm S 77)) (back : ∀ S' : SS, Rel S' (gm S' 77) → VS l room_1 RL cL_law 4 (XL N xs) cl sl 84 (shW shL S') 823 [some (.ref 84), some (.ref 0), some (.ref 77), some (.int (nI (4 * t)))] []) : VS l room_1 RL cL_law 4 (XL N xs) cl sl 84 (shW shL S) 415 [some (.ref 84), some (.ref 0), some (.ref 77), some (.int (nI (4 * t)))] [] := by
  obtain ⟨v, S2, M2, hC, hR, hRel2⟩ := st_knows l hRel (xs (4 * t + 1)) (xs (4 * t + 2)) (xs (4 * t + 3))
  refine VS.aload_n dL_law_415 rfl ?_
  refine VS.aload_n dL_law_416 rfl ?_
  refine VS.iload_n dL_law_417 rfl ?_
  refine VS.iconst (1) dL_law_418 rfl ?_
  refine VS.iadd dL_law_419 ?_
  refine VS.val (y := nI (4 * t + 1)) (nI_add (4 * t) 1) ?_
  refine VS.scld (4 * t + 1) dL_law_420 (by omega) hN ?_
  refine VS.aload_n dL_law_421 rfl ?_
  refine VS.iload_n dL_law_422 rfl ?_
  refine VS.iconst (2) dL_law_423 rfl ?_
  refine VS.iadd dL_law_424 ?_
  refine VS.val (y := nI (4 * t + 2)) (nI_add (4 * t) 2) ?_
  refine VS.scld (4 * t + 2) dL_law_425 (by omega) hN ?_
  refine VS.aload_n dL_law_426 rfl ?_
  refine VS.iload_n dL_law_427 rfl ?_
  refine VS.iconst (3) dL_law_428 rfl ?_
  refine VS.iadd dL_law_429 ?_
  refine VS.val (y := nI (4 * t + 3)) (nI_add (4 * t) 3) ?_
  refine VS.scld (4 * t + 3) dL_law_430 (by omega) hN ?_
  refine VS.callR (fun i => i) shi_c hC dL_law_431 mi_X6_knows im_X6_knows sel_X6_knows ml_L_53 (by decide) rfl rfl (RmOk.law (by decide) (by decide) hcl hsl) (Nat.le_of_ble_eq_true rfl) rfl ?_
  refine VS.stt (mg_c S2 S) ?_
  refine VS.aload_n dL_law_434 rfl ?_
  refine VS.aload_n dL_law_435 rfl ?_
  refine VS.iload_n dL_law_436 rfl ?_
  refine VS.iconst (1) dL_law_437 rfl ?_
  refine VS.iadd dL_law_438 ?_
  refine VS.val (y := nI (4 * t + 1)) (nI_add (4 * t) 1) ?_
  refine VS.scld (4 * t + 1) dL_law_439 (by omega) hN ?_
  refine VS.aload_n dL_law_440 rfl ?_
  refine VS.iload_n dL_law_441 rfl ?_
  refine VS.iconst (2) dL_law_442 rfl ?_
  refine VS.iadd dL_law_443 ?_
  refine VS.val (y := nI (4 * t + 2)) (nI_add (4 * t) 2) ?_
  refine VS.scld (4 * t + 2) dL_law_444 (by omega) hN ?_
  refine VS.aload_n dL_law_445 rfl ?_
  refine VS.iload_n dL_law_446 rfl ?_
  refine VS.iconst (3) dL_law_447 rfl ?_
  refine VS.iadd dL_law_448 ?_
  refine VS.val (y := nI (4 * t + 3)) (nI_add (4 * t) 3) ?_
  refine VS.scld (4 * t + 3) dL_law_449 (by omega) hN ?_
  refine VS.callR (fun i => 77 + i) shi_r ((law_ref S S2).symm ▸ hR) dL_law_450 mi_X7_knows im_X7_knows sel_X7_knows ml_L_56 (by decide) rfl rfl (RmOk.law (by decide) (by decide) hcl hsl) (Nat.le_of_ble_eq_true rfl) rfl ?_
  refine VS.stt (mg_off 77 7 M2 (putG S 0 77 S2)) ?_
  refine VS.icmp_eq 823 dL_law_453 (by decide) (fun _ => ?_) (fun hh => absurd rfl hh)
  exact back (lawS S S2 M2) (law_rel hRel2)

set_option maxRecDepth 100000 in
set_option maxHeartbeats 2000000 in
theorem law_case_10 (l : Launch) {N : Nat} {xs : Nat → Int32} (hN : N ≤ 2048) {cl sl : Nat} (hcl : cl ≤ 600000) (hsl : sl ≤ 7302250) {S : SS} {t : Nat} (hq : 4 * t + 4 ≤ N) (hRel : Rel S (gm S 77)) (back : ∀ S' : SS, Rel S' (gm S' 77) → VS l room_1 RL cL_law 4 (XL N xs) cl sl 84 (shW shL S') 823 [some (.ref 84), some (.ref 0), some (.ref 77), some (.int (nI (4 * t)))] []) : VS l room_1 RL cL_law 4 (XL N xs) cl sl 84 (shW shL S) 458 [some (.ref 84), some (.ref 0), some (.ref 77), some (.int (nI (4 * t)))] [] := by
  obtain ⟨v, S2, M2, hC, hR, hRel2⟩ := st_player l hRel (xs (4 * t + 1)) (xs (4 * t + 2))
  refine VS.aload_n dL_law_458 rfl ?_
  refine VS.aload_n dL_law_459 rfl ?_
  refine VS.iload_n dL_law_460 rfl ?_
  refine VS.iconst (1) dL_law_461 rfl ?_
  refine VS.iadd dL_law_462 ?_
  refine VS.val (y := nI (4 * t + 1)) (nI_add (4 * t) 1) ?_
  refine VS.scld (4 * t + 1) dL_law_463 (by omega) hN ?_
  refine VS.aload_n dL_law_464 rfl ?_
  refine VS.iload_n dL_law_465 rfl ?_
  refine VS.iconst (2) dL_law_466 rfl ?_
  refine VS.iadd dL_law_467 ?_
  refine VS.val (y := nI (4 * t + 2)) (nI_add (4 * t) 2) ?_
  refine VS.scld (4 * t + 2) dL_law_468 (by omega) hN ?_
  refine VS.callR (fun i => i) shi_c hC dL_law_469 mi_X6_player im_X6_player sel_X6_player ml_L_57 (by decide) rfl rfl (RmOk.law (by decide) (by decide) hcl hsl) (Nat.le_of_ble_eq_true rfl) rfl ?_
  refine VS.stt (mg_c S2 S) ?_
  refine VS.aload_n dL_law_472 rfl ?_
  refine VS.aload_n dL_law_473 rfl ?_
  refine VS.iload_n dL_law_474 rfl ?_
  refine VS.iconst (1) dL_law_475 rfl ?_
  refine VS.iadd dL_law_476 ?_
  refine VS.val (y := nI (4 * t + 1)) (nI_add (4 * t) 1) ?_
  refine VS.scld (4 * t + 1) dL_law_477 (by omega) hN ?_
  refine VS.aload_n dL_law_478 rfl ?_
  refine VS.iload_n dL_law_479 rfl ?_
  refine VS.iconst (2) dL_law_480 rfl ?_
  refine VS.iadd dL_law_481 ?_
  refine VS.val (y := nI (4 * t + 2)) (nI_add (4 * t) 2) ?_
  refine VS.scld (4 * t + 2) dL_law_482 (by omega) hN ?_
  refine VS.callR (fun i => 77 + i) shi_r ((law_ref S S2).symm ▸ hR) dL_law_483 mi_X7_player im_X7_player sel_X7_player ml_L_60 (by decide) rfl rfl (RmOk.law (by decide) (by decide) hcl hsl) (Nat.le_of_ble_eq_true rfl) rfl ?_
  refine VS.stt (mg_off 77 7 M2 (putG S 0 77 S2)) ?_
  refine VS.icmp_eq 823 dL_law_486 (by decide) (fun _ => ?_) (fun hh => absurd rfl hh)
  exact back (lawS S S2 M2) (law_rel hRel2)

set_option maxRecDepth 100000 in
set_option maxHeartbeats 2000000 in
theorem law_case_11 (l : Launch) {N : Nat} {xs : Nat → Int32} (hN : N ≤ 2048) {cl sl : Nat} (hcl : cl ≤ 600000) (hsl : sl ≤ 7302250) {S : SS} {t : Nat} (hq : 4 * t + 4 ≤ N) (hRel : Rel S (gm S 77)) (back : ∀ S' : SS, Rel S' (gm S' 77) → VS l room_1 RL cL_law 4 (XL N xs) cl sl 84 (shW shL S') 823 [some (.ref 84), some (.ref 0), some (.ref 77), some (.int (nI (4 * t)))] []) : VS l room_1 RL cL_law 4 (XL N xs) cl sl 84 (shW shL S) 491 [some (.ref 84), some (.ref 0), some (.ref 77), some (.int (nI (4 * t)))] [] := by
  obtain ⟨v, S2, M2, hC, hR, hRel2⟩ := st_place l hRel (xs (4 * t + 1)) (xs (4 * t + 2))
  refine VS.aload_n dL_law_491 rfl ?_
  refine VS.aload_n dL_law_492 rfl ?_
  refine VS.iload_n dL_law_493 rfl ?_
  refine VS.iconst (1) dL_law_494 rfl ?_
  refine VS.iadd dL_law_495 ?_
  refine VS.val (y := nI (4 * t + 1)) (nI_add (4 * t) 1) ?_
  refine VS.scld (4 * t + 1) dL_law_496 (by omega) hN ?_
  refine VS.aload_n dL_law_497 rfl ?_
  refine VS.iload_n dL_law_498 rfl ?_
  refine VS.iconst (2) dL_law_499 rfl ?_
  refine VS.iadd dL_law_500 ?_
  refine VS.val (y := nI (4 * t + 2)) (nI_add (4 * t) 2) ?_
  refine VS.scld (4 * t + 2) dL_law_501 (by omega) hN ?_
  refine VS.callR (fun i => i) shi_c hC dL_law_502 mi_X6_place im_X6_place sel_X6_place ml_L_61 (by decide) rfl rfl (RmOk.law (by decide) (by decide) hcl hsl) (Nat.le_of_ble_eq_true rfl) rfl ?_
  refine VS.stt (mg_c S2 S) ?_
  refine VS.aload_n dL_law_505 rfl ?_
  refine VS.aload_n dL_law_506 rfl ?_
  refine VS.iload_n dL_law_507 rfl ?_
  refine VS.iconst (1) dL_law_508 rfl ?_
  refine VS.iadd dL_law_509 ?_
  refine VS.val (y := nI (4 * t + 1)) (nI_add (4 * t) 1) ?_
  refine VS.scld (4 * t + 1) dL_law_510 (by omega) hN ?_
  refine VS.aload_n dL_law_511 rfl ?_
  refine VS.iload_n dL_law_512 rfl ?_
  refine VS.iconst (2) dL_law_513 rfl ?_
  refine VS.iadd dL_law_514 ?_
  refine VS.val (y := nI (4 * t + 2)) (nI_add (4 * t) 2) ?_
  refine VS.scld (4 * t + 2) dL_law_515 (by omega) hN ?_
  refine VS.callR (fun i => 77 + i) shi_r ((law_ref S S2).symm ▸ hR) dL_law_516 mi_X7_place im_X7_place sel_X7_place ml_L_64 (by decide) rfl rfl (RmOk.law (by decide) (by decide) hcl hsl) (Nat.le_of_ble_eq_true rfl) rfl ?_
  refine VS.stt (mg_off 77 7 M2 (putG S 0 77 S2)) ?_
  refine VS.icmp_eq 823 dL_law_519 (by decide) (fun _ => ?_) (fun hh => absurd rfl hh)
  exact back (lawS S S2 M2) (law_rel hRel2)

set_option maxRecDepth 100000 in
set_option maxHeartbeats 2000000 in
theorem law_case_12 (l : Launch) {N : Nat} {xs : Nat → Int32} (hN : N ≤ 2048) {cl sl : Nat} (hcl : cl ≤ 600000) (hsl : sl ≤ 7302250) {S : SS} {t : Nat} (hq : 4 * t + 4 ≤ N) (hRel : Rel S (gm S 77)) (back : ∀ S' : SS, Rel S' (gm S' 77) → VS l room_1 RL cL_law 4 (XL N xs) cl sl 84 (shW shL S') 823 [some (.ref 84), some (.ref 0), some (.ref 77), some (.int (nI (4 * t)))] []) : VS l room_1 RL cL_law 4 (XL N xs) cl sl 84 (shW shL S) 524 [some (.ref 84), some (.ref 0), some (.ref 77), some (.int (nI (4 * t)))] [] := by
  obtain ⟨v, S2, M2, hC, hR, hRel2⟩ := st_dug l hRel (xs (4 * t + 1))
  refine VS.aload_n dL_law_524 rfl ?_
  refine VS.aload_n dL_law_525 rfl ?_
  refine VS.iload_n dL_law_526 rfl ?_
  refine VS.iconst (1) dL_law_527 rfl ?_
  refine VS.iadd dL_law_528 ?_
  refine VS.val (y := nI (4 * t + 1)) (nI_add (4 * t) 1) ?_
  refine VS.scld (4 * t + 1) dL_law_529 (by omega) hN ?_
  refine VS.callR (fun i => i) shi_c hC dL_law_530 mi_X6_dug im_X6_dug sel_X6_dug ml_L_65 (by decide) rfl rfl (RmOk.law (by decide) (by decide) hcl hsl) (Nat.le_of_ble_eq_true rfl) rfl ?_
  refine VS.stt (mg_c S2 S) ?_
  refine VS.aload_n dL_law_533 rfl ?_
  refine VS.aload_n dL_law_534 rfl ?_
  refine VS.iload_n dL_law_535 rfl ?_
  refine VS.iconst (1) dL_law_536 rfl ?_
  refine VS.iadd dL_law_537 ?_
  refine VS.val (y := nI (4 * t + 1)) (nI_add (4 * t) 1) ?_
  refine VS.scld (4 * t + 1) dL_law_538 (by omega) hN ?_
  refine VS.callR (fun i => 77 + i) shi_r ((law_ref S S2).symm ▸ hR) dL_law_539 mi_X7_dug im_X7_dug sel_X7_dug ml_L_68 (by decide) rfl rfl (RmOk.law (by decide) (by decide) hcl hsl) (Nat.le_of_ble_eq_true rfl) rfl ?_
  refine VS.stt (mg_off 77 7 M2 (putG S 0 77 S2)) ?_
  refine VS.icmp_eq 823 dL_law_542 (by decide) (fun _ => ?_) (fun hh => absurd rfl hh)
  exact back (lawS S S2 M2) (law_rel hRel2)

set_option maxRecDepth 100000 in
set_option maxHeartbeats 2000000 in
theorem law_case_13 (l : Launch) {N : Nat} {xs : Nat → Int32} (hN : N ≤ 2048) {cl sl : Nat} (hcl : cl ≤ 600000) (hsl : sl ≤ 7302250) {S : SS} {t : Nat} (hq : 4 * t + 4 ≤ N) (hRel : Rel S (gm S 77)) (back : ∀ S' : SS, Rel S' (gm S' 77) → VS l room_1 RL cL_law 4 (XL N xs) cl sl 84 (shW shL S') 823 [some (.ref 84), some (.ref 0), some (.ref 77), some (.int (nI (4 * t)))] []) : VS l room_1 RL cL_law 4 (XL N xs) cl sl 84 (shW shL S) 547 [some (.ref 84), some (.ref 0), some (.ref 77), some (.int (nI (4 * t)))] [] := by
  obtain ⟨v, S2, M2, hC, hR, hRel2⟩ := st_count l hRel (xs (4 * t + 1))
  refine VS.aload_n dL_law_547 rfl ?_
  refine VS.aload_n dL_law_548 rfl ?_
  refine VS.iload_n dL_law_549 rfl ?_
  refine VS.iconst (1) dL_law_550 rfl ?_
  refine VS.iadd dL_law_551 ?_
  refine VS.val (y := nI (4 * t + 1)) (nI_add (4 * t) 1) ?_
  refine VS.scld (4 * t + 1) dL_law_552 (by omega) hN ?_
  refine VS.callR (fun i => i) shi_c hC dL_law_553 mi_X6_count im_X6_count sel_X6_count ml_L_69 (by decide) rfl rfl (RmOk.law (by decide) (by decide) hcl hsl) (Nat.le_of_ble_eq_true rfl) rfl ?_
  refine VS.stt (mg_c S2 S) ?_
  refine VS.aload_n dL_law_556 rfl ?_
  refine VS.aload_n dL_law_557 rfl ?_
  refine VS.iload_n dL_law_558 rfl ?_
  refine VS.iconst (1) dL_law_559 rfl ?_
  refine VS.iadd dL_law_560 ?_
  refine VS.val (y := nI (4 * t + 1)) (nI_add (4 * t) 1) ?_
  refine VS.scld (4 * t + 1) dL_law_561 (by omega) hN ?_
  refine VS.callR (fun i => 77 + i) shi_r ((law_ref S S2).symm ▸ hR) dL_law_562 mi_X7_count im_X7_count sel_X7_count ml_L_72 (by decide) rfl rfl (RmOk.law (by decide) (by decide) hcl hsl) (Nat.le_of_ble_eq_true rfl) rfl ?_
  refine VS.stt (mg_off 77 7 M2 (putG S 0 77 S2)) ?_
  refine VS.icmp_eq 823 dL_law_565 (by decide) (fun _ => ?_) (fun hh => absurd rfl hh)
  exact back (lawS S S2 M2) (law_rel hRel2)

set_option maxRecDepth 100000 in
set_option maxHeartbeats 2000000 in
theorem law_case_14 (l : Launch) {N : Nat} {xs : Nat → Int32} (hN : N ≤ 2048) {cl sl : Nat} (hcl : cl ≤ 600000) (hsl : sl ≤ 7302250) {S : SS} {t : Nat} (hq : 4 * t + 4 ≤ N) (hRel : Rel S (gm S 77)) (back : ∀ S' : SS, Rel S' (gm S' 77) → VS l room_1 RL cL_law 4 (XL N xs) cl sl 84 (shW shL S') 823 [some (.ref 84), some (.ref 0), some (.ref 77), some (.int (nI (4 * t)))] []) : VS l room_1 RL cL_law 4 (XL N xs) cl sl 84 (shW shL S) 570 [some (.ref 84), some (.ref 0), some (.ref 77), some (.int (nI (4 * t)))] [] := by
  obtain ⟨v, S2, M2, hC, hR, hRel2⟩ := st_canBe l hRel 
  refine VS.aload_n dL_law_570 rfl ?_
  refine VS.callR (fun i => i) shi_c hC dL_law_571 mi_X6_canBe im_X6_canBe sel_X6_canBe ml_L_73 (by decide) rfl rfl (RmOk.law (by decide) (by decide) hcl hsl) (Nat.le_of_ble_eq_true rfl) rfl ?_
  refine VS.stt (mg_c S2 S) ?_
  refine VS.aload_n dL_law_574 rfl ?_
  refine VS.callR (fun i => 77 + i) shi_r ((law_ref S S2).symm ▸ hR) dL_law_575 mi_X7_canBe im_X7_canBe sel_X7_canBe ml_L_76 (by decide) rfl rfl (RmOk.law (by decide) (by decide) hcl hsl) (Nat.le_of_ble_eq_true rfl) rfl ?_
  refine VS.stt (mg_off 77 7 M2 (putG S 0 77 S2)) ?_
  refine VS.icmp_eq 823 dL_law_578 (by decide) (fun _ => ?_) (fun hh => absurd rfl hh)
  exact back (lawS S S2 M2) (law_rel hRel2)

set_option maxRecDepth 100000 in
set_option maxHeartbeats 2000000 in
theorem law_case_15 (l : Launch) {N : Nat} {xs : Nat → Int32} (hN : N ≤ 2048) {cl sl : Nat} (hcl : cl ≤ 600000) (hsl : sl ≤ 7302250) {S : SS} {t : Nat} (hq : 4 * t + 4 ≤ N) (hRel : Rel S (gm S 77)) (back : ∀ S' : SS, Rel S' (gm S' 77) → VS l room_1 RL cL_law 4 (XL N xs) cl sl 84 (shW shL S') 823 [some (.ref 84), some (.ref 0), some (.ref 77), some (.int (nI (4 * t)))] []) : VS l room_1 RL cL_law 4 (XL N xs) cl sl 84 (shW shL S) 583 [some (.ref 84), some (.ref 0), some (.ref 77), some (.int (nI (4 * t)))] [] := by
  obtain ⟨v, S2, M2, hC, hR, hRel2⟩ := st_shows l hRel (xs (4 * t + 1)) (xs (4 * t + 2))
  refine VS.aload_n dL_law_583 rfl ?_
  refine VS.aload_n dL_law_584 rfl ?_
  refine VS.iload_n dL_law_585 rfl ?_
  refine VS.iconst (1) dL_law_586 rfl ?_
  refine VS.iadd dL_law_587 ?_
  refine VS.val (y := nI (4 * t + 1)) (nI_add (4 * t) 1) ?_
  refine VS.scld (4 * t + 1) dL_law_588 (by omega) hN ?_
  refine VS.aload_n dL_law_589 rfl ?_
  refine VS.iload_n dL_law_590 rfl ?_
  refine VS.iconst (2) dL_law_591 rfl ?_
  refine VS.iadd dL_law_592 ?_
  refine VS.val (y := nI (4 * t + 2)) (nI_add (4 * t) 2) ?_
  refine VS.scld (4 * t + 2) dL_law_593 (by omega) hN ?_
  refine VS.callR (fun i => i) shi_c hC dL_law_594 mi_X6_shows im_X6_shows sel_X6_shows ml_L_77 (by decide) rfl rfl (RmOk.law (by decide) (by decide) hcl hsl) (Nat.le_of_ble_eq_true rfl) rfl ?_
  refine VS.stt (mg_c S2 S) ?_
  refine VS.aload_n dL_law_597 rfl ?_
  refine VS.aload_n dL_law_598 rfl ?_
  refine VS.iload_n dL_law_599 rfl ?_
  refine VS.iconst (1) dL_law_600 rfl ?_
  refine VS.iadd dL_law_601 ?_
  refine VS.val (y := nI (4 * t + 1)) (nI_add (4 * t) 1) ?_
  refine VS.scld (4 * t + 1) dL_law_602 (by omega) hN ?_
  refine VS.aload_n dL_law_603 rfl ?_
  refine VS.iload_n dL_law_604 rfl ?_
  refine VS.iconst (2) dL_law_605 rfl ?_
  refine VS.iadd dL_law_606 ?_
  refine VS.val (y := nI (4 * t + 2)) (nI_add (4 * t) 2) ?_
  refine VS.scld (4 * t + 2) dL_law_607 (by omega) hN ?_
  refine VS.callR (fun i => 77 + i) shi_r ((law_ref S S2).symm ▸ hR) dL_law_608 mi_X7_shows im_X7_shows sel_X7_shows ml_L_80 (by decide) rfl rfl (RmOk.law (by decide) (by decide) hcl hsl) (Nat.le_of_ble_eq_true rfl) rfl ?_
  refine VS.stt (mg_off 77 7 M2 (putG S 0 77 S2)) ?_
  refine VS.icmp_eq 823 dL_law_611 (by decide) (fun _ => ?_) (fun hh => absurd rfl hh)
  exact back (lawS S S2 M2) (law_rel hRel2)

set_option maxRecDepth 100000 in
set_option maxHeartbeats 2000000 in
theorem law_case_16 (l : Launch) {N : Nat} {xs : Nat → Int32} (hN : N ≤ 2048) {cl sl : Nat} (hcl : cl ≤ 600000) (hsl : sl ≤ 7302250) {S : SS} {t : Nat} (hq : 4 * t + 4 ≤ N) (hRel : Rel S (gm S 77)) (back : ∀ S' : SS, Rel S' (gm S' 77) → VS l room_1 RL cL_law 4 (XL N xs) cl sl 84 (shW shL S') 823 [some (.ref 84), some (.ref 0), some (.ref 77), some (.int (nI (4 * t)))] []) : VS l room_1 RL cL_law 4 (XL N xs) cl sl 84 (shW shL S) 616 [some (.ref 84), some (.ref 0), some (.ref 77), some (.int (nI (4 * t)))] [] := by
  obtain ⟨v, S2, M2, hC, hR, hRel2⟩ := st_bestShow l hRel (xs (4 * t + 1))
  refine VS.aload_n dL_law_616 rfl ?_
  refine VS.aload_n dL_law_617 rfl ?_
  refine VS.iload_n dL_law_618 rfl ?_
  refine VS.iconst (1) dL_law_619 rfl ?_
  refine VS.iadd dL_law_620 ?_
  refine VS.val (y := nI (4 * t + 1)) (nI_add (4 * t) 1) ?_
  refine VS.scld (4 * t + 1) dL_law_621 (by omega) hN ?_
  refine VS.callR (fun i => i) shi_c hC dL_law_622 mi_X6_bestShow im_X6_bestShow sel_X6_bestShow ml_L_81 (by decide) rfl rfl (RmOk.law (by decide) (by decide) hcl hsl) (Nat.le_of_ble_eq_true rfl) rfl ?_
  refine VS.stt (mg_c S2 S) ?_
  refine VS.aload_n dL_law_625 rfl ?_
  refine VS.aload_n dL_law_626 rfl ?_
  refine VS.iload_n dL_law_627 rfl ?_
  refine VS.iconst (1) dL_law_628 rfl ?_
  refine VS.iadd dL_law_629 ?_
  refine VS.val (y := nI (4 * t + 1)) (nI_add (4 * t) 1) ?_
  refine VS.scld (4 * t + 1) dL_law_630 (by omega) hN ?_
  refine VS.callR (fun i => 77 + i) shi_r ((law_ref S S2).symm ▸ hR) dL_law_631 mi_X7_bestShow im_X7_bestShow sel_X7_bestShow ml_L_84 (by decide) rfl rfl (RmOk.law (by decide) (by decide) hcl hsl) (Nat.le_of_ble_eq_true rfl) rfl ?_
  refine VS.stt (mg_off 77 7 M2 (putG S 0 77 S2)) ?_
  refine VS.icmp_eq 823 dL_law_634 (by decide) (fun _ => ?_) (fun hh => absurd rfl hh)
  exact back (lawS S S2 M2) (law_rel hRel2)

set_option maxRecDepth 100000 in
set_option maxHeartbeats 2000000 in
theorem law_case_17 (l : Launch) {N : Nat} {xs : Nat → Int32} (hN : N ≤ 2048) {cl sl : Nat} (hcl : cl ≤ 600000) (hsl : sl ≤ 7302250) {S : SS} {t : Nat} (hq : 4 * t + 4 ≤ N) (hRel : Rel S (gm S 77)) (back : ∀ S' : SS, Rel S' (gm S' 77) → VS l room_1 RL cL_law 4 (XL N xs) cl sl 84 (shW shL S') 823 [some (.ref 84), some (.ref 0), some (.ref 77), some (.int (nI (4 * t)))] []) : VS l room_1 RL cL_law 4 (XL N xs) cl sl 84 (shW shL S) 639 [some (.ref 84), some (.ref 0), some (.ref 77), some (.int (nI (4 * t)))] [] := by
  obtain ⟨v, S2, M2, hC, hR, hRel2⟩ := st_knownWay l hRel (xs (4 * t + 1)) (xs (4 * t + 2))
  refine VS.aload_n dL_law_639 rfl ?_
  refine VS.aload_n dL_law_640 rfl ?_
  refine VS.iload_n dL_law_641 rfl ?_
  refine VS.iconst (1) dL_law_642 rfl ?_
  refine VS.iadd dL_law_643 ?_
  refine VS.val (y := nI (4 * t + 1)) (nI_add (4 * t) 1) ?_
  refine VS.scld (4 * t + 1) dL_law_644 (by omega) hN ?_
  refine VS.aload_n dL_law_645 rfl ?_
  refine VS.iload_n dL_law_646 rfl ?_
  refine VS.iconst (2) dL_law_647 rfl ?_
  refine VS.iadd dL_law_648 ?_
  refine VS.val (y := nI (4 * t + 2)) (nI_add (4 * t) 2) ?_
  refine VS.scld (4 * t + 2) dL_law_649 (by omega) hN ?_
  refine VS.callR (fun i => i) shi_c hC dL_law_650 mi_X6_knownWay im_X6_knownWay sel_X6_knownWay ml_L_85 (by decide) rfl rfl (RmOk.law (by decide) (by decide) hcl hsl) (Nat.le_of_ble_eq_true rfl) rfl ?_
  refine VS.stt (mg_c S2 S) ?_
  refine VS.aload_n dL_law_653 rfl ?_
  refine VS.aload_n dL_law_654 rfl ?_
  refine VS.iload_n dL_law_655 rfl ?_
  refine VS.iconst (1) dL_law_656 rfl ?_
  refine VS.iadd dL_law_657 ?_
  refine VS.val (y := nI (4 * t + 1)) (nI_add (4 * t) 1) ?_
  refine VS.scld (4 * t + 1) dL_law_658 (by omega) hN ?_
  refine VS.aload_n dL_law_659 rfl ?_
  refine VS.iload_n dL_law_660 rfl ?_
  refine VS.iconst (2) dL_law_661 rfl ?_
  refine VS.iadd dL_law_662 ?_
  refine VS.val (y := nI (4 * t + 2)) (nI_add (4 * t) 2) ?_
  refine VS.scld (4 * t + 2) dL_law_663 (by omega) hN ?_
  refine VS.callR (fun i => 77 + i) shi_r ((law_ref S S2).symm ▸ hR) dL_law_664 mi_X7_knownWay im_X7_knownWay sel_X7_knownWay ml_L_88 (by decide) rfl rfl (RmOk.law (by decide) (by decide) hcl hsl) (Nat.le_of_ble_eq_true rfl) rfl ?_
  refine VS.stt (mg_off 77 7 M2 (putG S 0 77 S2)) ?_
  refine VS.icmp_eq 823 dL_law_667 (by decide) (fun _ => ?_) (fun hh => absurd rfl hh)
  exact back (lawS S S2 M2) (law_rel hRel2)

set_option maxRecDepth 100000 in
set_option maxHeartbeats 2000000 in
theorem law_case_18 (l : Launch) {N : Nat} {xs : Nat → Int32} (hN : N ≤ 2048) {cl sl : Nat} (hcl : cl ≤ 600000) (hsl : sl ≤ 7302250) {S : SS} {t : Nat} (hq : 4 * t + 4 ≤ N) (hRel : Rel S (gm S 77)) (back : ∀ S' : SS, Rel S' (gm S' 77) → VS l room_1 RL cL_law 4 (XL N xs) cl sl 84 (shW shL S') 823 [some (.ref 84), some (.ref 0), some (.ref 77), some (.int (nI (4 * t)))] []) : VS l room_1 RL cL_law 4 (XL N xs) cl sl 84 (shW shL S) 672 [some (.ref 84), some (.ref 0), some (.ref 77), some (.int (nI (4 * t)))] [] := by
  refine VS.aload_n dL_law_672 rfl ?_
  refine VS.aload_n dL_law_673 rfl ?_
  refine VS.iload_n dL_law_674 rfl ?_
  refine VS.iconst (1) dL_law_675 rfl ?_
  refine VS.iadd dL_law_676 ?_
  refine VS.val (y := nI (4 * t + 1)) (nI_add (4 * t) 1) ?_
  refine VS.scld (4 * t + 1) dL_law_677 (by omega) hN ?_
  refine VS.i2l dL_law_678 ?_
  refine VS.bipush (32) dL_law_679 rfl ?_
  refine VS.lshl dL_law_681 ?_
  refine VS.aload_n dL_law_682 rfl ?_
  refine VS.iload_n dL_law_683 rfl ?_
  refine VS.iconst (2) dL_law_684 rfl ?_
  refine VS.iadd dL_law_685 ?_
  refine VS.val (y := nI (4 * t + 2)) (nI_add (4 * t) 2) ?_
  refine VS.scld (4 * t + 2) dL_law_686 (by omega) hN ?_
  refine VS.i2l dL_law_687 ?_
  refine VS.ldc2 dL_law_688 kc_L_89 ?_
  refine VS.land dL_law_691 ?_
  refine VS.lor dL_law_692 ?_
  refine VS.capL (fun c hc => ?_)
  obtain ⟨v, S2, M2, hC, hR, hRel2⟩ := st_put l hRel c
  refine VS.callR (fun i => i) shi_c hC dL_law_693 mi_X6_put im_X6_put sel_X6_put ml_L_91 (by decide) rfl rfl (RmOk.law (by decide) (by decide) hcl hsl) (Nat.le_of_ble_eq_true rfl) rfl ?_
  refine VS.stt (mg_c S2 S) ?_
  refine VS.aload_n dL_law_696 rfl ?_
  refine VS.aload_n dL_law_697 rfl ?_
  refine VS.iload_n dL_law_698 rfl ?_
  refine VS.iconst (1) dL_law_699 rfl ?_
  refine VS.iadd dL_law_700 ?_
  refine VS.val (y := nI (4 * t + 1)) (nI_add (4 * t) 1) ?_
  refine VS.scld (4 * t + 1) dL_law_701 (by omega) hN ?_
  refine VS.i2l dL_law_702 ?_
  refine VS.bipush (32) dL_law_703 rfl ?_
  refine VS.lshl dL_law_705 ?_
  refine VS.aload_n dL_law_706 rfl ?_
  refine VS.iload_n dL_law_707 rfl ?_
  refine VS.iconst (2) dL_law_708 rfl ?_
  refine VS.iadd dL_law_709 ?_
  refine VS.val (y := nI (4 * t + 2)) (nI_add (4 * t) 2) ?_
  refine VS.scld (4 * t + 2) dL_law_710 (by omega) hN ?_
  refine VS.i2l dL_law_711 ?_
  refine VS.ldc2 dL_law_712 kc_L_89 ?_
  refine VS.land dL_law_715 ?_
  refine VS.lor dL_law_716 ?_
  refine VS.valL (y := c) hc.symm ?_
  refine VS.callR (fun i => 77 + i) shi_r ((law_ref S S2).symm ▸ hR) dL_law_717 mi_X7_put im_X7_put sel_X7_put ml_L_95 (by decide) rfl rfl (RmOk.law (by decide) (by decide) hcl hsl) (Nat.le_of_ble_eq_true rfl) rfl ?_
  refine VS.stt (mg_off 77 7 M2 (putG S 0 77 S2)) ?_
  refine VS.icmp_eq 823 dL_law_720 (by decide) (fun _ => ?_) (fun hh => absurd rfl hh)
  exact back (lawS S S2 M2) (law_rel hRel2)

set_option maxRecDepth 100000 in
set_option maxHeartbeats 2000000 in
theorem law_case_19 (l : Launch) {N : Nat} {xs : Nat → Int32} (hN : N ≤ 2048) {cl sl : Nat} (hcl : cl ≤ 600000) (hsl : sl ≤ 7302250) {S : SS} {t : Nat} (hq : 4 * t + 4 ≤ N) (hRel : Rel S (gm S 77)) (back : ∀ S' : SS, Rel S' (gm S' 77) → VS l room_1 RL cL_law 4 (XL N xs) cl sl 84 (shW shL S') 823 [some (.ref 84), some (.ref 0), some (.ref 77), some (.int (nI (4 * t)))] []) : VS l room_1 RL cL_law 4 (XL N xs) cl sl 84 (shW shL S) 725 [some (.ref 84), some (.ref 0), some (.ref 77), some (.int (nI (4 * t)))] [] := by
  obtain ⟨v, S2, M2, hC, hR, hRel2⟩ := st_wipe l hRel 
  refine VS.aload_n dL_law_725 rfl ?_
  refine VS.callR (fun i => i) shi_c hC dL_law_726 mi_X6_wipe im_X6_wipe sel_X6_wipe ml_L_96 (by decide) rfl rfl (RmOk.law (by decide) (by decide) hcl hsl) (Nat.le_of_ble_eq_true rfl) rfl ?_
  refine VS.stt (mg_c S2 S) ?_
  refine VS.aload_n dL_law_729 rfl ?_
  refine VS.callR (fun i => 77 + i) shi_r ((law_ref S S2).symm ▸ hR) dL_law_730 mi_X7_wipe im_X7_wipe sel_X7_wipe ml_L_99 (by decide) rfl rfl (RmOk.law (by decide) (by decide) hcl hsl) (Nat.le_of_ble_eq_true rfl) rfl ?_
  refine VS.stt (mg_off 77 7 M2 (putG S 0 77 S2)) ?_
  refine VS.icmp_eq 823 dL_law_733 (by decide) (fun _ => ?_) (fun hh => absurd rfl hh)
  exact back (lawS S S2 M2) (law_rel hRel2)

set_option maxRecDepth 100000 in
set_option maxHeartbeats 2000000 in
theorem law_case_20 (l : Launch) {N : Nat} {xs : Nat → Int32} (hN : N ≤ 2048) {cl sl : Nat} (hcl : cl ≤ 600000) (hsl : sl ≤ 7302250) {S : SS} {t : Nat} (hq : 4 * t + 4 ≤ N) (hRel : Rel S (gm S 77)) (back : ∀ S' : SS, Rel S' (gm S' 77) → VS l room_1 RL cL_law 4 (XL N xs) cl sl 84 (shW shL S') 823 [some (.ref 84), some (.ref 0), some (.ref 77), some (.int (nI (4 * t)))] []) : VS l room_1 RL cL_law 4 (XL N xs) cl sl 84 (shW shL S) 738 [some (.ref 84), some (.ref 0), some (.ref 77), some (.int (nI (4 * t)))] [] := by
  obtain ⟨v, S2, M2, hC, hR, hRel2⟩ := st_fault l hRel 
  refine VS.aload_n dL_law_738 rfl ?_
  refine VS.callR (fun i => i) shi_c hC dL_law_739 mi_X6_fault im_X6_fault sel_X6_fault ml_L_100 (by decide) rfl rfl (RmOk.law (by decide) (by decide) hcl hsl) (Nat.le_of_ble_eq_true rfl) rfl ?_
  refine VS.stt (mg_c S2 S) ?_
  refine VS.aload_n dL_law_742 rfl ?_
  refine VS.callR (fun i => 77 + i) shi_r ((law_ref S S2).symm ▸ hR) dL_law_743 mi_X7_fault im_X7_fault sel_X7_fault ml_L_103 (by decide) rfl rfl (RmOk.law (by decide) (by decide) hcl hsl) (Nat.le_of_ble_eq_true rfl) rfl ?_
  refine VS.stt (mg_off 77 7 M2 (putG S 0 77 S2)) ?_
  refine VS.icmp_eq 823 dL_law_746 (by decide) (fun _ => ?_) (fun hh => absurd rfl hh)
  exact back (lawS S S2 M2) (law_rel hRel2)

set_option maxRecDepth 100000 in
set_option maxHeartbeats 2000000 in
theorem law_case_21 (l : Launch) {N : Nat} {xs : Nat → Int32} (hN : N ≤ 2048) {cl sl : Nat} (hcl : cl ≤ 600000) (hsl : sl ≤ 7302250) {S : SS} {t : Nat} (hq : 4 * t + 4 ≤ N) (hRel : Rel S (gm S 77)) (back : ∀ S' : SS, Rel S' (gm S' 77) → VS l room_1 RL cL_law 4 (XL N xs) cl sl 84 (shW shL S') 823 [some (.ref 84), some (.ref 0), some (.ref 77), some (.int (nI (4 * t)))] []) : VS l room_1 RL cL_law 4 (XL N xs) cl sl 84 (shW shL S) 751 [some (.ref 84), some (.ref 0), some (.ref 77), some (.int (nI (4 * t)))] [] := by
  obtain ⟨v, S2, M2, hC, hR, hRel2⟩ := st_carryOut l hRel 
  refine VS.aload_n dL_law_751 rfl ?_
  refine VS.callR (fun i => i) shi_c hC dL_law_752 mi_X6_carryOut im_X6_carryOut sel_X6_carryOut ml_L_104 (by decide) rfl rfl (RmOk.law (by decide) (by decide) hcl hsl) (Nat.le_of_ble_eq_true rfl) rfl ?_
  refine VS.stt (mg_c S2 S) ?_
  refine VS.aload_n dL_law_755 rfl ?_
  refine VS.callR (fun i => 77 + i) shi_r ((law_ref S S2).symm ▸ hR) dL_law_756 mi_X7_carryOut im_X7_carryOut sel_X7_carryOut ml_L_107 (by decide) rfl rfl (RmOk.law (by decide) (by decide) hcl hsl) (Nat.le_of_ble_eq_true rfl) rfl ?_
  refine VS.stt (mg_off 77 7 M2 (putG S 0 77 S2)) ?_
  refine VS.icmp_eq 823 dL_law_759 (by decide) (fun _ => ?_) (fun hh => absurd rfl hh)
  exact back (lawS S S2 M2) (law_rel hRel2)

set_option maxRecDepth 100000 in
set_option maxHeartbeats 2000000 in
theorem law_case_22 (l : Launch) {N : Nat} {xs : Nat → Int32} (hN : N ≤ 2048) {cl sl : Nat} (hcl : cl ≤ 600000) (hsl : sl ≤ 7302250) {S : SS} {t : Nat} (hq : 4 * t + 4 ≤ N) (hRel : Rel S (gm S 77)) (back : ∀ S' : SS, Rel S' (gm S' 77) → VS l room_1 RL cL_law 4 (XL N xs) cl sl 84 (shW shL S') 823 [some (.ref 84), some (.ref 0), some (.ref 77), some (.int (nI (4 * t)))] []) : VS l room_1 RL cL_law 4 (XL N xs) cl sl 84 (shW shL S) 764 [some (.ref 84), some (.ref 0), some (.ref 77), some (.int (nI (4 * t)))] [] := by
  obtain ⟨v, S2, M2, hC, hR, hRel2⟩ := st_undo l hRel 
  refine VS.aload_n dL_law_764 rfl ?_
  refine VS.callR (fun i => i) shi_c hC dL_law_765 mi_X6_undo im_X6_undo sel_X6_undo ml_L_108 (by decide) rfl rfl (RmOk.law (by decide) (by decide) hcl hsl) (Nat.le_of_ble_eq_true rfl) rfl ?_
  refine VS.stt (mg_c S2 S) ?_
  refine VS.aload_n dL_law_768 rfl ?_
  refine VS.callR (fun i => 77 + i) shi_r ((law_ref S S2).symm ▸ hR) dL_law_769 mi_X7_undo im_X7_undo sel_X7_undo ml_L_111 (by decide) rfl rfl (RmOk.law (by decide) (by decide) hcl hsl) (Nat.le_of_ble_eq_true rfl) rfl ?_
  refine VS.stt (mg_off 77 7 M2 (putG S 0 77 S2)) ?_
  refine VS.icmp_eq 823 dL_law_772 (by decide) (fun _ => ?_) (fun hh => absurd rfl hh)
  exact back (lawS S S2 M2) (law_rel hRel2)

set_option maxRecDepth 100000 in
set_option maxHeartbeats 2000000 in
theorem law_case_23 (l : Launch) {N : Nat} {xs : Nat → Int32} (hN : N ≤ 2048) {cl sl : Nat} (hcl : cl ≤ 600000) (hsl : sl ≤ 7302250) {S : SS} {t : Nat} (hq : 4 * t + 4 ≤ N) (hRel : Rel S (gm S 77)) (back : ∀ S' : SS, Rel S' (gm S' 77) → VS l room_1 RL cL_law 4 (XL N xs) cl sl 84 (shW shL S') 823 [some (.ref 84), some (.ref 0), some (.ref 77), some (.int (nI (4 * t)))] []) : VS l room_1 RL cL_law 4 (XL N xs) cl sl 84 (shW shL S) 777 [some (.ref 84), some (.ref 0), some (.ref 77), some (.int (nI (4 * t)))] [] := by
  obtain ⟨v, S2, M2, hC, hR, hRel2⟩ := st_save l hRel (xs (4 * t + 1))
  refine VS.aload_n dL_law_777 rfl ?_
  refine VS.aload_n dL_law_778 rfl ?_
  refine VS.iload_n dL_law_779 rfl ?_
  refine VS.iconst (1) dL_law_780 rfl ?_
  refine VS.iadd dL_law_781 ?_
  refine VS.val (y := nI (4 * t + 1)) (nI_add (4 * t) 1) ?_
  refine VS.scld (4 * t + 1) dL_law_782 (by omega) hN ?_
  refine VS.callR (fun i => i) shi_c hC dL_law_783 mi_X6_save im_X6_save sel_X6_save ml_L_112 (by decide) rfl rfl (RmOk.law (by decide) (by decide) hcl hsl) (Nat.le_of_ble_eq_true rfl) rfl ?_
  refine VS.stt (mg_c S2 S) ?_
  refine VS.aload_n dL_law_786 rfl ?_
  refine VS.aload_n dL_law_787 rfl ?_
  refine VS.iload_n dL_law_788 rfl ?_
  refine VS.iconst (1) dL_law_789 rfl ?_
  refine VS.iadd dL_law_790 ?_
  refine VS.val (y := nI (4 * t + 1)) (nI_add (4 * t) 1) ?_
  refine VS.scld (4 * t + 1) dL_law_791 (by omega) hN ?_
  refine VS.callR (fun i => 77 + i) shi_r ((law_ref S S2).symm ▸ hR) dL_law_792 mi_X7_save im_X7_save sel_X7_save ml_L_115 (by decide) rfl rfl (RmOk.law (by decide) (by decide) hcl hsl) (Nat.le_of_ble_eq_true rfl) rfl ?_
  refine VS.stt (mg_off 77 7 M2 (putG S 0 77 S2)) ?_
  refine VS.icmp_eq 823 dL_law_795 (by decide) (fun _ => ?_) (fun hh => absurd rfl hh)
  exact back (lawS S S2 M2) (law_rel hRel2)

set_option maxRecDepth 100000 in
set_option maxHeartbeats 2000000 in
theorem law_case_24 (l : Launch) {N : Nat} {xs : Nat → Int32} (hN : N ≤ 2048) {cl sl : Nat} (hcl : cl ≤ 600000) (hsl : sl ≤ 7302250) {S : SS} {t : Nat} (hq : 4 * t + 4 ≤ N) (hRel : Rel S (gm S 77)) (back : ∀ S' : SS, Rel S' (gm S' 77) → VS l room_1 RL cL_law 4 (XL N xs) cl sl 84 (shW shL S') 823 [some (.ref 84), some (.ref 0), some (.ref 77), some (.int (nI (4 * t)))] []) : VS l room_1 RL cL_law 4 (XL N xs) cl sl 84 (shW shL S) 800 [some (.ref 84), some (.ref 0), some (.ref 77), some (.int (nI (4 * t)))] [] := by
  obtain ⟨v, S2, M2, hC, hR, hRel2⟩ := st_restore l hRel (xs (4 * t + 1))
  refine VS.aload_n dL_law_800 rfl ?_
  refine VS.aload_n dL_law_801 rfl ?_
  refine VS.iload_n dL_law_802 rfl ?_
  refine VS.iconst (1) dL_law_803 rfl ?_
  refine VS.iadd dL_law_804 ?_
  refine VS.val (y := nI (4 * t + 1)) (nI_add (4 * t) 1) ?_
  refine VS.scld (4 * t + 1) dL_law_805 (by omega) hN ?_
  refine VS.callR (fun i => i) shi_c hC dL_law_806 mi_X6_restore im_X6_restore sel_X6_restore ml_L_116 (by decide) rfl rfl (RmOk.law (by decide) (by decide) hcl hsl) (Nat.le_of_ble_eq_true rfl) rfl ?_
  refine VS.stt (mg_c S2 S) ?_
  refine VS.aload_n dL_law_809 rfl ?_
  refine VS.aload_n dL_law_810 rfl ?_
  refine VS.iload_n dL_law_811 rfl ?_
  refine VS.iconst (1) dL_law_812 rfl ?_
  refine VS.iadd dL_law_813 ?_
  refine VS.val (y := nI (4 * t + 1)) (nI_add (4 * t) 1) ?_
  refine VS.scld (4 * t + 1) dL_law_814 (by omega) hN ?_
  refine VS.callR (fun i => 77 + i) shi_r ((law_ref S S2).symm ▸ hR) dL_law_815 mi_X7_restore im_X7_restore sel_X7_restore ml_L_119 (by decide) rfl rfl (RmOk.law (by decide) (by decide) hcl hsl) (Nat.le_of_ble_eq_true rfl) rfl ?_
  refine VS.stt (mg_off 77 7 M2 (putG S 0 77 S2)) ?_
  refine VS.icmp_eq 823 dL_law_818 (by decide) (fun _ => ?_) (fun hh => absurd rfl hh)
  exact back (lawS S S2 M2) (law_rel hRel2)
set_option maxRecDepth 100000 in
set_option maxHeartbeats 2000000 in
theorem law_loop (l : Launch) {N : Nat} {xs : Nat → Int32} (hN : N ≤ 2048) {cl sl : Nat} (hcl : cl ≤ 600000) (hsl : sl ≤ 7302250) : ∀ (m t : Nat) (S : SS), N ≤ 4 * (t + m) + 3 → 4 * t ≤ 2100 → Rel S (gm S 77) → VS l room_1 RL cL_law 4 (XL N xs) cl sl 84 (shW shL S) 18 [some (.ref 84), some (.ref 0), some (.ref 77), some (.int (nI (4 * t)))] [] := by
  intro m
  induction m with
  | zero =>
    intro t S hm ht hRel
    refine VS.iload_n dL_law_18 rfl ?_
    refine VS.aload_n dL_law_19 rfl ?_
    refine VS.sclen dL_law_20 ?_
    refine VS.iconst (4) dL_law_21 rfl ?_
    refine VS.isub dL_law_22 ?_
    refine VS.icmp_gt 829 dL_law_23 (by decide) (fun _ => ?_) (fun hh => absurd (quad_n hN hm ht) hh)
    refine VS.iconst (1) dL_law_829 rfl ?_
    exact VS.lwret hcl hsl dL_law_830
  | succ m ih =>
    intro t S hm ht hRel
    refine VS.iload_n dL_law_18 rfl ?_
    refine VS.aload_n dL_law_19 rfl ?_
    refine VS.sclen dL_law_20 ?_
    refine VS.iconst (4) dL_law_21 rfl ?_
    refine VS.isub dL_law_22 ?_
    refine VS.icmp_gt 829 dL_law_23 (by decide) (fun _ => ?_) (fun hh => ?_)
    · refine VS.iconst (1) dL_law_829 rfl ?_
      exact VS.lwret hcl hsl dL_law_830
    · have hq : 4 * t + 4 ≤ N := quad hN hh ht
      have back : ∀ S' : SS, Rel S' (gm S' 77) → VS l room_1 RL cL_law 4 (XL N xs) cl sl 84 (shW shL S') 823 [some (.ref 84), some (.ref 0), some (.ref 77), some (.int (nI (4 * t)))] [] := by
        intro S' h'
        refine VS.iinc (nI (4 * (t + 1))) dL_law_823 rfl (by decide) (nI_add (4 * t) 4) rfl ?_
        refine VS.goto 18 dL_law_826 (by decide) ?_
        exact ih (t + 1) S' (by omega) (by omega) h'
      refine VS.aload_n dL_law_26 rfl ?_
      refine VS.iload_n dL_law_27 rfl ?_
      refine VS.scld (4 * t) dL_law_28 (by omega) hN ?_
      refine VS.bipush (31) dL_law_29 rfl ?_
      refine VS.iand dL_law_31 ?_
      generalize hw : xs (4 * t) &&& 31 = w
      rcases sw_0_24 w with rfl | rfl | rfl | rfl | rfl | rfl | rfl | rfl | rfl | rfl | rfl | rfl | rfl | rfl | rfl | rfl | rfl | rfl | rfl | rfl | rfl | rfl | rfl | rfl | rfl | ho
      · refine VS.tableIn 148 dL_law_32 (by decide) (by decide) rfl (by decide) ?_
        exact law_case_0 l hN hcl hsl hq hRel back
      · refine VS.tableIn 181 dL_law_32 (by decide) (by decide) rfl (by decide) ?_
        exact law_case_1 l hN hcl hsl hq hRel back
      · refine VS.tableIn 214 dL_law_32 (by decide) (by decide) rfl (by decide) ?_
        exact law_case_2 l hN hcl hsl hq hRel back
      · refine VS.tableIn 237 dL_law_32 (by decide) (by decide) rfl (by decide) ?_
        exact law_case_3 l hN hcl hsl hq hRel back
      · refine VS.tableIn 250 dL_law_32 (by decide) (by decide) rfl (by decide) ?_
        exact law_case_4 l hN hcl hsl hq hRel back
      · refine VS.tableIn 293 dL_law_32 (by decide) (by decide) rfl (by decide) ?_
        exact law_case_5 l hN hcl hsl hq hRel back
      · refine VS.tableIn 336 dL_law_32 (by decide) (by decide) rfl (by decide) ?_
        exact law_case_6 l hN hcl hsl hq hRel back
      · refine VS.tableIn 359 dL_law_32 (by decide) (by decide) rfl (by decide) ?_
        exact law_case_7 l hN hcl hsl hq hRel back
      · refine VS.tableIn 372 dL_law_32 (by decide) (by decide) rfl (by decide) ?_
        exact law_case_8 l hN hcl hsl hq hRel back
      · refine VS.tableIn 415 dL_law_32 (by decide) (by decide) rfl (by decide) ?_
        exact law_case_9 l hN hcl hsl hq hRel back
      · refine VS.tableIn 458 dL_law_32 (by decide) (by decide) rfl (by decide) ?_
        exact law_case_10 l hN hcl hsl hq hRel back
      · refine VS.tableIn 491 dL_law_32 (by decide) (by decide) rfl (by decide) ?_
        exact law_case_11 l hN hcl hsl hq hRel back
      · refine VS.tableIn 524 dL_law_32 (by decide) (by decide) rfl (by decide) ?_
        exact law_case_12 l hN hcl hsl hq hRel back
      · refine VS.tableIn 547 dL_law_32 (by decide) (by decide) rfl (by decide) ?_
        exact law_case_13 l hN hcl hsl hq hRel back
      · refine VS.tableIn 570 dL_law_32 (by decide) (by decide) rfl (by decide) ?_
        exact law_case_14 l hN hcl hsl hq hRel back
      · refine VS.tableIn 583 dL_law_32 (by decide) (by decide) rfl (by decide) ?_
        exact law_case_15 l hN hcl hsl hq hRel back
      · refine VS.tableIn 616 dL_law_32 (by decide) (by decide) rfl (by decide) ?_
        exact law_case_16 l hN hcl hsl hq hRel back
      · refine VS.tableIn 639 dL_law_32 (by decide) (by decide) rfl (by decide) ?_
        exact law_case_17 l hN hcl hsl hq hRel back
      · refine VS.tableIn 672 dL_law_32 (by decide) (by decide) rfl (by decide) ?_
        exact law_case_18 l hN hcl hsl hq hRel back
      · refine VS.tableIn 725 dL_law_32 (by decide) (by decide) rfl (by decide) ?_
        exact law_case_19 l hN hcl hsl hq hRel back
      · refine VS.tableIn 738 dL_law_32 (by decide) (by decide) rfl (by decide) ?_
        exact law_case_20 l hN hcl hsl hq hRel back
      · refine VS.tableIn 751 dL_law_32 (by decide) (by decide) rfl (by decide) ?_
        exact law_case_21 l hN hcl hsl hq hRel back
      · refine VS.tableIn 764 dL_law_32 (by decide) (by decide) rfl (by decide) ?_
        exact law_case_22 l hN hcl hsl hq hRel back
      · refine VS.tableIn 777 dL_law_32 (by decide) (by decide) rfl (by decide) ?_
        exact law_case_23 l hN hcl hsl hq hRel back
      · refine VS.tableIn 800 dL_law_32 (by decide) (by decide) rfl (by decide) ?_
        exact law_case_24 l hN hcl hsl hq hRel back
      · refine VS.tableOut 823 dL_law_32 ho (by decide) ?_
        exact back S hRel
