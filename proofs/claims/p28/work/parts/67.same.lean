/-! two objects: the law's o and q -/
def sh2 (k : Nat) : Shp := if k < 77 then shK k else shR (fun i => 77 + i) (shK (k - 77))
theorem shR_id (h : Shp) : shR (fun i => i) h = h := by
  rcases h with ⟨ci, fl⟩ | z | ⟨N, f⟩
  · show (Sum.inl (ci, fl.map (Option.map fun i => i)) : Shp) = _
    congr 2
    exact (List.map_congr_left fun o _ => by cases o <;> rfl).trans (List.map_id fl)
  · rfl
  · show (Sum.inr (Sum.inr (N, fun i => (f i).map fun i => i)) : Shp) = _
    congr 3
    funext i
    cases f i <;> rfl
theorem shi_o : ShI (fun i => i) 77 shK 154 sh2 := ⟨fun i hi => Nat.lt_of_lt_of_le hi (by decide), fun i j _ _ h => h, fun i hi => by rw [shR_id]; exact if_pos hi⟩
theorem shi_q : ShI (fun i => 77 + i) 77 shK 154 sh2 := ⟨fun i hi => by show 77 + i < 154; omega, fun i j _ _ h => by have : 77 + i = 77 + j := h; omega, fun i hi => by
  show sh2 (77 + i) = _
  unfold sh2; rw [if_neg (by omega), show 77 + i - 77 = i by omega]⟩
theorem mg_o2 (S2 S : SS) : mg (fun i => i) 77 S2 S = putG S 0 77 S2 := by
  funext k
  unfold putG
  by_cases h : k < 77
  · rw [if_pos (by omega)]
    exact mg_in (ρ := fun i => i) (S2 := S2) (S := S) (fun i j _ _ z => z) h
  · rw [if_neg (by omega)]
    exact mg_out fun i hi z => h (by have : i = k := z; omega)
theorem mg_oi (S : SS) : mg (fun i => i) 77 S S = S := by
  rw [mg_o2]
  funext k
  unfold putG
  by_cases h : 0 ≤ k ∧ k < 0 + 77
  · rw [if_pos h]; rfl
  · rw [if_neg h]
theorem mg_qi (S : SS) : mg (fun i => 77 + i) 77 (gm S 77) S = S := (mg_off 77 77 _ _).trans putG_id
theorem nge14 {i : Nat} (h : i < 14) : ¬ (14 : Int32) ≤ nI i := nI_ge (b := 14) h (by decide)
set_option maxRecDepth 100000 in
set_option maxHeartbeats 1500000 in
theorem sm_counts (l : Launch) {S M : SS} (ho : RelK S M) (hq : RelK (gm S 77) M) (hI : InvM M) (kk : VS l (rmD 6) RL cL_same 5 (XF (some .boolean) 154 (some (.int 1)) (shW sh2 S)) 0 0 154 (shW sh2 S) 45 [some (.ref 0), some (.ref 77), some (.int 1), some (.int (nI 14)), none] []) : VS l (rmD 6) RL cL_same 5 (XF (some .boolean) 154 (some (.int 1)) (shW sh2 S)) 0 0 154 (shW sh2 S) 4 [some (.ref 0), some (.ref 77), some (.int 1), some (.int (nI 0)), none] [] := by
  refine VS.forS (i0 := 0) 14 (fun _ => S) (fun k => [some (.ref 0), some (.ref 77), some (.int 1), some (.int (nI k)), none]) (by decide) ?_ (fun k hk ih => ?_)
  · refine VS.iload_n dL_same_4 rfl ?_
    refine VS.bipush (14) dL_same_5 rfl ?_
    refine VS.icmp_ge 45 dL_same_7 (by decide) (fun _ => ?_) (fun hh => absurd (by decide) hh)
    exact kk
  · refine VS.iload_n dL_same_4 rfl ?_
    refine VS.bipush (14) dL_same_5 rfl ?_
    refine VS.icmp_ge 45 dL_same_7 (by decide) (fun hh => absurd hh (nge14 hk)) (fun _ => ?_)
    refine VS.iload_n dL_same_10 rfl ?_
    refine VS.if_eq 45 dL_same_11 (by decide) (fun hh => absurd hh (by decide)) (fun _ => ?_)
    refine VS.joinB 33 [] (fun k33 => ?_) ?_
    · by_cases h12 : nI k = 12
      · refine VS.iload_n dL_same_14 rfl ?_
        refine VS.bipush (12) dL_same_15 rfl ?_
        refine VS.icmp_eq 33 dL_same_17 (by decide) (fun _ => ?_) (fun hh => absurd (h12) hh)
        exact k33
      · refine VS.iload_n dL_same_14 rfl ?_
        refine VS.bipush (12) dL_same_15 rfl ?_
        refine VS.icmp_eq 33 dL_same_17 (by decide) (fun hh => absurd hh (h12)) (fun _ => ?_)
        refine VS.aload_n dL_same_20 rfl ?_
        refine VS.iload_n dL_same_21 rfl ?_
        refine VS.callR (fun i => i) (shi_o) (ak_count l (c := nI k) h12 S ho) dL_same_22 mi_X6_count im_X6_count sel_X6_count ml_L_23 (by decide) rfl rfl (rmOk_D (by decide) (by decide)) (Nat.le_of_ble_eq_true rfl) rfl ?_
        refine VS.stt (mg_oi S) ?_
        refine VS.aload_n dL_same_25 rfl ?_
        refine VS.iload_n dL_same_26 rfl ?_
        refine VS.callR (fun i => 77 + i) (shi_q) (ak_count l (c := nI k) h12 (gm S 77) hq) dL_same_27 mi_X6_count im_X6_count sel_X6_count ml_L_23 (by decide) rfl rfl (rmOk_D (by decide) (by decide)) (Nat.le_of_ble_eq_true rfl) rfl ?_
        refine VS.stt (mg_qi S) ?_
        refine VS.icmp_ne 37 dL_same_30 (by decide) (fun hh => absurd (rfl) hh) (fun _ => ?_)
        exact k33
    refine VS.iconst (1) dL_same_33 rfl ?_
    refine VS.goto 38 dL_same_34 (by decide) ?_
    refine VS.istore_n dL_same_38 (by decide) rfl ?_
    refine VS.iinc (nI (k + 1)) dL_same_39 rfl (by decide) (nI_1 k) rfl ?_
    refine VS.goto 4 dL_same_42 (by decide) ?_
    exact ih
set_option maxRecDepth 100000 in
set_option maxHeartbeats 1500000 in
theorem sm_players (l : Launch) {S M : SS} (ho : RelK S M) (hq : RelK (gm S 77) M) (hI : InvM M) (kk : VS l (rmD 6) RL cL_same 5 (XF (some .boolean) 154 (some (.int 1)) (shW sh2 S)) 0 0 154 (shW sh2 S) 105 [some (.ref 0), some (.ref 77), some (.int 1), some (.int (nI 3)), none] []) : VS l (rmD 6) RL cL_same 5 (XF (some .boolean) 154 (some (.int 1)) (shW sh2 S)) 0 0 154 (shW sh2 S) 47 [some (.ref 0), some (.ref 77), some (.int 1), some (.int (nI 0)), none] [] := by
  refine VS.forS (i0 := 0) 3 (fun _ => S) (fun p => [some (.ref 0), some (.ref 77), some (.int 1), some (.int (nI p)), none]) (by decide) ?_ (fun p hp ih => ?_)
  · refine VS.iload_n dL_same_47 rfl ?_
    refine VS.iconst (3) dL_same_48 rfl ?_
    refine VS.icmp_ge 105 dL_same_49 (by decide) (fun _ => ?_) (fun hh => absurd (by decide) hh)
    exact kk
  · refine VS.iload_n dL_same_47 rfl ?_
    refine VS.iconst (3) dL_same_48 rfl ?_
    refine VS.icmp_ge 105 dL_same_49 (by decide) (fun hh => absurd hh (nge3 hp)) (fun _ => ?_)
    refine VS.iload_n dL_same_52 rfl ?_
    refine VS.if_eq 105 dL_same_53 (by decide) (fun hh => absurd hh (by decide)) (fun _ => ?_)
    refine VS.iconst (0) dL_same_56 rfl ?_
    refine VS.istore dL_same_57 (by decide) rfl ?_
    refine VS.forS (i0 := 0) 8 (fun _ => S) (fun k => [some (.ref 0), some (.ref 77), some (.int 1), some (.int (nI p)), some (.int (nI k))]) (by decide) ?_ (fun k hk ihk => ?_)
    · refine VS.iload dL_same_59 rfl ?_
      refine VS.bipush (8) dL_same_61 rfl ?_
      refine VS.icmp_ge 99 dL_same_63 (by decide) (fun _ => ?_) (fun hh => absurd (by decide) hh)
      refine VS.iinc (nI (p + 1)) dL_same_99 rfl (by decide) (nI_1 p) rfl ?_
      refine VS.goto 47 dL_same_102 (by decide) ?_
      exact VS.forget 4 ih
    · refine VS.iload dL_same_59 rfl ?_
      refine VS.bipush (8) dL_same_61 rfl ?_
      refine VS.icmp_ge 99 dL_same_63 (by decide) (fun hh => absurd hh (nge8 hk)) (fun _ => ?_)
      refine VS.iload_n dL_same_66 rfl ?_
      refine VS.if_eq 99 dL_same_67 (by decide) (fun hh => absurd hh (by decide)) (fun _ => ?_)
      refine VS.aload_n dL_same_70 rfl ?_
      refine VS.iload_n dL_same_71 rfl ?_
      refine VS.iload dL_same_72 rfl ?_
      refine VS.callR (fun i => i) (shi_o) (ak_player l (nI k) hp S ho) dL_same_74 mi_X6_player im_X6_player sel_X6_player ml_L_95 (by decide) rfl rfl (rmOk_D (by decide) (by decide)) (Nat.le_of_ble_eq_true rfl) rfl ?_
      refine VS.stt (mg_oi S) ?_
      refine VS.aload_n dL_same_77 rfl ?_
      refine VS.iload_n dL_same_78 rfl ?_
      refine VS.iload dL_same_79 rfl ?_
      refine VS.callR (fun i => 77 + i) (shi_q) (ak_player l (nI k) hp (gm S 77) hq) dL_same_81 mi_X6_player im_X6_player sel_X6_player ml_L_95 (by decide) rfl rfl (rmOk_D (by decide) (by decide)) (Nat.le_of_ble_eq_true rfl) rfl ?_
      refine VS.stt (mg_qi S) ?_
      refine VS.icmp_ne 91 dL_same_84 (by decide) (fun hh => absurd (rfl) hh) (fun _ => ?_)
      refine VS.iconst (1) dL_same_87 rfl ?_
      refine VS.goto 92 dL_same_88 (by decide) ?_
      refine VS.istore_n dL_same_92 (by decide) rfl ?_
      refine VS.iinc (nI (k + 1)) dL_same_93 rfl (by decide) (nI_1 k) rfl ?_
      refine VS.goto 59 dL_same_96 (by decide) ?_
      exact ihk
set_option maxRecDepth 100000 in
set_option maxHeartbeats 1500000 in
theorem sm_places (l : Launch) {S M : SS} (ho : RelK S M) (hq : RelK (gm S 77) M) (hI : InvM M) (kk : VS l (rmD 6) RL cL_same 5 (XF (some .boolean) 154 (some (.int 1)) (shW sh2 S)) 0 0 154 (shW sh2 S) 274 [some (.ref 0), some (.ref 77), some (.int 1), some (.int (nI 8)), none] []) : VS l (rmD 6) RL cL_same 5 (XF (some .boolean) 154 (some (.int 1)) (shW sh2 S)) 0 0 154 (shW sh2 S) 107 [some (.ref 0), some (.ref 77), some (.int 1), some (.int (nI 0)), none] [] := by
  refine VS.forS (i0 := 0) 8 (fun _ => S) (fun a => [some (.ref 0), some (.ref 77), some (.int 1), some (.int (nI a)), none]) (by decide) ?_ (fun a ha ih => ?_)
  · refine VS.iload_n dL_same_107 rfl ?_
    refine VS.bipush (8) dL_same_108 rfl ?_
    refine VS.icmp_ge 274 dL_same_110 (by decide) (fun _ => ?_) (fun hh => absurd (by decide) hh)
    exact kk
  · refine VS.iload_n dL_same_107 rfl ?_
    refine VS.bipush (8) dL_same_108 rfl ?_
    refine VS.icmp_ge 274 dL_same_110 (by decide) (fun hh => absurd hh (nge8 ha)) (fun _ => ?_)
    refine VS.iload_n dL_same_113 rfl ?_
    refine VS.if_eq 274 dL_same_114 (by decide) (fun hh => absurd hh (by decide)) (fun _ => ?_)
    refine VS.aload_n dL_same_117 rfl ?_
    refine VS.iload_n dL_same_118 rfl ?_
    refine VS.iconst (0) dL_same_119 rfl ?_
    refine VS.callR (fun i => i) (shi_o) (ak_place l 0 ha S ho) dL_same_120 mi_X6_place im_X6_place sel_X6_place ml_L_92 (by decide) rfl rfl (rmOk_D (by decide) (by decide)) (Nat.le_of_ble_eq_true rfl) rfl ?_
    refine VS.stt (mg_oi S) ?_
    refine VS.aload_n dL_same_123 rfl ?_
    refine VS.iload_n dL_same_124 rfl ?_
    refine VS.iconst (0) dL_same_125 rfl ?_
    refine VS.callR (fun i => 77 + i) (shi_q) (ak_place l 0 ha (gm S 77) hq) dL_same_126 mi_X6_place im_X6_place sel_X6_place ml_L_92 (by decide) rfl rfl (rmOk_D (by decide) (by decide)) (Nat.le_of_ble_eq_true rfl) rfl ?_
    refine VS.stt (mg_qi S) ?_
    refine VS.icmp_ne 151 dL_same_129 (by decide) (fun hh => absurd (rfl) hh) (fun _ => ?_)
    refine VS.aload_n dL_same_132 rfl ?_
    refine VS.iload_n dL_same_133 rfl ?_
    refine VS.iconst (3) dL_same_134 rfl ?_
    refine VS.callR (fun i => i) (shi_o) (ak_place l 3 ha S ho) dL_same_135 mi_X6_place im_X6_place sel_X6_place ml_L_92 (by decide) rfl rfl (rmOk_D (by decide) (by decide)) (Nat.le_of_ble_eq_true rfl) rfl ?_
    refine VS.stt (mg_oi S) ?_
    refine VS.aload_n dL_same_138 rfl ?_
    refine VS.iload_n dL_same_139 rfl ?_
    refine VS.iconst (3) dL_same_140 rfl ?_
    refine VS.callR (fun i => 77 + i) (shi_q) (ak_place l 3 ha (gm S 77) hq) dL_same_141 mi_X6_place im_X6_place sel_X6_place ml_L_92 (by decide) rfl rfl (rmOk_D (by decide) (by decide)) (Nat.le_of_ble_eq_true rfl) rfl ?_
    refine VS.stt (mg_qi S) ?_
    refine VS.icmp_ne 151 dL_same_144 (by decide) (fun hh => absurd (rfl) hh) (fun _ => ?_)
    refine VS.iconst (1) dL_same_147 rfl ?_
    refine VS.goto 152 dL_same_148 (by decide) ?_
    refine VS.istore_n dL_same_152 (by decide) rfl ?_
    refine VS.iconst (0) dL_same_153 rfl ?_
    refine VS.istore dL_same_154 (by decide) rfl ?_
    refine VS.forS (i0 := 0) a (fun _ => S) (fun b => [some (.ref 0), some (.ref 77), some (.int 1), some (.int (nI a)), some (.int (nI b))]) (Nat.zero_le _) ?_ (fun b hb ihb => ?_)
    · refine VS.iload dL_same_156 rfl ?_
      refine VS.iload_n dL_same_158 rfl ?_
      refine VS.icmp_ge 268 dL_same_159 (by decide) (fun _ => ?_) (fun hh => absurd (nI_le (Nat.le_refl _) (by omega)) hh)
      refine VS.iinc (nI (a + 1)) dL_same_268 rfl (by decide) (nI_1 a) rfl ?_
      refine VS.goto 107 dL_same_271 (by decide) ?_
      exact VS.forget 4 ih
    · obtain ⟨he, hk, hsy, hw⟩ := ek_ok a ha b (by omega) (by omega)
      refine VS.iload dL_same_156 rfl ?_
      refine VS.iload_n dL_same_158 rfl ?_
      refine VS.icmp_ge 268 dL_same_159 (by decide) (fun hh => absurd hh (nI_ge hb (by omega))) (fun _ => ?_)
      refine VS.iload_n dL_same_162 rfl ?_
      refine VS.if_eq 268 dL_same_163 (by decide) (fun hh => absurd hh (by decide)) (fun _ => ?_)
      refine VS.aload_n dL_same_166 rfl ?_
      refine VS.iload_n dL_same_167 rfl ?_
      refine VS.iload dL_same_168 rfl ?_
      refine VS.iconst (2) dL_same_170 rfl ?_
      refine VS.callR (fun i => i) (shi_o) (ak_ofRoad l 2 hw S ho) dL_same_171 mi_X6_ofRoad im_X6_ofRoad sel_X6_ofRoad ml_L_80 (by decide) rfl rfl (rmOk_D (by decide) (by decide)) (Nat.le_of_ble_eq_true rfl) rfl ?_
      refine VS.stt (mg_oi S) ?_
      refine VS.aload_n dL_same_174 rfl ?_
      refine VS.iload_n dL_same_175 rfl ?_
      refine VS.iload dL_same_176 rfl ?_
      refine VS.iconst (2) dL_same_178 rfl ?_
      refine VS.callR (fun i => 77 + i) (shi_q) (ak_ofRoad l 2 hw (gm S 77) hq) dL_same_179 mi_X6_ofRoad im_X6_ofRoad sel_X6_ofRoad ml_L_80 (by decide) rfl rfl (rmOk_D (by decide) (by decide)) (Nat.le_of_ble_eq_true rfl) rfl ?_
      refine VS.stt (mg_qi S) ?_
      refine VS.icmp_ne 260 dL_same_182 (by decide) (fun hh => absurd (rfl) hh) (fun _ => ?_)
      refine VS.aload_n dL_same_185 rfl ?_
      refine VS.iload_n dL_same_186 rfl ?_
      refine VS.iload dL_same_187 rfl ?_
      refine VS.iconst (4) dL_same_189 rfl ?_
      refine VS.callR (fun i => i) (shi_o) (ak_ofRoad l 4 hw S ho) dL_same_190 mi_X6_ofRoad im_X6_ofRoad sel_X6_ofRoad ml_L_80 (by decide) rfl rfl (rmOk_D (by decide) (by decide)) (Nat.le_of_ble_eq_true rfl) rfl ?_
      refine VS.stt (mg_oi S) ?_
      refine VS.aload_n dL_same_193 rfl ?_
      refine VS.iload_n dL_same_194 rfl ?_
      refine VS.iload dL_same_195 rfl ?_
      refine VS.iconst (4) dL_same_197 rfl ?_
      refine VS.callR (fun i => 77 + i) (shi_q) (ak_ofRoad l 4 hw (gm S 77) hq) dL_same_198 mi_X6_ofRoad im_X6_ofRoad sel_X6_ofRoad ml_L_80 (by decide) rfl rfl (rmOk_D (by decide) (by decide)) (Nat.le_of_ble_eq_true rfl) rfl ?_
      refine VS.stt (mg_qi S) ?_
      refine VS.icmp_ne 260 dL_same_201 (by decide) (fun hh => absurd (rfl) hh) (fun _ => ?_)
      refine VS.aload_n dL_same_204 rfl ?_
      refine VS.iload_n dL_same_205 rfl ?_
      refine VS.iload dL_same_206 rfl ?_
      refine VS.iconst (5) dL_same_208 rfl ?_
      refine VS.callR (fun i => i) (shi_o) (ak_ofRoad l 5 hw S ho) dL_same_209 mi_X6_ofRoad im_X6_ofRoad sel_X6_ofRoad ml_L_80 (by decide) rfl rfl (rmOk_D (by decide) (by decide)) (Nat.le_of_ble_eq_true rfl) rfl ?_
      refine VS.stt (mg_oi S) ?_
      refine VS.aload_n dL_same_212 rfl ?_
      refine VS.iload_n dL_same_213 rfl ?_
      refine VS.iload dL_same_214 rfl ?_
      refine VS.iconst (5) dL_same_216 rfl ?_
      refine VS.callR (fun i => 77 + i) (shi_q) (ak_ofRoad l 5 hw (gm S 77) hq) dL_same_217 mi_X6_ofRoad im_X6_ofRoad sel_X6_ofRoad ml_L_80 (by decide) rfl rfl (rmOk_D (by decide) (by decide)) (Nat.le_of_ble_eq_true rfl) rfl ?_
      refine VS.stt (mg_qi S) ?_
      refine VS.icmp_ne 260 dL_same_220 (by decide) (fun hh => absurd (rfl) hh) (fun _ => ?_)
      refine VS.aload_n dL_same_223 rfl ?_
      refine VS.aload_n dL_same_224 rfl ?_
      refine VS.iload_n dL_same_225 rfl ?_
      refine VS.iload dL_same_226 rfl ?_
      refine VS.iconst (1) dL_same_228 rfl ?_
      refine VS.callR (fun i => i) (shi_o) (ak_ofRoad l 1 hw S ho) dL_same_229 mi_X6_ofRoad im_X6_ofRoad sel_X6_ofRoad ml_L_80 (by decide) rfl rfl (rmOk_D (by decide) (by decide)) (Nat.le_of_ble_eq_true rfl) rfl ?_
      refine VS.stt (mg_oi S) ?_
      refine VS.val (y := nI (ek a b % 3)) ((congrArg rem3 he).trans (rem3_k hk)) ?_
      refine VS.iload_n dL_same_232 rfl ?_
      refine VS.iload dL_same_233 rfl ?_
      refine VS.callR (fun i => i) (shi_o) (ak_knows l (Nat.mod_lt _ (by decide)) hw S ho) dL_same_235 mi_X6_knows im_X6_knows sel_X6_knows ml_L_83 (by decide) rfl rfl (rmOk_D (by decide) (by decide)) (Nat.le_of_ble_eq_true rfl) rfl ?_
      refine VS.stt (mg_oi S) ?_
      refine VS.aload_n dL_same_238 rfl ?_
      refine VS.aload_n dL_same_239 rfl ?_
      refine VS.iload_n dL_same_240 rfl ?_
      refine VS.iload dL_same_241 rfl ?_
      refine VS.iconst (1) dL_same_243 rfl ?_
      refine VS.callR (fun i => i) (shi_o) (ak_ofRoad l 1 hw S ho) dL_same_244 mi_X6_ofRoad im_X6_ofRoad sel_X6_ofRoad ml_L_80 (by decide) rfl rfl (rmOk_D (by decide) (by decide)) (Nat.le_of_ble_eq_true rfl) rfl ?_
      refine VS.stt (mg_oi S) ?_
      refine VS.val (y := nI (ek a b % 3)) ((congrArg rem3 he).trans (rem3_k hk)) ?_
      refine VS.iload_n dL_same_247 rfl ?_
      refine VS.iload dL_same_248 rfl ?_
      refine VS.callR (fun i => 77 + i) (shi_q) (ak_knows l (Nat.mod_lt _ (by decide)) hw (gm S 77) hq) dL_same_250 mi_X6_knows im_X6_knows sel_X6_knows ml_L_83 (by decide) rfl rfl (rmOk_D (by decide) (by decide)) (Nat.le_of_ble_eq_true rfl) rfl ?_
      refine VS.stt (mg_qi S) ?_
      refine VS.icmp_ne 260 dL_same_253 (by decide) (fun hh => absurd (rfl) hh) (fun _ => ?_)
      refine VS.iconst (1) dL_same_256 rfl ?_
      refine VS.goto 261 dL_same_257 (by decide) ?_
      refine VS.istore_n dL_same_261 (by decide) rfl ?_
      refine VS.iinc (nI (b + 1)) dL_same_262 rfl (by decide) (nI_1 b) rfl ?_
      refine VS.goto 156 dL_same_265 (by decide) ?_
      exact ihb
set_option maxRecDepth 100000 in
set_option maxHeartbeats 1500000 in
theorem ct_L_same (l : Launch) {S M : SS} (ho : RelK S M) (hq : RelK (gm S 77) M) (hI : InvM M) : CtS l yL_same cL_same 5 (some .boolean) (rmD 6) [.ref 0, .ref 77] 154 sh2 S (some (.int 1)) S := by
  refine CtF.of (own := RL) [some (.ref 0), some (.ref 77), none, none, none] (by decide +kernel) rfl (fun _ => Nat.le_of_ble_eq_true rfl) (fun _ => rfl) ?_
  obtain ⟨cb, -, -, hcb⟩ := ak_canBe l hI.1.1
  refine VS.iconst (1) dL_same_0 rfl ?_
  refine VS.istore_n dL_same_1 (by decide) rfl ?_
  refine VS.iconst (0) dL_same_2 rfl ?_
  refine VS.istore_n dL_same_3 (by decide) rfl ?_
  refine sm_counts l ho hq hI ?_
  refine VS.iconst (0) dL_same_45 rfl ?_
  refine VS.istore_n dL_same_46 (by decide) rfl ?_
  refine sm_players l ho hq hI ?_
  refine VS.iconst (0) dL_same_105 rfl ?_
  refine VS.istore_n dL_same_106 (by decide) rfl ?_
  refine sm_places l ho hq hI ?_
  refine VS.iload_n dL_same_274 rfl ?_
  refine VS.if_eq 293 dL_same_275 (by decide) (fun hh => absurd hh (by decide)) (fun _ => ?_)
  refine VS.aload_n dL_same_278 rfl ?_
  refine VS.callR (fun i => i) (shi_o) (hcb S ho) dL_same_279 mi_X6_canBe im_X6_canBe sel_X6_canBe ml_L_98 (by decide) rfl rfl (rmOk_D (by decide) (by decide)) (Nat.le_of_ble_eq_true rfl) rfl ?_
  refine VS.stt (mg_oi S) ?_
  refine VS.aload_n dL_same_282 rfl ?_
  refine VS.callR (fun i => 77 + i) (shi_q) (hcb (gm S 77) hq) dL_same_283 mi_X6_canBe im_X6_canBe sel_X6_canBe ml_L_98 (by decide) rfl rfl (rmOk_D (by decide) (by decide)) (Nat.le_of_ble_eq_true rfl) rfl ?_
  refine VS.stt (mg_qi S) ?_
  refine VS.icmp_ne 293 dL_same_286 (by decide) (fun hh => absurd (rfl) hh) (fun _ => ?_)
  refine VS.iconst (1) dL_same_289 rfl ?_
  refine VS.goto 294 dL_same_290 (by decide) ?_
  exact VS.zret dL_same_294 (by first | rfl | exact nb_ite) (rfl) (fun _ _ => rfl)
