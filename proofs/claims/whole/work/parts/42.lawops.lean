def rg_L_law_132_S1 (S : z_S) (k : Nat) (xs : Nat → Int32) : z_S := (g_M_deposit (g_X_deposit S (xs (k + 1)) (xs (k + 2)) (xs (k + 3))) (xs (k + 1)) (xs (k + 2)) (xs (k + 3)))
set_option maxHeartbeats 4000000 in
set_option maxRecDepth 100000 in
theorem rg_L_law_132 {D : va_G} {C : Nat → ClassId} {ad : Nat → Nat → Nat} {S : z_S} {p : Program} {l : Launch} {e : Env} {s : State} {m : MethodId} {args : Array Value} {below : List Frame} {meth : Method} {c : Code} {H H0 : Heap} {locs : List Loc} {Q : State → Prop} {ls : Array Slot} {k : Nat} {b L : Nat} {xs : Nat → Int32} (hF : z_F D C ad p m c b_L_law 4 s args R_L)  (hX : va_X b L xs s H0) (hbl : b < H0.size) (hbA : ¬ z_A ad b) (hk : k + 6 ≤ L) (hL : L ≤ 3072) (hq : (f_X_deposit S (xs (k + 1)) (xs (k + 2))) = (f_M_deposit (g_X_deposit S (xs (k + 1)) (xs (k + 2)) (xs (k + 3))) (xs (k + 1)) (xs (k + 2)))) (hG : z_G D C ad H0 S H locs) (hl : lv_has ls 4 [(0, .ref b), (1, .ref (ad 0 0)), (2, .ref (ad 21 0)), (3, .int (nI k))]) (kk : ∀ (H : Heap) (locs : List Loc) (ls : Array Slot) (S1 : z_S), z_G D C ad H0 S1 H locs → lv_has ls 4 [(0, .ref b), (1, .ref (ad 0 0)), (2, .ref (ad 21 0)), (3, .int (nI k))] → rg_L_law_132_S1 S k xs = S1 → W p l e rm_L_law s m args below meth c H locs 81 3500 Q (F0 m 746 ls [])) : W p l e rm_L_law s m args below meth c H locs 81 3500 Q (F0 m 132 ls []) := by
  obtain ⟨hx, hb, hml, hown, hts⟩ := hF.1
  refine lv_aload_n hx hb d_L_law_132 rfl (lv_at hl 1 rfl) ?_
  refine lv_aload_n hx hb d_L_law_133 rfl (lv_at hl 0 rfl) ?_
  refine lv_iload_n hx hb d_L_law_134 rfl (lv_at hl 3 rfl) ?_
  refine lv_iconst (v := 1) hx hb d_L_law_135 z_k1 ?_
  refine lv_iadd hx hb d_L_law_136 ?_
  refine z_topi (y := (nI (k + 1))) (nI_add k 1) ?_
  refine z_sld (j := (k + 1)) hx hb hX hbl hbA hG (nI_clamp (by omega)) (vp_in_nI (by omega) (by omega)) d_L_law_137 ?_
  refine lv_aload_n hx hb d_L_law_138 rfl (lv_at hl 0 rfl) ?_
  refine lv_iload_n hx hb d_L_law_139 rfl (lv_at hl 3 rfl) ?_
  refine lv_iconst (v := 2) hx hb d_L_law_140 z_k2 ?_
  refine lv_iadd hx hb d_L_law_141 ?_
  refine z_topi (y := (nI (k + 2))) (nI_add k 2) ?_
  refine z_sld (j := (k + 2)) hx hb hX hbl hbA hG (nI_clamp (by omega)) (vp_in_nI (by omega) (by omega)) d_L_law_142 ?_
  refine lv_aload_n hx hb d_L_law_143 rfl (lv_at hl 0 rfl) ?_
  refine lv_iload_n hx hb d_L_law_144 rfl (lv_at hl 3 rfl) ?_
  refine lv_iconst (v := 3) hx hb d_L_law_145 z_k3 ?_
  refine lv_iadd hx hb d_L_law_146 ?_
  refine z_topi (y := (nI (k + 3))) (nI_add k 3) ?_
  refine z_sld (j := (k + 3)) hx hb hX hbl hbA hG (nI_clamp (by omega)) (vp_in_nI (by omega) (by omega)) d_L_law_147 ?_
  refine kc_L_13 hF (c_X_deposit l D C ad hF.2.2 _ _ _ _ ) hG ⟨Nat.le_of_ble_eq_true rfl, Nat.le_of_ble_eq_true rfl⟩ ⟨Nat.le_of_ble_eq_true rfl, Nat.le_of_ble_eq_true rfl⟩ hl.1 (Nat.le_of_ble_eq_true rfl) d_L_law_148 (fun H locs hG => ?_)
  refine lv_aload_n hx hb d_L_law_151 rfl (lv_at hl 2 rfl) ?_
  refine lv_aload_n hx hb d_L_law_152 rfl (lv_at hl 0 rfl) ?_
  refine lv_iload_n hx hb d_L_law_153 rfl (lv_at hl 3 rfl) ?_
  refine lv_iconst (v := 1) hx hb d_L_law_154 z_k1 ?_
  refine lv_iadd hx hb d_L_law_155 ?_
  refine z_topi (y := (nI (k + 1))) (nI_add k 1) ?_
  refine z_sld (j := (k + 1)) hx hb hX hbl hbA hG (nI_clamp (by omega)) (vp_in_nI (by omega) (by omega)) d_L_law_156 ?_
  refine lv_aload_n hx hb d_L_law_157 rfl (lv_at hl 0 rfl) ?_
  refine lv_iload_n hx hb d_L_law_158 rfl (lv_at hl 3 rfl) ?_
  refine lv_iconst (v := 2) hx hb d_L_law_159 z_k2 ?_
  refine lv_iadd hx hb d_L_law_160 ?_
  refine z_topi (y := (nI (k + 2))) (nI_add k 2) ?_
  refine z_sld (j := (k + 2)) hx hb hX hbl hbA hG (nI_clamp (by omega)) (vp_in_nI (by omega) (by omega)) d_L_law_161 ?_
  refine lv_aload_n hx hb d_L_law_162 rfl (lv_at hl 0 rfl) ?_
  refine lv_iload_n hx hb d_L_law_163 rfl (lv_at hl 3 rfl) ?_
  refine lv_iconst (v := 3) hx hb d_L_law_164 z_k3 ?_
  refine lv_iadd hx hb d_L_law_165 ?_
  refine z_topi (y := (nI (k + 3))) (nI_add k 3) ?_
  refine z_sld (j := (k + 3)) hx hb hX hbl hbA hG (nI_clamp (by omega)) (vp_in_nI (by omega) (by omega)) d_L_law_166 ?_
  refine kc_L_17 hF (c_M_deposit l D C ad hF.2.2 _ _ _ _ ) hG ⟨Nat.le_of_ble_eq_true rfl, Nat.le_of_ble_eq_true rfl⟩ ⟨Nat.le_of_ble_eq_true rfl, Nat.le_of_ble_eq_true rfl⟩ hl.1 (Nat.le_of_ble_eq_true rfl) d_L_law_167 (fun H locs hG => ?_)
  refine lv_icmp_eq (tgt := 746) hx hb d_L_law_170 rfl (fun _ => ?_) (fun h => absurd h (not_not_intro hq))
  exact kk _ _ _ _ hG (lv_sub hl [0, 1, 2, 3] rfl) rfl
set_option maxHeartbeats 4000000 in
set_option maxRecDepth 100000 in
theorem rg_L_law_175 {D : va_G} {C : Nat → ClassId} {ad : Nat → Nat → Nat} {S : z_S} {p : Program} {l : Launch} {e : Env} {s : State} {m : MethodId} {args : Array Value} {below : List Frame} {meth : Method} {c : Code} {H H0 : Heap} {locs : List Loc} {Q : State → Prop} {ls : Array Slot} {k : Nat} {b L : Nat} {xs : Nat → Int32} (hF : z_F D C ad p m c b_L_law 4 s args R_L)  (hX : va_X b L xs s H0) (hbl : b < H0.size) (hbA : ¬ z_A ad b) (hk : k + 6 ≤ L) (hL : L ≤ 3072) (hq : (f_X_blocks S (xs (k + 1))) = (f_M_blocks S (xs (k + 1)))) (hG : z_G D C ad H0 S H locs) (hl : lv_has ls 4 [(0, .ref b), (1, .ref (ad 0 0)), (2, .ref (ad 21 0)), (3, .int (nI k))]) (kk : ∀ (H : Heap) (locs : List Loc) (ls : Array Slot) , z_G D C ad H0 S H locs → lv_has ls 4 [(0, .ref b), (1, .ref (ad 0 0)), (2, .ref (ad 21 0)), (3, .int (nI k))] → W p l e rm_L_law s m args below meth c H locs 81 3500 Q (F0 m 746 ls [])) : W p l e rm_L_law s m args below meth c H locs 81 3500 Q (F0 m 175 ls []) := by
  obtain ⟨hx, hb, hml, hown, hts⟩ := hF.1
  refine lv_aload_n hx hb d_L_law_175 rfl (lv_at hl 1 rfl) ?_
  refine lv_aload_n hx hb d_L_law_176 rfl (lv_at hl 0 rfl) ?_
  refine lv_iload_n hx hb d_L_law_177 rfl (lv_at hl 3 rfl) ?_
  refine lv_iconst (v := 1) hx hb d_L_law_178 z_k1 ?_
  refine lv_iadd hx hb d_L_law_179 ?_
  refine z_topi (y := (nI (k + 1))) (nI_add k 1) ?_
  refine z_sld (j := (k + 1)) hx hb hX hbl hbA hG (nI_clamp (by omega)) (vp_in_nI (by omega) (by omega)) d_L_law_180 ?_
  refine kc_L_18 hF (c_X_blocks l D C ad hF.2.2 _ _ ) hG ⟨Nat.le_of_ble_eq_true rfl, Nat.le_of_ble_eq_true rfl⟩ ⟨Nat.le_of_ble_eq_true rfl, Nat.le_of_ble_eq_true rfl⟩ hl.1 (Nat.le_of_ble_eq_true rfl) d_L_law_181 (fun H locs hG => ?_)
  refine lv_aload_n hx hb d_L_law_184 rfl (lv_at hl 2 rfl) ?_
  refine lv_aload_n hx hb d_L_law_185 rfl (lv_at hl 0 rfl) ?_
  refine lv_iload_n hx hb d_L_law_186 rfl (lv_at hl 3 rfl) ?_
  refine lv_iconst (v := 1) hx hb d_L_law_187 z_k1 ?_
  refine lv_iadd hx hb d_L_law_188 ?_
  refine z_topi (y := (nI (k + 1))) (nI_add k 1) ?_
  refine z_sld (j := (k + 1)) hx hb hX hbl hbA hG (nI_clamp (by omega)) (vp_in_nI (by omega) (by omega)) d_L_law_189 ?_
  refine kc_L_22 hF (c_M_blocks l D C ad hF.2.2 _ _ ) hG ⟨Nat.le_of_ble_eq_true rfl, Nat.le_of_ble_eq_true rfl⟩ ⟨Nat.le_of_ble_eq_true rfl, Nat.le_of_ble_eq_true rfl⟩ hl.1 (Nat.le_of_ble_eq_true rfl) d_L_law_190 (fun H locs hG => ?_)
  refine lv_icmp_eq (tgt := 746) hx hb d_L_law_193 rfl (fun _ => ?_) (fun h => absurd h (not_not_intro hq))
  exact kk _ _ _  hG (lv_sub hl [0, 1, 2, 3] rfl) 
set_option maxHeartbeats 4000000 in
set_option maxRecDepth 100000 in
theorem rg_L_law_198 {D : va_G} {C : Nat → ClassId} {ad : Nat → Nat → Nat} {S : z_S} {p : Program} {l : Launch} {e : Env} {s : State} {m : MethodId} {args : Array Value} {below : List Frame} {meth : Method} {c : Code} {H H0 : Heap} {locs : List Loc} {Q : State → Prop} {ls : Array Slot} {k : Nat} {b L : Nat} {xs : Nat → Int32} (hF : z_F D C ad p m c b_L_law 4 s args R_L)  (hX : va_X b L xs s H0) (hbl : b < H0.size) (hbA : ¬ z_A ad b) (hk : k + 6 ≤ L) (hL : L ≤ 3072) (hok : z_Ok S) (hom : z_Om S) (hq : (f_X_at S (xs (k + 1)) (xs (k + 2)) (xs (k + 3))) = (f_M_at S (xs (k + 1)) (xs (k + 2)) (xs (k + 3)))) (hG : z_G D C ad H0 S H locs) (hl : lv_has ls 4 [(0, .ref b), (1, .ref (ad 0 0)), (2, .ref (ad 21 0)), (3, .int (nI k))]) (kk : ∀ (H : Heap) (locs : List Loc) (ls : Array Slot) , z_G D C ad H0 S H locs → lv_has ls 4 [(0, .ref b), (1, .ref (ad 0 0)), (2, .ref (ad 21 0)), (3, .int (nI k))] → W p l e rm_L_law s m args below meth c H locs 81 3500 Q (F0 m 746 ls [])) : W p l e rm_L_law s m args below meth c H locs 81 3500 Q (F0 m 198 ls []) := by
  obtain ⟨hx, hb, hml, hown, hts⟩ := hF.1
  refine lv_aload_n hx hb d_L_law_198 rfl (lv_at hl 1 rfl) ?_
  refine lv_aload_n hx hb d_L_law_199 rfl (lv_at hl 0 rfl) ?_
  refine lv_iload_n hx hb d_L_law_200 rfl (lv_at hl 3 rfl) ?_
  refine lv_iconst (v := 1) hx hb d_L_law_201 z_k1 ?_
  refine lv_iadd hx hb d_L_law_202 ?_
  refine z_topi (y := (nI (k + 1))) (nI_add k 1) ?_
  refine z_sld (j := (k + 1)) hx hb hX hbl hbA hG (nI_clamp (by omega)) (vp_in_nI (by omega) (by omega)) d_L_law_203 ?_
  refine lv_aload_n hx hb d_L_law_204 rfl (lv_at hl 0 rfl) ?_
  refine lv_iload_n hx hb d_L_law_205 rfl (lv_at hl 3 rfl) ?_
  refine lv_iconst (v := 2) hx hb d_L_law_206 z_k2 ?_
  refine lv_iadd hx hb d_L_law_207 ?_
  refine z_topi (y := (nI (k + 2))) (nI_add k 2) ?_
  refine z_sld (j := (k + 2)) hx hb hX hbl hbA hG (nI_clamp (by omega)) (vp_in_nI (by omega) (by omega)) d_L_law_208 ?_
  refine lv_aload_n hx hb d_L_law_209 rfl (lv_at hl 0 rfl) ?_
  refine lv_iload_n hx hb d_L_law_210 rfl (lv_at hl 3 rfl) ?_
  refine lv_iconst (v := 3) hx hb d_L_law_211 z_k3 ?_
  refine lv_iadd hx hb d_L_law_212 ?_
  refine z_topi (y := (nI (k + 3))) (nI_add k 3) ?_
  refine z_sld (j := (k + 3)) hx hb hX hbl hbA hG (nI_clamp (by omega)) (vp_in_nI (by omega) (by omega)) d_L_law_213 ?_
  refine kc_L_23 hF (c_X_at l D C ad hF.2.2 _ _ _ _ hok) hG ⟨Nat.le_of_ble_eq_true rfl, Nat.le_of_ble_eq_true rfl⟩ ⟨Nat.le_of_ble_eq_true rfl, Nat.le_of_ble_eq_true rfl⟩ hl.1 (Nat.le_of_ble_eq_true rfl) d_L_law_214 (fun H locs hG => ?_)
  refine lv_aload_n hx hb d_L_law_217 rfl (lv_at hl 2 rfl) ?_
  refine lv_aload_n hx hb d_L_law_218 rfl (lv_at hl 0 rfl) ?_
  refine lv_iload_n hx hb d_L_law_219 rfl (lv_at hl 3 rfl) ?_
  refine lv_iconst (v := 1) hx hb d_L_law_220 z_k1 ?_
  refine lv_iadd hx hb d_L_law_221 ?_
  refine z_topi (y := (nI (k + 1))) (nI_add k 1) ?_
  refine z_sld (j := (k + 1)) hx hb hX hbl hbA hG (nI_clamp (by omega)) (vp_in_nI (by omega) (by omega)) d_L_law_222 ?_
  refine lv_aload_n hx hb d_L_law_223 rfl (lv_at hl 0 rfl) ?_
  refine lv_iload_n hx hb d_L_law_224 rfl (lv_at hl 3 rfl) ?_
  refine lv_iconst (v := 2) hx hb d_L_law_225 z_k2 ?_
  refine lv_iadd hx hb d_L_law_226 ?_
  refine z_topi (y := (nI (k + 2))) (nI_add k 2) ?_
  refine z_sld (j := (k + 2)) hx hb hX hbl hbA hG (nI_clamp (by omega)) (vp_in_nI (by omega) (by omega)) d_L_law_227 ?_
  refine lv_aload_n hx hb d_L_law_228 rfl (lv_at hl 0 rfl) ?_
  refine lv_iload_n hx hb d_L_law_229 rfl (lv_at hl 3 rfl) ?_
  refine lv_iconst (v := 3) hx hb d_L_law_230 z_k3 ?_
  refine lv_iadd hx hb d_L_law_231 ?_
  refine z_topi (y := (nI (k + 3))) (nI_add k 3) ?_
  refine z_sld (j := (k + 3)) hx hb hX hbl hbA hG (nI_clamp (by omega)) (vp_in_nI (by omega) (by omega)) d_L_law_232 ?_
  refine kc_L_26 hF (c_M_at l D C ad hF.2.2 _ _ _ _ hom) hG ⟨Nat.le_of_ble_eq_true rfl, Nat.le_of_ble_eq_true rfl⟩ ⟨Nat.le_of_ble_eq_true rfl, Nat.le_of_ble_eq_true rfl⟩ hl.1 (Nat.le_of_ble_eq_true rfl) d_L_law_233 (fun H locs hG => ?_)
  refine lv_icmp_eq (tgt := 746) hx hb d_L_law_236 rfl (fun _ => ?_) (fun h => absurd h (not_not_intro hq))
  exact kk _ _ _  hG (lv_sub hl [0, 1, 2, 3] rfl) 
def rg_L_law_241_S1 (S : z_S) (k : Nat) (xs : Nat → Int32) : z_S := (g_M_damage (g_X_damage S (xs (k + 1)) (xs (k + 2)) (xs (k + 3)) (xs (k + 4))) (xs (k + 1)) (xs (k + 2)) (xs (k + 3)) (xs (k + 4)))
set_option maxHeartbeats 4000000 in
set_option maxRecDepth 100000 in
theorem rg_L_law_241 {D : va_G} {C : Nat → ClassId} {ad : Nat → Nat → Nat} {S : z_S} {p : Program} {l : Launch} {e : Env} {s : State} {m : MethodId} {args : Array Value} {below : List Frame} {meth : Method} {c : Code} {H H0 : Heap} {locs : List Loc} {Q : State → Prop} {ls : Array Slot} {k : Nat} {b L : Nat} {xs : Nat → Int32} (hF : z_F D C ad p m c b_L_law 4 s args R_L)  (hX : va_X b L xs s H0) (hbl : b < H0.size) (hbA : ¬ z_A ad b) (hk : k + 6 ≤ L) (hL : L ≤ 3072) (hok : z_Ok S) (hom : z_Om (g_X_damage S (xs (k + 1)) (xs (k + 2)) (xs (k + 3)) (xs (k + 4)))) (hq : (f_X_damage S (xs (k + 1)) (xs (k + 2)) (xs (k + 3)) (xs (k + 4))) = (f_M_damage (g_X_damage S (xs (k + 1)) (xs (k + 2)) (xs (k + 3)) (xs (k + 4))) (xs (k + 1)) (xs (k + 2)) (xs (k + 3)) (xs (k + 4)))) (hG : z_G D C ad H0 S H locs) (hl : lv_has ls 4 [(0, .ref b), (1, .ref (ad 0 0)), (2, .ref (ad 21 0)), (3, .int (nI k))]) (kk : ∀ (H : Heap) (locs : List Loc) (ls : Array Slot) (S1 : z_S), z_G D C ad H0 S1 H locs → lv_has ls 4 [(0, .ref b), (1, .ref (ad 0 0)), (2, .ref (ad 21 0)), (3, .int (nI k))] → rg_L_law_241_S1 S k xs = S1 → W p l e rm_L_law s m args below meth c H locs 81 3500 Q (F0 m 746 ls [])) : W p l e rm_L_law s m args below meth c H locs 81 3500 Q (F0 m 241 ls []) := by
  obtain ⟨hx, hb, hml, hown, hts⟩ := hF.1
  refine lv_aload_n hx hb d_L_law_241 rfl (lv_at hl 1 rfl) ?_
  refine lv_aload_n hx hb d_L_law_242 rfl (lv_at hl 0 rfl) ?_
  refine lv_iload_n hx hb d_L_law_243 rfl (lv_at hl 3 rfl) ?_
  refine lv_iconst (v := 1) hx hb d_L_law_244 z_k1 ?_
  refine lv_iadd hx hb d_L_law_245 ?_
  refine z_topi (y := (nI (k + 1))) (nI_add k 1) ?_
  refine z_sld (j := (k + 1)) hx hb hX hbl hbA hG (nI_clamp (by omega)) (vp_in_nI (by omega) (by omega)) d_L_law_246 ?_
  refine lv_aload_n hx hb d_L_law_247 rfl (lv_at hl 0 rfl) ?_
  refine lv_iload_n hx hb d_L_law_248 rfl (lv_at hl 3 rfl) ?_
  refine lv_iconst (v := 2) hx hb d_L_law_249 z_k2 ?_
  refine lv_iadd hx hb d_L_law_250 ?_
  refine z_topi (y := (nI (k + 2))) (nI_add k 2) ?_
  refine z_sld (j := (k + 2)) hx hb hX hbl hbA hG (nI_clamp (by omega)) (vp_in_nI (by omega) (by omega)) d_L_law_251 ?_
  refine lv_aload_n hx hb d_L_law_252 rfl (lv_at hl 0 rfl) ?_
  refine lv_iload_n hx hb d_L_law_253 rfl (lv_at hl 3 rfl) ?_
  refine lv_iconst (v := 3) hx hb d_L_law_254 z_k3 ?_
  refine lv_iadd hx hb d_L_law_255 ?_
  refine z_topi (y := (nI (k + 3))) (nI_add k 3) ?_
  refine z_sld (j := (k + 3)) hx hb hX hbl hbA hG (nI_clamp (by omega)) (vp_in_nI (by omega) (by omega)) d_L_law_256 ?_
  refine lv_aload_n hx hb d_L_law_257 rfl (lv_at hl 0 rfl) ?_
  refine lv_iload_n hx hb d_L_law_258 rfl (lv_at hl 3 rfl) ?_
  refine lv_iconst (v := 4) hx hb d_L_law_259 z_k4 ?_
  refine lv_iadd hx hb d_L_law_260 ?_
  refine z_topi (y := (nI (k + 4))) (nI_add k 4) ?_
  refine z_sld (j := (k + 4)) hx hb hX hbl hbA hG (nI_clamp (by omega)) (vp_in_nI (by omega) (by omega)) d_L_law_261 ?_
  refine kc_L_27 hF (c_X_damage l D C ad hF.2.2 _ _ _ _ _ hok) hG ⟨Nat.le_of_ble_eq_true rfl, Nat.le_of_ble_eq_true rfl⟩ ⟨Nat.le_of_ble_eq_true rfl, Nat.le_of_ble_eq_true rfl⟩ hl.1 (Nat.le_of_ble_eq_true rfl) d_L_law_262 (fun H locs hG => ?_)
  refine lv_aload_n hx hb d_L_law_265 rfl (lv_at hl 2 rfl) ?_
  refine lv_aload_n hx hb d_L_law_266 rfl (lv_at hl 0 rfl) ?_
  refine lv_iload_n hx hb d_L_law_267 rfl (lv_at hl 3 rfl) ?_
  refine lv_iconst (v := 1) hx hb d_L_law_268 z_k1 ?_
  refine lv_iadd hx hb d_L_law_269 ?_
  refine z_topi (y := (nI (k + 1))) (nI_add k 1) ?_
  refine z_sld (j := (k + 1)) hx hb hX hbl hbA hG (nI_clamp (by omega)) (vp_in_nI (by omega) (by omega)) d_L_law_270 ?_
  refine lv_aload_n hx hb d_L_law_271 rfl (lv_at hl 0 rfl) ?_
  refine lv_iload_n hx hb d_L_law_272 rfl (lv_at hl 3 rfl) ?_
  refine lv_iconst (v := 2) hx hb d_L_law_273 z_k2 ?_
  refine lv_iadd hx hb d_L_law_274 ?_
  refine z_topi (y := (nI (k + 2))) (nI_add k 2) ?_
  refine z_sld (j := (k + 2)) hx hb hX hbl hbA hG (nI_clamp (by omega)) (vp_in_nI (by omega) (by omega)) d_L_law_275 ?_
  refine lv_aload_n hx hb d_L_law_276 rfl (lv_at hl 0 rfl) ?_
  refine lv_iload_n hx hb d_L_law_277 rfl (lv_at hl 3 rfl) ?_
  refine lv_iconst (v := 3) hx hb d_L_law_278 z_k3 ?_
  refine lv_iadd hx hb d_L_law_279 ?_
  refine z_topi (y := (nI (k + 3))) (nI_add k 3) ?_
  refine z_sld (j := (k + 3)) hx hb hX hbl hbA hG (nI_clamp (by omega)) (vp_in_nI (by omega) (by omega)) d_L_law_280 ?_
  refine lv_aload_n hx hb d_L_law_281 rfl (lv_at hl 0 rfl) ?_
  refine lv_iload_n hx hb d_L_law_282 rfl (lv_at hl 3 rfl) ?_
  refine lv_iconst (v := 4) hx hb d_L_law_283 z_k4 ?_
  refine lv_iadd hx hb d_L_law_284 ?_
  refine z_topi (y := (nI (k + 4))) (nI_add k 4) ?_
  refine z_sld (j := (k + 4)) hx hb hX hbl hbA hG (nI_clamp (by omega)) (vp_in_nI (by omega) (by omega)) d_L_law_285 ?_
  refine kc_L_31 hF (c_M_damage l D C ad hF.2.2 (g_X_damage S (xs (k + 1)) (xs (k + 2)) (xs (k + 3)) (xs (k + 4))) _ _ _ _ hom) hG ⟨Nat.le_of_ble_eq_true rfl, Nat.le_of_ble_eq_true rfl⟩ ⟨Nat.le_of_ble_eq_true rfl, Nat.le_of_ble_eq_true rfl⟩ hl.1 (Nat.le_of_ble_eq_true rfl) d_L_law_286 (fun H locs hG => ?_)
  refine lv_icmp_eq (tgt := 746) hx hb d_L_law_289 rfl (fun _ => ?_) (fun h => absurd h (not_not_intro hq))
  exact kk _ _ _ _ hG (lv_sub hl [0, 1, 2, 3] rfl) rfl
set_option maxHeartbeats 4000000 in
set_option maxRecDepth 100000 in
theorem rg_L_law_294 {D : va_G} {C : Nat → ClassId} {ad : Nat → Nat → Nat} {S : z_S} {p : Program} {l : Launch} {e : Env} {s : State} {m : MethodId} {args : Array Value} {below : List Frame} {meth : Method} {c : Code} {H H0 : Heap} {locs : List Loc} {Q : State → Prop} {ls : Array Slot} {k : Nat} {b L : Nat} {xs : Nat → Int32} (hF : z_F D C ad p m c b_L_law 4 s args R_L)  (hX : va_X b L xs s H0) (hbl : b < H0.size) (hbA : ¬ z_A ad b) (hk : k + 6 ≤ L) (hL : L ≤ 3072) (hok : z_Ok S) (hq : (lg_cmp (f_X_sum S (xs (k + 1)) (xs (k + 2)) (xs (k + 3)) ((((xs (k + 4)).toInt64) <<< ((32 : Int32).toInt64 &&& 63)) ||| (((xs (k + 5)).toInt64) &&& 4294967295))) (f_M_sum S (xs (k + 1)) (xs (k + 2)) (xs (k + 3)) ((((xs (k + 4)).toInt64) <<< ((32 : Int32).toInt64 &&& 63)) ||| (((xs (k + 5)).toInt64) &&& 4294967295)))) = 0) (hG : z_G D C ad H0 S H locs) (hl : lv_has ls 4 [(0, .ref b), (1, .ref (ad 0 0)), (2, .ref (ad 21 0)), (3, .int (nI k))]) (kk : ∀ (H : Heap) (locs : List Loc) (ls : Array Slot) , z_G D C ad H0 S H locs → lv_has ls 4 [(0, .ref b), (1, .ref (ad 0 0)), (2, .ref (ad 21 0)), (3, .int (nI k))] → W p l e rm_L_law s m args below meth c H locs 81 3500 Q (F0 m 746 ls [])) : W p l e rm_L_law s m args below meth c H locs 81 3500 Q (F0 m 294 ls []) := by
  obtain ⟨hx, hb, hml, hown, hts⟩ := hF.1
  refine lv_aload_n hx hb d_L_law_294 rfl (lv_at hl 1 rfl) ?_
  refine lv_aload_n hx hb d_L_law_295 rfl (lv_at hl 0 rfl) ?_
  refine lv_iload_n hx hb d_L_law_296 rfl (lv_at hl 3 rfl) ?_
  refine lv_iconst (v := 1) hx hb d_L_law_297 z_k1 ?_
  refine lv_iadd hx hb d_L_law_298 ?_
  refine z_topi (y := (nI (k + 1))) (nI_add k 1) ?_
  refine z_sld (j := (k + 1)) hx hb hX hbl hbA hG (nI_clamp (by omega)) (vp_in_nI (by omega) (by omega)) d_L_law_299 ?_
  refine lv_aload_n hx hb d_L_law_300 rfl (lv_at hl 0 rfl) ?_
  refine lv_iload_n hx hb d_L_law_301 rfl (lv_at hl 3 rfl) ?_
  refine lv_iconst (v := 2) hx hb d_L_law_302 z_k2 ?_
  refine lv_iadd hx hb d_L_law_303 ?_
  refine z_topi (y := (nI (k + 2))) (nI_add k 2) ?_
  refine z_sld (j := (k + 2)) hx hb hX hbl hbA hG (nI_clamp (by omega)) (vp_in_nI (by omega) (by omega)) d_L_law_304 ?_
  refine lv_aload_n hx hb d_L_law_305 rfl (lv_at hl 0 rfl) ?_
  refine lv_iload_n hx hb d_L_law_306 rfl (lv_at hl 3 rfl) ?_
  refine lv_iconst (v := 3) hx hb d_L_law_307 z_k3 ?_
  refine lv_iadd hx hb d_L_law_308 ?_
  refine z_topi (y := (nI (k + 3))) (nI_add k 3) ?_
  refine z_sld (j := (k + 3)) hx hb hX hbl hbA hG (nI_clamp (by omega)) (vp_in_nI (by omega) (by omega)) d_L_law_309 ?_
  refine lv_aload_n hx hb d_L_law_310 rfl (lv_at hl 0 rfl) ?_
  refine lv_iload_n hx hb d_L_law_311 rfl (lv_at hl 3 rfl) ?_
  refine lv_iconst (v := 4) hx hb d_L_law_312 z_k4 ?_
  refine lv_iadd hx hb d_L_law_313 ?_
  refine z_topi (y := (nI (k + 4))) (nI_add k 4) ?_
  refine z_sld (j := (k + 4)) hx hb hX hbl hbA hG (nI_clamp (by omega)) (vp_in_nI (by omega) (by omega)) d_L_law_314 ?_
  refine lv_i2l hx hb d_L_law_315 rfl ?_
  refine lv_bipush (v := 32) hx hb d_L_law_316 z_bi32 ?_
  refine lv_lshl hx hb d_L_law_318 rfl ?_
  refine lv_aload_n hx hb d_L_law_319 rfl (lv_at hl 0 rfl) ?_
  refine lv_iload_n hx hb d_L_law_320 rfl (lv_at hl 3 rfl) ?_
  refine lv_iconst (v := 5) hx hb d_L_law_321 z_k5 ?_
  refine lv_iadd hx hb d_L_law_322 ?_
  refine z_topi (y := (nI (k + 5))) (nI_add k 5) ?_
  refine z_sld (j := (k + 5)) hx hb hX hbl hbA hG (nI_clamp (by omega)) (vp_in_nI (by omega) (by omega)) d_L_law_323 ?_
  refine lv_i2l hx hb d_L_law_324 rfl ?_
  refine lv_ldc2 (v := 4294967295) hx hb hown (hts _ wk_L_32) d_L_law_325 ?_
  refine lv_land hx hb d_L_law_328 ?_
  refine lv_lor hx hb d_L_law_329 ?_
  refine kc_L_34 hF (c_X_sum l D C ad hF.2.2 _ _ _ _ _ hok) hG ⟨Nat.le_of_ble_eq_true rfl, Nat.le_of_ble_eq_true rfl⟩ ⟨Nat.le_of_ble_eq_true rfl, Nat.le_of_ble_eq_true rfl⟩ hl.1 (Nat.le_of_ble_eq_true rfl) d_L_law_330 (fun H locs hG => ?_)
  refine lv_aload_n hx hb d_L_law_333 rfl (lv_at hl 2 rfl) ?_
  refine lv_aload_n hx hb d_L_law_334 rfl (lv_at hl 0 rfl) ?_
  refine lv_iload_n hx hb d_L_law_335 rfl (lv_at hl 3 rfl) ?_
  refine lv_iconst (v := 1) hx hb d_L_law_336 z_k1 ?_
  refine lv_iadd hx hb d_L_law_337 ?_
  refine z_topi (y := (nI (k + 1))) (nI_add k 1) ?_
  refine z_sld (j := (k + 1)) hx hb hX hbl hbA hG (nI_clamp (by omega)) (vp_in_nI (by omega) (by omega)) d_L_law_338 ?_
  refine lv_aload_n hx hb d_L_law_339 rfl (lv_at hl 0 rfl) ?_
  refine lv_iload_n hx hb d_L_law_340 rfl (lv_at hl 3 rfl) ?_
  refine lv_iconst (v := 2) hx hb d_L_law_341 z_k2 ?_
  refine lv_iadd hx hb d_L_law_342 ?_
  refine z_topi (y := (nI (k + 2))) (nI_add k 2) ?_
  refine z_sld (j := (k + 2)) hx hb hX hbl hbA hG (nI_clamp (by omega)) (vp_in_nI (by omega) (by omega)) d_L_law_343 ?_
  refine lv_aload_n hx hb d_L_law_344 rfl (lv_at hl 0 rfl) ?_
  refine lv_iload_n hx hb d_L_law_345 rfl (lv_at hl 3 rfl) ?_
  refine lv_iconst (v := 3) hx hb d_L_law_346 z_k3 ?_
  refine lv_iadd hx hb d_L_law_347 ?_
  refine z_topi (y := (nI (k + 3))) (nI_add k 3) ?_
  refine z_sld (j := (k + 3)) hx hb hX hbl hbA hG (nI_clamp (by omega)) (vp_in_nI (by omega) (by omega)) d_L_law_348 ?_
  refine lv_aload_n hx hb d_L_law_349 rfl (lv_at hl 0 rfl) ?_
  refine lv_iload_n hx hb d_L_law_350 rfl (lv_at hl 3 rfl) ?_
  refine lv_iconst (v := 4) hx hb d_L_law_351 z_k4 ?_
  refine lv_iadd hx hb d_L_law_352 ?_
  refine z_topi (y := (nI (k + 4))) (nI_add k 4) ?_
  refine z_sld (j := (k + 4)) hx hb hX hbl hbA hG (nI_clamp (by omega)) (vp_in_nI (by omega) (by omega)) d_L_law_353 ?_
  refine lv_i2l hx hb d_L_law_354 rfl ?_
  refine lv_bipush (v := 32) hx hb d_L_law_355 z_bi32 ?_
  refine lv_lshl hx hb d_L_law_357 rfl ?_
  refine lv_aload_n hx hb d_L_law_358 rfl (lv_at hl 0 rfl) ?_
  refine lv_iload_n hx hb d_L_law_359 rfl (lv_at hl 3 rfl) ?_
  refine lv_iconst (v := 5) hx hb d_L_law_360 z_k5 ?_
  refine lv_iadd hx hb d_L_law_361 ?_
  refine z_topi (y := (nI (k + 5))) (nI_add k 5) ?_
  refine z_sld (j := (k + 5)) hx hb hX hbl hbA hG (nI_clamp (by omega)) (vp_in_nI (by omega) (by omega)) d_L_law_362 ?_
  refine lv_i2l hx hb d_L_law_363 rfl ?_
  refine lv_ldc2 (v := 4294967295) hx hb hown (hts _ wk_L_32) d_L_law_364 ?_
  refine lv_land hx hb d_L_law_367 ?_
  refine lv_lor hx hb d_L_law_368 ?_
  refine kc_L_38 hF (c_M_sum l D C ad hF.2.2 _ _ _ _ _ ) hG ⟨Nat.le_of_ble_eq_true rfl, Nat.le_of_ble_eq_true rfl⟩ ⟨Nat.le_of_ble_eq_true rfl, Nat.le_of_ble_eq_true rfl⟩ hl.1 (Nat.le_of_ble_eq_true rfl) d_L_law_369 (fun H locs hG => ?_)
  refine W.lcmp hx hb d_L_law_372 ?_
  refine lv_if_eq (tgt := 746) hx hb d_L_law_373 rfl (fun _ => ?_) (fun h => absurd h (not_not_intro hq))
  exact kk _ _ _  hG (lv_sub hl [0, 1, 2, 3] rfl) 
def rg_L_law_378_S1 (S : z_S) (k : Nat) (xs : Nat → Int32) : z_S := (g_M_poll (g_X_poll S (xs (k + 1)) (xs (k + 2)) ((((xs (k + 3)).toInt64) <<< ((32 : Int32).toInt64 &&& 63)) ||| (((xs (k + 4)).toInt64) &&& 4294967295))) (xs (k + 1)) (xs (k + 2)) ((((xs (k + 3)).toInt64) <<< ((32 : Int32).toInt64 &&& 63)) ||| (((xs (k + 4)).toInt64) &&& 4294967295)))
set_option maxHeartbeats 4000000 in
set_option maxRecDepth 100000 in
theorem rg_L_law_378 {D : va_G} {C : Nat → ClassId} {ad : Nat → Nat → Nat} {S : z_S} {p : Program} {l : Launch} {e : Env} {s : State} {m : MethodId} {args : Array Value} {below : List Frame} {meth : Method} {c : Code} {H H0 : Heap} {locs : List Loc} {Q : State → Prop} {ls : Array Slot} {k : Nat} {b L : Nat} {xs : Nat → Int32} (hF : z_F D C ad p m c b_L_law 4 s args R_L)  (hX : va_X b L xs s H0) (hbl : b < H0.size) (hbA : ¬ z_A ad b) (hk : k + 6 ≤ L) (hL : L ≤ 3072) (hok : z_Ok S) (hom : z_Om (g_X_poll S (xs (k + 1)) (xs (k + 2)) ((((xs (k + 3)).toInt64) <<< ((32 : Int32).toInt64 &&& 63)) ||| (((xs (k + 4)).toInt64) &&& 4294967295)))) (hq : (f_X_poll S (xs (k + 1)) (xs (k + 2)) ((((xs (k + 3)).toInt64) <<< ((32 : Int32).toInt64 &&& 63)) ||| (((xs (k + 4)).toInt64) &&& 4294967295))) = (f_M_poll (g_X_poll S (xs (k + 1)) (xs (k + 2)) ((((xs (k + 3)).toInt64) <<< ((32 : Int32).toInt64 &&& 63)) ||| (((xs (k + 4)).toInt64) &&& 4294967295))) (xs (k + 1)) (xs (k + 2)) ((((xs (k + 3)).toInt64) <<< ((32 : Int32).toInt64 &&& 63)) ||| (((xs (k + 4)).toInt64) &&& 4294967295)))) (hG : z_G D C ad H0 S H locs) (hl : lv_has ls 4 [(0, .ref b), (1, .ref (ad 0 0)), (2, .ref (ad 21 0)), (3, .int (nI k))]) (kk : ∀ (H : Heap) (locs : List Loc) (ls : Array Slot) (S1 : z_S), z_G D C ad H0 S1 H locs → lv_has ls 4 [(0, .ref b), (1, .ref (ad 0 0)), (2, .ref (ad 21 0)), (3, .int (nI k))] → rg_L_law_378_S1 S k xs = S1 → W p l e rm_L_law s m args below meth c H locs 81 3500 Q (F0 m 746 ls [])) : W p l e rm_L_law s m args below meth c H locs 81 3500 Q (F0 m 378 ls []) := by
  obtain ⟨hx, hb, hml, hown, hts⟩ := hF.1
  refine lv_aload_n hx hb d_L_law_378 rfl (lv_at hl 1 rfl) ?_
  refine lv_aload_n hx hb d_L_law_379 rfl (lv_at hl 0 rfl) ?_
  refine lv_iload_n hx hb d_L_law_380 rfl (lv_at hl 3 rfl) ?_
  refine lv_iconst (v := 1) hx hb d_L_law_381 z_k1 ?_
  refine lv_iadd hx hb d_L_law_382 ?_
  refine z_topi (y := (nI (k + 1))) (nI_add k 1) ?_
  refine z_sld (j := (k + 1)) hx hb hX hbl hbA hG (nI_clamp (by omega)) (vp_in_nI (by omega) (by omega)) d_L_law_383 ?_
  refine lv_aload_n hx hb d_L_law_384 rfl (lv_at hl 0 rfl) ?_
  refine lv_iload_n hx hb d_L_law_385 rfl (lv_at hl 3 rfl) ?_
  refine lv_iconst (v := 2) hx hb d_L_law_386 z_k2 ?_
  refine lv_iadd hx hb d_L_law_387 ?_
  refine z_topi (y := (nI (k + 2))) (nI_add k 2) ?_
  refine z_sld (j := (k + 2)) hx hb hX hbl hbA hG (nI_clamp (by omega)) (vp_in_nI (by omega) (by omega)) d_L_law_388 ?_
  refine lv_aload_n hx hb d_L_law_389 rfl (lv_at hl 0 rfl) ?_
  refine lv_iload_n hx hb d_L_law_390 rfl (lv_at hl 3 rfl) ?_
  refine lv_iconst (v := 3) hx hb d_L_law_391 z_k3 ?_
  refine lv_iadd hx hb d_L_law_392 ?_
  refine z_topi (y := (nI (k + 3))) (nI_add k 3) ?_
  refine z_sld (j := (k + 3)) hx hb hX hbl hbA hG (nI_clamp (by omega)) (vp_in_nI (by omega) (by omega)) d_L_law_393 ?_
  refine lv_i2l hx hb d_L_law_394 rfl ?_
  refine lv_bipush (v := 32) hx hb d_L_law_395 z_bi32 ?_
  refine lv_lshl hx hb d_L_law_397 rfl ?_
  refine lv_aload_n hx hb d_L_law_398 rfl (lv_at hl 0 rfl) ?_
  refine lv_iload_n hx hb d_L_law_399 rfl (lv_at hl 3 rfl) ?_
  refine lv_iconst (v := 4) hx hb d_L_law_400 z_k4 ?_
  refine lv_iadd hx hb d_L_law_401 ?_
  refine z_topi (y := (nI (k + 4))) (nI_add k 4) ?_
  refine z_sld (j := (k + 4)) hx hb hX hbl hbA hG (nI_clamp (by omega)) (vp_in_nI (by omega) (by omega)) d_L_law_402 ?_
  refine lv_i2l hx hb d_L_law_403 rfl ?_
  refine lv_ldc2 (v := 4294967295) hx hb hown (hts _ wk_L_32) d_L_law_404 ?_
  refine lv_land hx hb d_L_law_407 ?_
  refine lv_lor hx hb d_L_law_408 ?_
  refine kc_L_39 hF (c_X_poll l D C ad hF.2.2 _ _ _ _ hok) hG ⟨Nat.le_of_ble_eq_true rfl, Nat.le_of_ble_eq_true rfl⟩ ⟨Nat.le_of_ble_eq_true rfl, Nat.le_of_ble_eq_true rfl⟩ hl.1 (Nat.le_of_ble_eq_true rfl) d_L_law_409 (fun H locs hG => ?_)
  refine lv_aload_n hx hb d_L_law_412 rfl (lv_at hl 2 rfl) ?_
  refine lv_aload_n hx hb d_L_law_413 rfl (lv_at hl 0 rfl) ?_
  refine lv_iload_n hx hb d_L_law_414 rfl (lv_at hl 3 rfl) ?_
  refine lv_iconst (v := 1) hx hb d_L_law_415 z_k1 ?_
  refine lv_iadd hx hb d_L_law_416 ?_
  refine z_topi (y := (nI (k + 1))) (nI_add k 1) ?_
  refine z_sld (j := (k + 1)) hx hb hX hbl hbA hG (nI_clamp (by omega)) (vp_in_nI (by omega) (by omega)) d_L_law_417 ?_
  refine lv_aload_n hx hb d_L_law_418 rfl (lv_at hl 0 rfl) ?_
  refine lv_iload_n hx hb d_L_law_419 rfl (lv_at hl 3 rfl) ?_
  refine lv_iconst (v := 2) hx hb d_L_law_420 z_k2 ?_
  refine lv_iadd hx hb d_L_law_421 ?_
  refine z_topi (y := (nI (k + 2))) (nI_add k 2) ?_
  refine z_sld (j := (k + 2)) hx hb hX hbl hbA hG (nI_clamp (by omega)) (vp_in_nI (by omega) (by omega)) d_L_law_422 ?_
  refine lv_aload_n hx hb d_L_law_423 rfl (lv_at hl 0 rfl) ?_
  refine lv_iload_n hx hb d_L_law_424 rfl (lv_at hl 3 rfl) ?_
  refine lv_iconst (v := 3) hx hb d_L_law_425 z_k3 ?_
  refine lv_iadd hx hb d_L_law_426 ?_
  refine z_topi (y := (nI (k + 3))) (nI_add k 3) ?_
  refine z_sld (j := (k + 3)) hx hb hX hbl hbA hG (nI_clamp (by omega)) (vp_in_nI (by omega) (by omega)) d_L_law_427 ?_
  refine lv_i2l hx hb d_L_law_428 rfl ?_
  refine lv_bipush (v := 32) hx hb d_L_law_429 z_bi32 ?_
  refine lv_lshl hx hb d_L_law_431 rfl ?_
  refine lv_aload_n hx hb d_L_law_432 rfl (lv_at hl 0 rfl) ?_
  refine lv_iload_n hx hb d_L_law_433 rfl (lv_at hl 3 rfl) ?_
  refine lv_iconst (v := 4) hx hb d_L_law_434 z_k4 ?_
  refine lv_iadd hx hb d_L_law_435 ?_
  refine z_topi (y := (nI (k + 4))) (nI_add k 4) ?_
  refine z_sld (j := (k + 4)) hx hb hX hbl hbA hG (nI_clamp (by omega)) (vp_in_nI (by omega) (by omega)) d_L_law_436 ?_
  refine lv_i2l hx hb d_L_law_437 rfl ?_
  refine lv_ldc2 (v := 4294967295) hx hb hown (hts _ wk_L_32) d_L_law_438 ?_
  refine lv_land hx hb d_L_law_441 ?_
  refine lv_lor hx hb d_L_law_442 ?_
  refine kc_L_43 hF (c_M_poll l D C ad hF.2.2 (g_X_poll S (xs (k + 1)) (xs (k + 2)) ((((xs (k + 3)).toInt64) <<< ((32 : Int32).toInt64 &&& 63)) ||| (((xs (k + 4)).toInt64) &&& 4294967295))) _ _ _ hom) hG ⟨Nat.le_of_ble_eq_true rfl, Nat.le_of_ble_eq_true rfl⟩ ⟨Nat.le_of_ble_eq_true rfl, Nat.le_of_ble_eq_true rfl⟩ hl.1 (Nat.le_of_ble_eq_true rfl) d_L_law_443 (fun H locs hG => ?_)
  refine lv_icmp_eq (tgt := 746) hx hb d_L_law_446 rfl (fun _ => ?_) (fun h => absurd h (not_not_intro hq))
  exact kk _ _ _ _ hG (lv_sub hl [0, 1, 2, 3] rfl) rfl
def rg_L_law_451_S1 (S : z_S) (k : Nat) (xs : Nat → Int32) : z_S := (g_M_again (g_X_again S (xs (k + 1))) (xs (k + 1)))
set_option maxHeartbeats 4000000 in
set_option maxRecDepth 100000 in
theorem rg_L_law_451 {D : va_G} {C : Nat → ClassId} {ad : Nat → Nat → Nat} {S : z_S} {p : Program} {l : Launch} {e : Env} {s : State} {m : MethodId} {args : Array Value} {below : List Frame} {meth : Method} {c : Code} {H H0 : Heap} {locs : List Loc} {Q : State → Prop} {ls : Array Slot} {k : Nat} {b L : Nat} {xs : Nat → Int32} (hF : z_F D C ad p m c b_L_law 4 s args R_L)  (hX : va_X b L xs s H0) (hbl : b < H0.size) (hbA : ¬ z_A ad b) (hk : k + 6 ≤ L) (hL : L ≤ 3072) (hok : z_Ok S) (hom : z_Om (g_X_again S (xs (k + 1)))) (hq : (f_X_again S (xs (k + 1))) = (f_M_again (g_X_again S (xs (k + 1))) (xs (k + 1)))) (hG : z_G D C ad H0 S H locs) (hl : lv_has ls 4 [(0, .ref b), (1, .ref (ad 0 0)), (2, .ref (ad 21 0)), (3, .int (nI k))]) (kk : ∀ (H : Heap) (locs : List Loc) (ls : Array Slot) (S1 : z_S), z_G D C ad H0 S1 H locs → lv_has ls 4 [(0, .ref b), (1, .ref (ad 0 0)), (2, .ref (ad 21 0)), (3, .int (nI k))] → rg_L_law_451_S1 S k xs = S1 → W p l e rm_L_law s m args below meth c H locs 81 3500 Q (F0 m 746 ls [])) : W p l e rm_L_law s m args below meth c H locs 81 3500 Q (F0 m 451 ls []) := by
  obtain ⟨hx, hb, hml, hown, hts⟩ := hF.1
  refine lv_aload_n hx hb d_L_law_451 rfl (lv_at hl 1 rfl) ?_
  refine lv_aload_n hx hb d_L_law_452 rfl (lv_at hl 0 rfl) ?_
  refine lv_iload_n hx hb d_L_law_453 rfl (lv_at hl 3 rfl) ?_
  refine lv_iconst (v := 1) hx hb d_L_law_454 z_k1 ?_
  refine lv_iadd hx hb d_L_law_455 ?_
  refine z_topi (y := (nI (k + 1))) (nI_add k 1) ?_
  refine z_sld (j := (k + 1)) hx hb hX hbl hbA hG (nI_clamp (by omega)) (vp_in_nI (by omega) (by omega)) d_L_law_456 ?_
  refine kc_L_44 hF (c_X_again l D C ad hF.2.2 _ _ hok) hG ⟨Nat.le_of_ble_eq_true rfl, Nat.le_of_ble_eq_true rfl⟩ ⟨Nat.le_of_ble_eq_true rfl, Nat.le_of_ble_eq_true rfl⟩ hl.1 (Nat.le_of_ble_eq_true rfl) d_L_law_457 (fun H locs hG => ?_)
  refine lv_aload_n hx hb d_L_law_460 rfl (lv_at hl 2 rfl) ?_
  refine lv_aload_n hx hb d_L_law_461 rfl (lv_at hl 0 rfl) ?_
  refine lv_iload_n hx hb d_L_law_462 rfl (lv_at hl 3 rfl) ?_
  refine lv_iconst (v := 1) hx hb d_L_law_463 z_k1 ?_
  refine lv_iadd hx hb d_L_law_464 ?_
  refine z_topi (y := (nI (k + 1))) (nI_add k 1) ?_
  refine z_sld (j := (k + 1)) hx hb hX hbl hbA hG (nI_clamp (by omega)) (vp_in_nI (by omega) (by omega)) d_L_law_465 ?_
  refine kc_L_47 hF (c_M_again l D C ad hF.2.2 (g_X_again S (xs (k + 1))) _ hom) hG ⟨Nat.le_of_ble_eq_true rfl, Nat.le_of_ble_eq_true rfl⟩ ⟨Nat.le_of_ble_eq_true rfl, Nat.le_of_ble_eq_true rfl⟩ hl.1 (Nat.le_of_ble_eq_true rfl) d_L_law_466 (fun H locs hG => ?_)
  refine lv_icmp_eq (tgt := 746) hx hb d_L_law_469 rfl (fun _ => ?_) (fun h => absurd h (not_not_intro hq))
  exact kk _ _ _ _ hG (lv_sub hl [0, 1, 2, 3] rfl) rfl
def rg_L_law_474_S1 (S : z_S) : z_S := (g_M_step (g_X_step S))
set_option maxHeartbeats 4000000 in
set_option maxRecDepth 100000 in
theorem rg_L_law_474 {D : va_G} {C : Nat → ClassId} {ad : Nat → Nat → Nat} {S : z_S} {p : Program} {l : Launch} {e : Env} {s : State} {m : MethodId} {args : Array Value} {below : List Frame} {meth : Method} {c : Code} {H H0 : Heap} {locs : List Loc} {Q : State → Prop} {ls : Array Slot} {k : Nat} {b L : Nat} {xs : Nat → Int32} (hF : z_F D C ad p m c b_L_law 4 s args R_L)  (hX : va_X b L xs s H0) (hbl : b < H0.size) (hbA : ¬ z_A ad b) (hk : k + 6 ≤ L) (hL : L ≤ 3072) (hok : z_Ok S) (hom : z_Om (g_X_step S)) (hq : (f_X_step S) = (f_M_step (g_X_step S))) (hG : z_G D C ad H0 S H locs) (hl : lv_has ls 4 [(0, .ref b), (1, .ref (ad 0 0)), (2, .ref (ad 21 0)), (3, .int (nI k))]) (kk : ∀ (H : Heap) (locs : List Loc) (ls : Array Slot) (S1 : z_S), z_G D C ad H0 S1 H locs → lv_has ls 4 [(0, .ref b), (1, .ref (ad 0 0)), (2, .ref (ad 21 0)), (3, .int (nI k))] → rg_L_law_474_S1 S = S1 → W p l e rm_L_law s m args below meth c H locs 81 3500 Q (F0 m 746 ls [])) : W p l e rm_L_law s m args below meth c H locs 81 3500 Q (F0 m 474 ls []) := by
  obtain ⟨hx, hb, hml, hown, hts⟩ := hF.1
  refine lv_aload_n hx hb d_L_law_474 rfl (lv_at hl 1 rfl) ?_
  refine kc_L_48 hF (c_X_step l D C ad hF.2.2 _ hok) hG ⟨Nat.le_of_ble_eq_true rfl, Nat.le_of_ble_eq_true rfl⟩ ⟨Nat.le_of_ble_eq_true rfl, Nat.le_of_ble_eq_true rfl⟩ hl.1 (Nat.le_of_ble_eq_true rfl) d_L_law_475 (fun H locs hG => ?_)
  refine lv_aload_n hx hb d_L_law_478 rfl (lv_at hl 2 rfl) ?_
  refine kc_L_52 hF (c_M_step l D C ad hF.2.2 (g_X_step S) hom) hG ⟨Nat.le_of_ble_eq_true rfl, Nat.le_of_ble_eq_true rfl⟩ ⟨Nat.le_of_ble_eq_true rfl, Nat.le_of_ble_eq_true rfl⟩ hl.1 (Nat.le_of_ble_eq_true rfl) d_L_law_479 (fun H locs hG => ?_)
  refine lv_icmp_eq (tgt := 746) hx hb d_L_law_482 rfl (fun _ => ?_) (fun h => absurd h (not_not_intro hq))
  exact kk _ _ _ _ hG (lv_sub hl [0, 1, 2, 3] rfl) rfl
def rg_L_law_487_S1 (S : z_S) (k : Nat) (xs : Nat → Int32) : z_S := (g_M_lose (g_X_lose S (xs (k + 1))) (xs (k + 1)))
set_option maxHeartbeats 4000000 in
set_option maxRecDepth 100000 in
theorem rg_L_law_487 {D : va_G} {C : Nat → ClassId} {ad : Nat → Nat → Nat} {S : z_S} {p : Program} {l : Launch} {e : Env} {s : State} {m : MethodId} {args : Array Value} {below : List Frame} {meth : Method} {c : Code} {H H0 : Heap} {locs : List Loc} {Q : State → Prop} {ls : Array Slot} {k : Nat} {b L : Nat} {xs : Nat → Int32} (hF : z_F D C ad p m c b_L_law 4 s args R_L)  (hX : va_X b L xs s H0) (hbl : b < H0.size) (hbA : ¬ z_A ad b) (hk : k + 6 ≤ L) (hL : L ≤ 3072) (hok : z_Ok S) (hom : z_Om (g_X_lose S (xs (k + 1)))) (hq : (f_X_lose S (xs (k + 1))) = (f_M_lose (g_X_lose S (xs (k + 1))) (xs (k + 1)))) (hG : z_G D C ad H0 S H locs) (hl : lv_has ls 4 [(0, .ref b), (1, .ref (ad 0 0)), (2, .ref (ad 21 0)), (3, .int (nI k))]) (kk : ∀ (H : Heap) (locs : List Loc) (ls : Array Slot) (S1 : z_S), z_G D C ad H0 S1 H locs → lv_has ls 4 [(0, .ref b), (1, .ref (ad 0 0)), (2, .ref (ad 21 0)), (3, .int (nI k))] → rg_L_law_487_S1 S k xs = S1 → W p l e rm_L_law s m args below meth c H locs 81 3500 Q (F0 m 746 ls [])) : W p l e rm_L_law s m args below meth c H locs 81 3500 Q (F0 m 487 ls []) := by
  obtain ⟨hx, hb, hml, hown, hts⟩ := hF.1
  refine lv_aload_n hx hb d_L_law_487 rfl (lv_at hl 1 rfl) ?_
  refine lv_aload_n hx hb d_L_law_488 rfl (lv_at hl 0 rfl) ?_
  refine lv_iload_n hx hb d_L_law_489 rfl (lv_at hl 3 rfl) ?_
  refine lv_iconst (v := 1) hx hb d_L_law_490 z_k1 ?_
  refine lv_iadd hx hb d_L_law_491 ?_
  refine z_topi (y := (nI (k + 1))) (nI_add k 1) ?_
  refine z_sld (j := (k + 1)) hx hb hX hbl hbA hG (nI_clamp (by omega)) (vp_in_nI (by omega) (by omega)) d_L_law_492 ?_
  refine kc_L_53 hF (c_X_lose l D C ad hF.2.2 _ _ hok) hG ⟨Nat.le_of_ble_eq_true rfl, Nat.le_of_ble_eq_true rfl⟩ ⟨Nat.le_of_ble_eq_true rfl, Nat.le_of_ble_eq_true rfl⟩ hl.1 (Nat.le_of_ble_eq_true rfl) d_L_law_493 (fun H locs hG => ?_)
  refine lv_aload_n hx hb d_L_law_496 rfl (lv_at hl 2 rfl) ?_
  refine lv_aload_n hx hb d_L_law_497 rfl (lv_at hl 0 rfl) ?_
  refine lv_iload_n hx hb d_L_law_498 rfl (lv_at hl 3 rfl) ?_
  refine lv_iconst (v := 1) hx hb d_L_law_499 z_k1 ?_
  refine lv_iadd hx hb d_L_law_500 ?_
  refine z_topi (y := (nI (k + 1))) (nI_add k 1) ?_
  refine z_sld (j := (k + 1)) hx hb hX hbl hbA hG (nI_clamp (by omega)) (vp_in_nI (by omega) (by omega)) d_L_law_501 ?_
  refine kc_L_56 hF (c_M_lose l D C ad hF.2.2 (g_X_lose S (xs (k + 1))) _ hom) hG ⟨Nat.le_of_ble_eq_true rfl, Nat.le_of_ble_eq_true rfl⟩ ⟨Nat.le_of_ble_eq_true rfl, Nat.le_of_ble_eq_true rfl⟩ hl.1 (Nat.le_of_ble_eq_true rfl) d_L_law_502 (fun H locs hG => ?_)
  refine lv_icmp_eq (tgt := 746) hx hb d_L_law_505 rfl (fun _ => ?_) (fun h => absurd h (not_not_intro hq))
  exact kk _ _ _ _ hG (lv_sub hl [0, 1, 2, 3] rfl) rfl
def rg_L_law_510_S1 (S : z_S) (k : Nat) (xs : Nat → Int32) : z_S := (g_M_twice (g_X_twice S (xs (k + 1))) (xs (k + 1)))
set_option maxHeartbeats 4000000 in
set_option maxRecDepth 100000 in
theorem rg_L_law_510 {D : va_G} {C : Nat → ClassId} {ad : Nat → Nat → Nat} {S : z_S} {p : Program} {l : Launch} {e : Env} {s : State} {m : MethodId} {args : Array Value} {below : List Frame} {meth : Method} {c : Code} {H H0 : Heap} {locs : List Loc} {Q : State → Prop} {ls : Array Slot} {k : Nat} {b L : Nat} {xs : Nat → Int32} (hF : z_F D C ad p m c b_L_law 4 s args R_L)  (hX : va_X b L xs s H0) (hbl : b < H0.size) (hbA : ¬ z_A ad b) (hk : k + 6 ≤ L) (hL : L ≤ 3072) (hok : z_Ok S) (hom : z_Om (g_X_twice S (xs (k + 1)))) (hq : (f_X_twice S (xs (k + 1))) = (f_M_twice (g_X_twice S (xs (k + 1))) (xs (k + 1)))) (hG : z_G D C ad H0 S H locs) (hl : lv_has ls 4 [(0, .ref b), (1, .ref (ad 0 0)), (2, .ref (ad 21 0)), (3, .int (nI k))]) (kk : ∀ (H : Heap) (locs : List Loc) (ls : Array Slot) (S1 : z_S), z_G D C ad H0 S1 H locs → lv_has ls 4 [(0, .ref b), (1, .ref (ad 0 0)), (2, .ref (ad 21 0)), (3, .int (nI k))] → rg_L_law_510_S1 S k xs = S1 → W p l e rm_L_law s m args below meth c H locs 81 3500 Q (F0 m 746 ls [])) : W p l e rm_L_law s m args below meth c H locs 81 3500 Q (F0 m 510 ls []) := by
  obtain ⟨hx, hb, hml, hown, hts⟩ := hF.1
  refine lv_aload_n hx hb d_L_law_510 rfl (lv_at hl 1 rfl) ?_
  refine lv_aload_n hx hb d_L_law_511 rfl (lv_at hl 0 rfl) ?_
  refine lv_iload_n hx hb d_L_law_512 rfl (lv_at hl 3 rfl) ?_
  refine lv_iconst (v := 1) hx hb d_L_law_513 z_k1 ?_
  refine lv_iadd hx hb d_L_law_514 ?_
  refine z_topi (y := (nI (k + 1))) (nI_add k 1) ?_
  refine z_sld (j := (k + 1)) hx hb hX hbl hbA hG (nI_clamp (by omega)) (vp_in_nI (by omega) (by omega)) d_L_law_515 ?_
  refine kc_L_57 hF (c_X_twice l D C ad hF.2.2 _ _ hok) hG ⟨Nat.le_of_ble_eq_true rfl, Nat.le_of_ble_eq_true rfl⟩ ⟨Nat.le_of_ble_eq_true rfl, Nat.le_of_ble_eq_true rfl⟩ hl.1 (Nat.le_of_ble_eq_true rfl) d_L_law_516 (fun H locs hG => ?_)
  refine lv_aload_n hx hb d_L_law_519 rfl (lv_at hl 2 rfl) ?_
  refine lv_aload_n hx hb d_L_law_520 rfl (lv_at hl 0 rfl) ?_
  refine lv_iload_n hx hb d_L_law_521 rfl (lv_at hl 3 rfl) ?_
  refine lv_iconst (v := 1) hx hb d_L_law_522 z_k1 ?_
  refine lv_iadd hx hb d_L_law_523 ?_
  refine z_topi (y := (nI (k + 1))) (nI_add k 1) ?_
  refine z_sld (j := (k + 1)) hx hb hX hbl hbA hG (nI_clamp (by omega)) (vp_in_nI (by omega) (by omega)) d_L_law_524 ?_
  refine kc_L_60 hF (c_M_twice l D C ad hF.2.2 (g_X_twice S (xs (k + 1))) _ hom) hG ⟨Nat.le_of_ble_eq_true rfl, Nat.le_of_ble_eq_true rfl⟩ ⟨Nat.le_of_ble_eq_true rfl, Nat.le_of_ble_eq_true rfl⟩ hl.1 (Nat.le_of_ble_eq_true rfl) d_L_law_525 (fun H locs hG => ?_)
  refine lv_icmp_eq (tgt := 746) hx hb d_L_law_528 rfl (fun _ => ?_) (fun h => absurd h (not_not_intro hq))
  exact kk _ _ _ _ hG (lv_sub hl [0, 1, 2, 3] rfl) rfl
set_option maxHeartbeats 4000000 in
set_option maxRecDepth 100000 in
theorem rg_L_law_533 {D : va_G} {C : Nat → ClassId} {ad : Nat → Nat → Nat} {S : z_S} {p : Program} {l : Launch} {e : Env} {s : State} {m : MethodId} {args : Array Value} {below : List Frame} {meth : Method} {c : Code} {H H0 : Heap} {locs : List Loc} {Q : State → Prop} {ls : Array Slot} {k : Nat} {b L : Nat} {xs : Nat → Int32} (hF : z_F D C ad p m c b_L_law 4 s args R_L)  (hX : va_X b L xs s H0) (hbl : b < H0.size) (hbA : ¬ z_A ad b) (hk : k + 6 ≤ L) (hL : L ≤ 3072) (hq : (f_X_letters S) = (f_M_letters S)) (hG : z_G D C ad H0 S H locs) (hl : lv_has ls 4 [(0, .ref b), (1, .ref (ad 0 0)), (2, .ref (ad 21 0)), (3, .int (nI k))]) (kk : ∀ (H : Heap) (locs : List Loc) (ls : Array Slot) , z_G D C ad H0 S H locs → lv_has ls 4 [(0, .ref b), (1, .ref (ad 0 0)), (2, .ref (ad 21 0)), (3, .int (nI k))] → W p l e rm_L_law s m args below meth c H locs 81 3500 Q (F0 m 746 ls [])) : W p l e rm_L_law s m args below meth c H locs 81 3500 Q (F0 m 533 ls []) := by
  obtain ⟨hx, hb, hml, hown, hts⟩ := hF.1
  refine lv_aload_n hx hb d_L_law_533 rfl (lv_at hl 1 rfl) ?_
  refine kc_L_61 hF (c_X_letters l D C ad hF.2.2 _ ) hG ⟨Nat.le_of_ble_eq_true rfl, Nat.le_of_ble_eq_true rfl⟩ ⟨Nat.le_of_ble_eq_true rfl, Nat.le_of_ble_eq_true rfl⟩ hl.1 (Nat.le_of_ble_eq_true rfl) d_L_law_534 (fun H locs hG => ?_)
  refine lv_aload_n hx hb d_L_law_537 rfl (lv_at hl 2 rfl) ?_
  refine kc_L_64 hF (c_M_letters l D C ad hF.2.2 _ ) hG ⟨Nat.le_of_ble_eq_true rfl, Nat.le_of_ble_eq_true rfl⟩ ⟨Nat.le_of_ble_eq_true rfl, Nat.le_of_ble_eq_true rfl⟩ hl.1 (Nat.le_of_ble_eq_true rfl) d_L_law_538 (fun H locs hG => ?_)
  refine lv_icmp_eq (tgt := 746) hx hb d_L_law_541 rfl (fun _ => ?_) (fun h => absurd h (not_not_intro hq))
  exact kk _ _ _  hG (lv_sub hl [0, 1, 2, 3] rfl) 
set_option maxHeartbeats 4000000 in
set_option maxRecDepth 100000 in
theorem rg_L_law_546 {D : va_G} {C : Nat → ClassId} {ad : Nat → Nat → Nat} {S : z_S} {p : Program} {l : Launch} {e : Env} {s : State} {m : MethodId} {args : Array Value} {below : List Frame} {meth : Method} {c : Code} {H H0 : Heap} {locs : List Loc} {Q : State → Prop} {ls : Array Slot} {k : Nat} {b L : Nat} {xs : Nat → Int32} (hF : z_F D C ad p m c b_L_law 4 s args R_L)  (hX : va_X b L xs s H0) (hbl : b < H0.size) (hbA : ¬ z_A ad b) (hk : k + 6 ≤ L) (hL : L ≤ 3072) (hok : z_Ok S) (hom : z_Om S) (hq : (f_X_letter S (xs (k + 1)) (xs (k + 2))) = (f_M_letter S (xs (k + 1)) (xs (k + 2)))) (hG : z_G D C ad H0 S H locs) (hl : lv_has ls 4 [(0, .ref b), (1, .ref (ad 0 0)), (2, .ref (ad 21 0)), (3, .int (nI k))]) (kk : ∀ (H : Heap) (locs : List Loc) (ls : Array Slot) , z_G D C ad H0 S H locs → lv_has ls 4 [(0, .ref b), (1, .ref (ad 0 0)), (2, .ref (ad 21 0)), (3, .int (nI k))] → W p l e rm_L_law s m args below meth c H locs 81 3500 Q (F0 m 746 ls [])) : W p l e rm_L_law s m args below meth c H locs 81 3500 Q (F0 m 546 ls []) := by
  obtain ⟨hx, hb, hml, hown, hts⟩ := hF.1
  refine lv_aload_n hx hb d_L_law_546 rfl (lv_at hl 1 rfl) ?_
  refine lv_aload_n hx hb d_L_law_547 rfl (lv_at hl 0 rfl) ?_
  refine lv_iload_n hx hb d_L_law_548 rfl (lv_at hl 3 rfl) ?_
  refine lv_iconst (v := 1) hx hb d_L_law_549 z_k1 ?_
  refine lv_iadd hx hb d_L_law_550 ?_
  refine z_topi (y := (nI (k + 1))) (nI_add k 1) ?_
  refine z_sld (j := (k + 1)) hx hb hX hbl hbA hG (nI_clamp (by omega)) (vp_in_nI (by omega) (by omega)) d_L_law_551 ?_
  refine lv_aload_n hx hb d_L_law_552 rfl (lv_at hl 0 rfl) ?_
  refine lv_iload_n hx hb d_L_law_553 rfl (lv_at hl 3 rfl) ?_
  refine lv_iconst (v := 2) hx hb d_L_law_554 z_k2 ?_
  refine lv_iadd hx hb d_L_law_555 ?_
  refine z_topi (y := (nI (k + 2))) (nI_add k 2) ?_
  refine z_sld (j := (k + 2)) hx hb hX hbl hbA hG (nI_clamp (by omega)) (vp_in_nI (by omega) (by omega)) d_L_law_556 ?_
  refine kc_L_65 hF (c_X_letter l D C ad hF.2.2 _ _ _ hok) hG ⟨Nat.le_of_ble_eq_true rfl, Nat.le_of_ble_eq_true rfl⟩ ⟨Nat.le_of_ble_eq_true rfl, Nat.le_of_ble_eq_true rfl⟩ hl.1 (Nat.le_of_ble_eq_true rfl) d_L_law_557 (fun H locs hG => ?_)
  refine lv_aload_n hx hb d_L_law_560 rfl (lv_at hl 2 rfl) ?_
  refine lv_aload_n hx hb d_L_law_561 rfl (lv_at hl 0 rfl) ?_
  refine lv_iload_n hx hb d_L_law_562 rfl (lv_at hl 3 rfl) ?_
  refine lv_iconst (v := 1) hx hb d_L_law_563 z_k1 ?_
  refine lv_iadd hx hb d_L_law_564 ?_
  refine z_topi (y := (nI (k + 1))) (nI_add k 1) ?_
  refine z_sld (j := (k + 1)) hx hb hX hbl hbA hG (nI_clamp (by omega)) (vp_in_nI (by omega) (by omega)) d_L_law_565 ?_
  refine lv_aload_n hx hb d_L_law_566 rfl (lv_at hl 0 rfl) ?_
  refine lv_iload_n hx hb d_L_law_567 rfl (lv_at hl 3 rfl) ?_
  refine lv_iconst (v := 2) hx hb d_L_law_568 z_k2 ?_
  refine lv_iadd hx hb d_L_law_569 ?_
  refine z_topi (y := (nI (k + 2))) (nI_add k 2) ?_
  refine z_sld (j := (k + 2)) hx hb hX hbl hbA hG (nI_clamp (by omega)) (vp_in_nI (by omega) (by omega)) d_L_law_570 ?_
  refine kc_L_69 hF (c_M_letter l D C ad hF.2.2 _ _ _ hom) hG ⟨Nat.le_of_ble_eq_true rfl, Nat.le_of_ble_eq_true rfl⟩ ⟨Nat.le_of_ble_eq_true rfl, Nat.le_of_ble_eq_true rfl⟩ hl.1 (Nat.le_of_ble_eq_true rfl) d_L_law_571 (fun H locs hG => ?_)
  refine lv_icmp_eq (tgt := 746) hx hb d_L_law_574 rfl (fun _ => ?_) (fun h => absurd h (not_not_intro hq))
  exact kk _ _ _  hG (lv_sub hl [0, 1, 2, 3] rfl) 
def rg_L_law_579_S1 (S : z_S) (k : Nat) (xs : Nat → Int32) : z_S := (g_M_giveUp (g_X_giveUp S (xs (k + 1))) (xs (k + 1)))
set_option maxHeartbeats 4000000 in
set_option maxRecDepth 100000 in
theorem rg_L_law_579 {D : va_G} {C : Nat → ClassId} {ad : Nat → Nat → Nat} {S : z_S} {p : Program} {l : Launch} {e : Env} {s : State} {m : MethodId} {args : Array Value} {below : List Frame} {meth : Method} {c : Code} {H H0 : Heap} {locs : List Loc} {Q : State → Prop} {ls : Array Slot} {k : Nat} {b L : Nat} {xs : Nat → Int32} (hF : z_F D C ad p m c b_L_law 4 s args R_L)  (hX : va_X b L xs s H0) (hbl : b < H0.size) (hbA : ¬ z_A ad b) (hk : k + 6 ≤ L) (hL : L ≤ 3072) (hok : z_Ok S) (hom : z_Om (g_X_giveUp S (xs (k + 1)))) (hq : (f_X_giveUp S (xs (k + 1))) = (f_M_giveUp (g_X_giveUp S (xs (k + 1))) (xs (k + 1)))) (hG : z_G D C ad H0 S H locs) (hl : lv_has ls 4 [(0, .ref b), (1, .ref (ad 0 0)), (2, .ref (ad 21 0)), (3, .int (nI k))]) (kk : ∀ (H : Heap) (locs : List Loc) (ls : Array Slot) (S1 : z_S), z_G D C ad H0 S1 H locs → lv_has ls 4 [(0, .ref b), (1, .ref (ad 0 0)), (2, .ref (ad 21 0)), (3, .int (nI k))] → rg_L_law_579_S1 S k xs = S1 → W p l e rm_L_law s m args below meth c H locs 81 3500 Q (F0 m 746 ls [])) : W p l e rm_L_law s m args below meth c H locs 81 3500 Q (F0 m 579 ls []) := by
  obtain ⟨hx, hb, hml, hown, hts⟩ := hF.1
  refine lv_aload_n hx hb d_L_law_579 rfl (lv_at hl 1 rfl) ?_
  refine lv_aload_n hx hb d_L_law_580 rfl (lv_at hl 0 rfl) ?_
  refine lv_iload_n hx hb d_L_law_581 rfl (lv_at hl 3 rfl) ?_
  refine lv_iconst (v := 1) hx hb d_L_law_582 z_k1 ?_
  refine lv_iadd hx hb d_L_law_583 ?_
  refine z_topi (y := (nI (k + 1))) (nI_add k 1) ?_
  refine z_sld (j := (k + 1)) hx hb hX hbl hbA hG (nI_clamp (by omega)) (vp_in_nI (by omega) (by omega)) d_L_law_584 ?_
  refine kc_L_70 hF (c_X_giveUp l D C ad hF.2.2 _ _ hok) hG ⟨Nat.le_of_ble_eq_true rfl, Nat.le_of_ble_eq_true rfl⟩ ⟨Nat.le_of_ble_eq_true rfl, Nat.le_of_ble_eq_true rfl⟩ hl.1 (Nat.le_of_ble_eq_true rfl) d_L_law_585 (fun H locs hG => ?_)
  refine lv_aload_n hx hb d_L_law_588 rfl (lv_at hl 2 rfl) ?_
  refine lv_aload_n hx hb d_L_law_589 rfl (lv_at hl 0 rfl) ?_
  refine lv_iload_n hx hb d_L_law_590 rfl (lv_at hl 3 rfl) ?_
  refine lv_iconst (v := 1) hx hb d_L_law_591 z_k1 ?_
  refine lv_iadd hx hb d_L_law_592 ?_
  refine z_topi (y := (nI (k + 1))) (nI_add k 1) ?_
  refine z_sld (j := (k + 1)) hx hb hX hbl hbA hG (nI_clamp (by omega)) (vp_in_nI (by omega) (by omega)) d_L_law_593 ?_
  refine kc_L_74 hF (c_M_giveUp l D C ad hF.2.2 (g_X_giveUp S (xs (k + 1))) _ hom) hG ⟨Nat.le_of_ble_eq_true rfl, Nat.le_of_ble_eq_true rfl⟩ ⟨Nat.le_of_ble_eq_true rfl, Nat.le_of_ble_eq_true rfl⟩ hl.1 (Nat.le_of_ble_eq_true rfl) d_L_law_594 (fun H locs hG => ?_)
  refine lv_icmp_eq (tgt := 746) hx hb d_L_law_597 rfl (fun _ => ?_) (fun h => absurd h (not_not_intro hq))
  exact kk _ _ _ _ hG (lv_sub hl [0, 1, 2, 3] rfl) rfl
set_option maxHeartbeats 4000000 in
set_option maxRecDepth 100000 in
theorem rg_L_law_602 {D : va_G} {C : Nat → ClassId} {ad : Nat → Nat → Nat} {S : z_S} {p : Program} {l : Launch} {e : Env} {s : State} {m : MethodId} {args : Array Value} {below : List Frame} {meth : Method} {c : Code} {H H0 : Heap} {locs : List Loc} {Q : State → Prop} {ls : Array Slot} {k : Nat} {b L : Nat} {xs : Nat → Int32} (hF : z_F D C ad p m c b_L_law 4 s args R_L)  (hX : va_X b L xs s H0) (hbl : b < H0.size) (hbA : ¬ z_A ad b) (hk : k + 6 ≤ L) (hL : L ≤ 3072) (hok : z_Ok S) (hom : z_Om S) (hq : (f_X_result S (xs (k + 1))) = (f_M_result S (xs (k + 1)))) (hG : z_G D C ad H0 S H locs) (hl : lv_has ls 4 [(0, .ref b), (1, .ref (ad 0 0)), (2, .ref (ad 21 0)), (3, .int (nI k))]) (kk : ∀ (H : Heap) (locs : List Loc) (ls : Array Slot) , z_G D C ad H0 S H locs → lv_has ls 4 [(0, .ref b), (1, .ref (ad 0 0)), (2, .ref (ad 21 0)), (3, .int (nI k))] → W p l e rm_L_law s m args below meth c H locs 81 3500 Q (F0 m 746 ls [])) : W p l e rm_L_law s m args below meth c H locs 81 3500 Q (F0 m 602 ls []) := by
  obtain ⟨hx, hb, hml, hown, hts⟩ := hF.1
  refine lv_aload_n hx hb d_L_law_602 rfl (lv_at hl 1 rfl) ?_
  refine lv_aload_n hx hb d_L_law_603 rfl (lv_at hl 0 rfl) ?_
  refine lv_iload_n hx hb d_L_law_604 rfl (lv_at hl 3 rfl) ?_
  refine lv_iconst (v := 1) hx hb d_L_law_605 z_k1 ?_
  refine lv_iadd hx hb d_L_law_606 ?_
  refine z_topi (y := (nI (k + 1))) (nI_add k 1) ?_
  refine z_sld (j := (k + 1)) hx hb hX hbl hbA hG (nI_clamp (by omega)) (vp_in_nI (by omega) (by omega)) d_L_law_607 ?_
  refine kc_L_75 hF (c_X_result l D C ad hF.2.2 _ _ hok) hG ⟨Nat.le_of_ble_eq_true rfl, Nat.le_of_ble_eq_true rfl⟩ ⟨Nat.le_of_ble_eq_true rfl, Nat.le_of_ble_eq_true rfl⟩ hl.1 (Nat.le_of_ble_eq_true rfl) d_L_law_608 (fun H locs hG => ?_)
  refine lv_aload_n hx hb d_L_law_611 rfl (lv_at hl 2 rfl) ?_
  refine lv_aload_n hx hb d_L_law_612 rfl (lv_at hl 0 rfl) ?_
  refine lv_iload_n hx hb d_L_law_613 rfl (lv_at hl 3 rfl) ?_
  refine lv_iconst (v := 1) hx hb d_L_law_614 z_k1 ?_
  refine lv_iadd hx hb d_L_law_615 ?_
  refine z_topi (y := (nI (k + 1))) (nI_add k 1) ?_
  refine z_sld (j := (k + 1)) hx hb hX hbl hbA hG (nI_clamp (by omega)) (vp_in_nI (by omega) (by omega)) d_L_law_616 ?_
  refine kc_L_78 hF (c_M_result l D C ad hF.2.2 _ _ hom) hG ⟨Nat.le_of_ble_eq_true rfl, Nat.le_of_ble_eq_true rfl⟩ ⟨Nat.le_of_ble_eq_true rfl, Nat.le_of_ble_eq_true rfl⟩ hl.1 (Nat.le_of_ble_eq_true rfl) d_L_law_617 (fun H locs hG => ?_)
  refine lv_icmp_eq (tgt := 746) hx hb d_L_law_620 rfl (fun _ => ?_) (fun h => absurd h (not_not_intro hq))
  exact kk _ _ _  hG (lv_sub hl [0, 1, 2, 3] rfl) 
def rg_L_law_625_S1 (S : z_S) (k : Nat) (xs : Nat → Int32) : z_S := (g_M_close (g_X_close S (xs (k + 1))) (xs (k + 1)))
set_option maxHeartbeats 4000000 in
set_option maxRecDepth 100000 in
theorem rg_L_law_625 {D : va_G} {C : Nat → ClassId} {ad : Nat → Nat → Nat} {S : z_S} {p : Program} {l : Launch} {e : Env} {s : State} {m : MethodId} {args : Array Value} {below : List Frame} {meth : Method} {c : Code} {H H0 : Heap} {locs : List Loc} {Q : State → Prop} {ls : Array Slot} {k : Nat} {b L : Nat} {xs : Nat → Int32} (hF : z_F D C ad p m c b_L_law 4 s args R_L)  (hX : va_X b L xs s H0) (hbl : b < H0.size) (hbA : ¬ z_A ad b) (hk : k + 6 ≤ L) (hL : L ≤ 3072) (hq : (f_X_close S (xs (k + 1))) = (f_M_close (g_X_close S (xs (k + 1))) (xs (k + 1)))) (hG : z_G D C ad H0 S H locs) (hl : lv_has ls 4 [(0, .ref b), (1, .ref (ad 0 0)), (2, .ref (ad 21 0)), (3, .int (nI k))]) (kk : ∀ (H : Heap) (locs : List Loc) (ls : Array Slot) (S1 : z_S), z_G D C ad H0 S1 H locs → lv_has ls 4 [(0, .ref b), (1, .ref (ad 0 0)), (2, .ref (ad 21 0)), (3, .int (nI k))] → rg_L_law_625_S1 S k xs = S1 → W p l e rm_L_law s m args below meth c H locs 81 3500 Q (F0 m 746 ls [])) : W p l e rm_L_law s m args below meth c H locs 81 3500 Q (F0 m 625 ls []) := by
  obtain ⟨hx, hb, hml, hown, hts⟩ := hF.1
  refine lv_aload_n hx hb d_L_law_625 rfl (lv_at hl 1 rfl) ?_
  refine lv_aload_n hx hb d_L_law_626 rfl (lv_at hl 0 rfl) ?_
  refine lv_iload_n hx hb d_L_law_627 rfl (lv_at hl 3 rfl) ?_
  refine lv_iconst (v := 1) hx hb d_L_law_628 z_k1 ?_
  refine lv_iadd hx hb d_L_law_629 ?_
  refine z_topi (y := (nI (k + 1))) (nI_add k 1) ?_
  refine z_sld (j := (k + 1)) hx hb hX hbl hbA hG (nI_clamp (by omega)) (vp_in_nI (by omega) (by omega)) d_L_law_630 ?_
  refine kc_L_79 hF (c_X_close l D C ad hF.2.2 _ _ ) hG ⟨Nat.le_of_ble_eq_true rfl, Nat.le_of_ble_eq_true rfl⟩ ⟨Nat.le_of_ble_eq_true rfl, Nat.le_of_ble_eq_true rfl⟩ hl.1 (Nat.le_of_ble_eq_true rfl) d_L_law_631 (fun H locs hG => ?_)
  refine lv_aload_n hx hb d_L_law_634 rfl (lv_at hl 2 rfl) ?_
  refine lv_aload_n hx hb d_L_law_635 rfl (lv_at hl 0 rfl) ?_
  refine lv_iload_n hx hb d_L_law_636 rfl (lv_at hl 3 rfl) ?_
  refine lv_iconst (v := 1) hx hb d_L_law_637 z_k1 ?_
  refine lv_iadd hx hb d_L_law_638 ?_
  refine z_topi (y := (nI (k + 1))) (nI_add k 1) ?_
  refine z_sld (j := (k + 1)) hx hb hX hbl hbA hG (nI_clamp (by omega)) (vp_in_nI (by omega) (by omega)) d_L_law_639 ?_
  refine kc_L_82 hF (c_M_close l D C ad hF.2.2 _ _ ) hG ⟨Nat.le_of_ble_eq_true rfl, Nat.le_of_ble_eq_true rfl⟩ ⟨Nat.le_of_ble_eq_true rfl, Nat.le_of_ble_eq_true rfl⟩ hl.1 (Nat.le_of_ble_eq_true rfl) d_L_law_640 (fun H locs hG => ?_)
  refine lv_icmp_eq (tgt := 746) hx hb d_L_law_643 rfl (fun _ => ?_) (fun h => absurd h (not_not_intro hq))
  exact kk _ _ _ _ hG (lv_sub hl [0, 1, 2, 3] rfl) rfl
def rg_L_law_648_S1 (S : z_S) (k : Nat) (xs : Nat → Int32) : z_S := (g_M_open (g_X_open S (xs (k + 1))) (xs (k + 1)))
set_option maxHeartbeats 4000000 in
set_option maxRecDepth 100000 in
theorem rg_L_law_648 {D : va_G} {C : Nat → ClassId} {ad : Nat → Nat → Nat} {S : z_S} {p : Program} {l : Launch} {e : Env} {s : State} {m : MethodId} {args : Array Value} {below : List Frame} {meth : Method} {c : Code} {H H0 : Heap} {locs : List Loc} {Q : State → Prop} {ls : Array Slot} {k : Nat} {b L : Nat} {xs : Nat → Int32} (hF : z_F D C ad p m c b_L_law 4 s args R_L)  (hX : va_X b L xs s H0) (hbl : b < H0.size) (hbA : ¬ z_A ad b) (hk : k + 6 ≤ L) (hL : L ≤ 3072) (hq : (f_X_open S (xs (k + 1))) = (f_M_open (g_X_open S (xs (k + 1))) (xs (k + 1)))) (hG : z_G D C ad H0 S H locs) (hl : lv_has ls 4 [(0, .ref b), (1, .ref (ad 0 0)), (2, .ref (ad 21 0)), (3, .int (nI k))]) (kk : ∀ (H : Heap) (locs : List Loc) (ls : Array Slot) (S1 : z_S), z_G D C ad H0 S1 H locs → lv_has ls 4 [(0, .ref b), (1, .ref (ad 0 0)), (2, .ref (ad 21 0)), (3, .int (nI k))] → rg_L_law_648_S1 S k xs = S1 → W p l e rm_L_law s m args below meth c H locs 81 3500 Q (F0 m 746 ls [])) : W p l e rm_L_law s m args below meth c H locs 81 3500 Q (F0 m 648 ls []) := by
  obtain ⟨hx, hb, hml, hown, hts⟩ := hF.1
  refine lv_aload_n hx hb d_L_law_648 rfl (lv_at hl 1 rfl) ?_
  refine lv_aload_n hx hb d_L_law_649 rfl (lv_at hl 0 rfl) ?_
  refine lv_iload_n hx hb d_L_law_650 rfl (lv_at hl 3 rfl) ?_
  refine lv_iconst (v := 1) hx hb d_L_law_651 z_k1 ?_
  refine lv_iadd hx hb d_L_law_652 ?_
  refine z_topi (y := (nI (k + 1))) (nI_add k 1) ?_
  refine z_sld (j := (k + 1)) hx hb hX hbl hbA hG (nI_clamp (by omega)) (vp_in_nI (by omega) (by omega)) d_L_law_653 ?_
  refine kc_L_83 hF (c_X_open l D C ad hF.2.2 _ _ ) hG ⟨Nat.le_of_ble_eq_true rfl, Nat.le_of_ble_eq_true rfl⟩ ⟨Nat.le_of_ble_eq_true rfl, Nat.le_of_ble_eq_true rfl⟩ hl.1 (Nat.le_of_ble_eq_true rfl) d_L_law_654 (fun H locs hG => ?_)
  refine lv_aload_n hx hb d_L_law_657 rfl (lv_at hl 2 rfl) ?_
  refine lv_aload_n hx hb d_L_law_658 rfl (lv_at hl 0 rfl) ?_
  refine lv_iload_n hx hb d_L_law_659 rfl (lv_at hl 3 rfl) ?_
  refine lv_iconst (v := 1) hx hb d_L_law_660 z_k1 ?_
  refine lv_iadd hx hb d_L_law_661 ?_
  refine z_topi (y := (nI (k + 1))) (nI_add k 1) ?_
  refine z_sld (j := (k + 1)) hx hb hX hbl hbA hG (nI_clamp (by omega)) (vp_in_nI (by omega) (by omega)) d_L_law_662 ?_
  refine kc_L_86 hF (c_M_open l D C ad hF.2.2 _ _ ) hG ⟨Nat.le_of_ble_eq_true rfl, Nat.le_of_ble_eq_true rfl⟩ ⟨Nat.le_of_ble_eq_true rfl, Nat.le_of_ble_eq_true rfl⟩ hl.1 (Nat.le_of_ble_eq_true rfl) d_L_law_663 (fun H locs hG => ?_)
  refine lv_icmp_eq (tgt := 746) hx hb d_L_law_666 rfl (fun _ => ?_) (fun h => absurd h (not_not_intro hq))
  exact kk _ _ _ _ hG (lv_sub hl [0, 1, 2, 3] rfl) rfl
set_option maxHeartbeats 4000000 in
set_option maxRecDepth 100000 in
theorem rg_L_law_671 {D : va_G} {C : Nat → ClassId} {ad : Nat → Nat → Nat} {S : z_S} {p : Program} {l : Launch} {e : Env} {s : State} {m : MethodId} {args : Array Value} {below : List Frame} {meth : Method} {c : Code} {H H0 : Heap} {locs : List Loc} {Q : State → Prop} {ls : Array Slot} {k : Nat} {b L : Nat} {xs : Nat → Int32} (hF : z_F D C ad p m c b_L_law 4 s args R_L)  (hX : va_X b L xs s H0) (hbl : b < H0.size) (hbA : ¬ z_A ad b) (hk : k + 6 ≤ L) (hL : L ≤ 3072) (hq : (f_X_round S) = (f_M_round S)) (hG : z_G D C ad H0 S H locs) (hl : lv_has ls 4 [(0, .ref b), (1, .ref (ad 0 0)), (2, .ref (ad 21 0)), (3, .int (nI k))]) (kk : ∀ (H : Heap) (locs : List Loc) (ls : Array Slot) , z_G D C ad H0 S H locs → lv_has ls 4 [(0, .ref b), (1, .ref (ad 0 0)), (2, .ref (ad 21 0)), (3, .int (nI k))] → W p l e rm_L_law s m args below meth c H locs 81 3500 Q (F0 m 746 ls [])) : W p l e rm_L_law s m args below meth c H locs 81 3500 Q (F0 m 671 ls []) := by
  obtain ⟨hx, hb, hml, hown, hts⟩ := hF.1
  refine lv_aload_n hx hb d_L_law_671 rfl (lv_at hl 1 rfl) ?_
  refine kc_L_87 hF (c_X_round l D C ad hF.2.2 _ ) hG ⟨Nat.le_of_ble_eq_true rfl, Nat.le_of_ble_eq_true rfl⟩ ⟨Nat.le_of_ble_eq_true rfl, Nat.le_of_ble_eq_true rfl⟩ hl.1 (Nat.le_of_ble_eq_true rfl) d_L_law_672 (fun H locs hG => ?_)
  refine lv_aload_n hx hb d_L_law_675 rfl (lv_at hl 2 rfl) ?_
  refine kc_L_90 hF (c_M_round l D C ad hF.2.2 _ ) hG ⟨Nat.le_of_ble_eq_true rfl, Nat.le_of_ble_eq_true rfl⟩ ⟨Nat.le_of_ble_eq_true rfl, Nat.le_of_ble_eq_true rfl⟩ hl.1 (Nat.le_of_ble_eq_true rfl) d_L_law_676 (fun H locs hG => ?_)
  refine lv_icmp_eq (tgt := 746) hx hb d_L_law_679 rfl (fun _ => ?_) (fun h => absurd h (not_not_intro hq))
  exact kk _ _ _  hG (lv_sub hl [0, 1, 2, 3] rfl) 
set_option maxHeartbeats 4000000 in
set_option maxRecDepth 100000 in
theorem rg_L_law_684 {D : va_G} {C : Nat → ClassId} {ad : Nat → Nat → Nat} {S : z_S} {p : Program} {l : Launch} {e : Env} {s : State} {m : MethodId} {args : Array Value} {below : List Frame} {meth : Method} {c : Code} {H H0 : Heap} {locs : List Loc} {Q : State → Prop} {ls : Array Slot} {k : Nat} {b L : Nat} {xs : Nat → Int32} (hF : z_F D C ad p m c b_L_law 4 s args R_L)  (hX : va_X b L xs s H0) (hbl : b < H0.size) (hbA : ¬ z_A ad b) (hk : k + 6 ≤ L) (hL : L ≤ 3072) (hq : (f_X_done S) = (f_M_done S)) (hG : z_G D C ad H0 S H locs) (hl : lv_has ls 4 [(0, .ref b), (1, .ref (ad 0 0)), (2, .ref (ad 21 0)), (3, .int (nI k))]) (kk : ∀ (H : Heap) (locs : List Loc) (ls : Array Slot) , z_G D C ad H0 S H locs → lv_has ls 4 [(0, .ref b), (1, .ref (ad 0 0)), (2, .ref (ad 21 0)), (3, .int (nI k))] → W p l e rm_L_law s m args below meth c H locs 81 3500 Q (F0 m 746 ls [])) : W p l e rm_L_law s m args below meth c H locs 81 3500 Q (F0 m 684 ls []) := by
  obtain ⟨hx, hb, hml, hown, hts⟩ := hF.1
  refine lv_aload_n hx hb d_L_law_684 rfl (lv_at hl 1 rfl) ?_
  refine kc_L_91 hF (c_X_done l D C ad hF.2.2 _ ) hG ⟨Nat.le_of_ble_eq_true rfl, Nat.le_of_ble_eq_true rfl⟩ ⟨Nat.le_of_ble_eq_true rfl, Nat.le_of_ble_eq_true rfl⟩ hl.1 (Nat.le_of_ble_eq_true rfl) d_L_law_685 (fun H locs hG => ?_)
  refine lv_aload_n hx hb d_L_law_688 rfl (lv_at hl 2 rfl) ?_
  refine kc_L_94 hF (c_M_done l D C ad hF.2.2 _ ) hG ⟨Nat.le_of_ble_eq_true rfl, Nat.le_of_ble_eq_true rfl⟩ ⟨Nat.le_of_ble_eq_true rfl, Nat.le_of_ble_eq_true rfl⟩ hl.1 (Nat.le_of_ble_eq_true rfl) d_L_law_689 (fun H locs hG => ?_)
  refine lv_icmp_eq (tgt := 746) hx hb d_L_law_692 rfl (fun _ => ?_) (fun h => absurd h (not_not_intro hq))
  exact kk _ _ _  hG (lv_sub hl [0, 1, 2, 3] rfl) 
set_option maxHeartbeats 4000000 in
set_option maxRecDepth 100000 in
theorem rg_L_law_697 {D : va_G} {C : Nat → ClassId} {ad : Nat → Nat → Nat} {S : z_S} {p : Program} {l : Launch} {e : Env} {s : State} {m : MethodId} {args : Array Value} {below : List Frame} {meth : Method} {c : Code} {H H0 : Heap} {locs : List Loc} {Q : State → Prop} {ls : Array Slot} {k : Nat} {b L : Nat} {xs : Nat → Int32} (hF : z_F D C ad p m c b_L_law 4 s args R_L)  (hX : va_X b L xs s H0) (hbl : b < H0.size) (hbA : ¬ z_A ad b) (hk : k + 6 ≤ L) (hL : L ≤ 3072) (hq : (f_X_parts S) = (f_M_parts S)) (hG : z_G D C ad H0 S H locs) (hl : lv_has ls 4 [(0, .ref b), (1, .ref (ad 0 0)), (2, .ref (ad 21 0)), (3, .int (nI k))]) (kk : ∀ (H : Heap) (locs : List Loc) (ls : Array Slot) , z_G D C ad H0 S H locs → lv_has ls 4 [(0, .ref b), (1, .ref (ad 0 0)), (2, .ref (ad 21 0)), (3, .int (nI k))] → W p l e rm_L_law s m args below meth c H locs 81 3500 Q (F0 m 746 ls [])) : W p l e rm_L_law s m args below meth c H locs 81 3500 Q (F0 m 697 ls []) := by
  obtain ⟨hx, hb, hml, hown, hts⟩ := hF.1
  refine lv_aload_n hx hb d_L_law_697 rfl (lv_at hl 1 rfl) ?_
  refine kc_L_95 hF (c_X_parts l D C ad hF.2.2 _ ) hG ⟨Nat.le_of_ble_eq_true rfl, Nat.le_of_ble_eq_true rfl⟩ ⟨Nat.le_of_ble_eq_true rfl, Nat.le_of_ble_eq_true rfl⟩ hl.1 (Nat.le_of_ble_eq_true rfl) d_L_law_698 (fun H locs hG => ?_)
  refine lv_aload_n hx hb d_L_law_701 rfl (lv_at hl 2 rfl) ?_
  refine kc_L_98 hF (c_M_parts l D C ad hF.2.2 _ ) hG ⟨Nat.le_of_ble_eq_true rfl, Nat.le_of_ble_eq_true rfl⟩ ⟨Nat.le_of_ble_eq_true rfl, Nat.le_of_ble_eq_true rfl⟩ hl.1 (Nat.le_of_ble_eq_true rfl) d_L_law_702 (fun H locs hG => ?_)
  refine lv_icmp_eq (tgt := 746) hx hb d_L_law_705 rfl (fun _ => ?_) (fun h => absurd h (not_not_intro hq))
  exact kk _ _ _  hG (lv_sub hl [0, 1, 2, 3] rfl) 
set_option maxHeartbeats 4000000 in
set_option maxRecDepth 100000 in
theorem rg_L_law_710 {D : va_G} {C : Nat → ClassId} {ad : Nat → Nat → Nat} {S : z_S} {p : Program} {l : Launch} {e : Env} {s : State} {m : MethodId} {args : Array Value} {below : List Frame} {meth : Method} {c : Code} {H H0 : Heap} {locs : List Loc} {Q : State → Prop} {ls : Array Slot} {k : Nat} {b L : Nat} {xs : Nat → Int32} (hF : z_F D C ad p m c b_L_law 4 s args R_L)  (hX : va_X b L xs s H0) (hbl : b < H0.size) (hbA : ¬ z_A ad b) (hk : k + 6 ≤ L) (hL : L ≤ 3072) (hq : (f_X_mends S (xs (k + 1))) = (f_M_mends S (xs (k + 1)))) (hG : z_G D C ad H0 S H locs) (hl : lv_has ls 4 [(0, .ref b), (1, .ref (ad 0 0)), (2, .ref (ad 21 0)), (3, .int (nI k))]) (kk : ∀ (H : Heap) (locs : List Loc) (ls : Array Slot) , z_G D C ad H0 S H locs → lv_has ls 4 [(0, .ref b), (1, .ref (ad 0 0)), (2, .ref (ad 21 0)), (3, .int (nI k))] → W p l e rm_L_law s m args below meth c H locs 81 3500 Q (F0 m 746 ls [])) : W p l e rm_L_law s m args below meth c H locs 81 3500 Q (F0 m 710 ls []) := by
  obtain ⟨hx, hb, hml, hown, hts⟩ := hF.1
  refine lv_aload_n hx hb d_L_law_710 rfl (lv_at hl 1 rfl) ?_
  refine lv_aload_n hx hb d_L_law_711 rfl (lv_at hl 0 rfl) ?_
  refine lv_iload_n hx hb d_L_law_712 rfl (lv_at hl 3 rfl) ?_
  refine lv_iconst (v := 1) hx hb d_L_law_713 z_k1 ?_
  refine lv_iadd hx hb d_L_law_714 ?_
  refine z_topi (y := (nI (k + 1))) (nI_add k 1) ?_
  refine z_sld (j := (k + 1)) hx hb hX hbl hbA hG (nI_clamp (by omega)) (vp_in_nI (by omega) (by omega)) d_L_law_715 ?_
  refine kc_L_99 hF (c_X_mends l D C ad hF.2.2 _ _ ) hG ⟨Nat.le_of_ble_eq_true rfl, Nat.le_of_ble_eq_true rfl⟩ ⟨Nat.le_of_ble_eq_true rfl, Nat.le_of_ble_eq_true rfl⟩ hl.1 (Nat.le_of_ble_eq_true rfl) d_L_law_716 (fun H locs hG => ?_)
  refine lv_aload_n hx hb d_L_law_719 rfl (lv_at hl 2 rfl) ?_
  refine lv_aload_n hx hb d_L_law_720 rfl (lv_at hl 0 rfl) ?_
  refine lv_iload_n hx hb d_L_law_721 rfl (lv_at hl 3 rfl) ?_
  refine lv_iconst (v := 1) hx hb d_L_law_722 z_k1 ?_
  refine lv_iadd hx hb d_L_law_723 ?_
  refine z_topi (y := (nI (k + 1))) (nI_add k 1) ?_
  refine z_sld (j := (k + 1)) hx hb hX hbl hbA hG (nI_clamp (by omega)) (vp_in_nI (by omega) (by omega)) d_L_law_724 ?_
  refine kc_L_102 hF (c_M_mends l D C ad hF.2.2 _ _ ) hG ⟨Nat.le_of_ble_eq_true rfl, Nat.le_of_ble_eq_true rfl⟩ ⟨Nat.le_of_ble_eq_true rfl, Nat.le_of_ble_eq_true rfl⟩ hl.1 (Nat.le_of_ble_eq_true rfl) d_L_law_725 (fun H locs hG => ?_)
  refine lv_icmp_eq (tgt := 746) hx hb d_L_law_728 rfl (fun _ => ?_) (fun h => absurd h (not_not_intro hq))
  exact kk _ _ _  hG (lv_sub hl [0, 1, 2, 3] rfl) 
set_option maxHeartbeats 4000000 in
set_option maxRecDepth 100000 in
theorem rg_L_law_733 {D : va_G} {C : Nat → ClassId} {ad : Nat → Nat → Nat} {S : z_S} {p : Program} {l : Launch} {e : Env} {s : State} {m : MethodId} {args : Array Value} {below : List Frame} {meth : Method} {c : Code} {H H0 : Heap} {locs : List Loc} {Q : State → Prop} {ls : Array Slot} {k : Nat} {b L : Nat} {xs : Nat → Int32} (hF : z_F D C ad p m c b_L_law 4 s args R_L)  (hX : va_X b L xs s H0) (hbl : b < H0.size) (hbA : ¬ z_A ad b) (hk : k + 6 ≤ L) (hL : L ≤ 3072) (hq : (f_X_disputes S) = (f_M_disputes S)) (hG : z_G D C ad H0 S H locs) (hl : lv_has ls 4 [(0, .ref b), (1, .ref (ad 0 0)), (2, .ref (ad 21 0)), (3, .int (nI k))]) (kk : ∀ (H : Heap) (locs : List Loc) (ls : Array Slot) , z_G D C ad H0 S H locs → lv_has ls 4 [(0, .ref b), (1, .ref (ad 0 0)), (2, .ref (ad 21 0)), (3, .int (nI k))] → W p l e rm_L_law s m args below meth c H locs 81 3500 Q (F0 m 746 ls [])) : W p l e rm_L_law s m args below meth c H locs 81 3500 Q (F0 m 733 ls []) := by
  obtain ⟨hx, hb, hml, hown, hts⟩ := hF.1
  refine lv_aload_n hx hb d_L_law_733 rfl (lv_at hl 1 rfl) ?_
  refine kc_L_103 hF (c_X_disputes l D C ad hF.2.2 _ ) hG ⟨Nat.le_of_ble_eq_true rfl, Nat.le_of_ble_eq_true rfl⟩ ⟨Nat.le_of_ble_eq_true rfl, Nat.le_of_ble_eq_true rfl⟩ hl.1 (Nat.le_of_ble_eq_true rfl) d_L_law_734 (fun H locs hG => ?_)
  refine lv_aload_n hx hb d_L_law_737 rfl (lv_at hl 2 rfl) ?_
  refine kc_L_106 hF (c_M_disputes l D C ad hF.2.2 _ ) hG ⟨Nat.le_of_ble_eq_true rfl, Nat.le_of_ble_eq_true rfl⟩ ⟨Nat.le_of_ble_eq_true rfl, Nat.le_of_ble_eq_true rfl⟩ hl.1 (Nat.le_of_ble_eq_true rfl) d_L_law_738 (fun H locs hG => ?_)
  refine lv_icmp_eq (tgt := 746) hx hb d_L_law_741 rfl (fun _ => ?_) (fun h => absurd h (not_not_intro hq))
  exact kk _ _ _  hG (lv_sub hl [0, 1, 2, 3] rfl) 
