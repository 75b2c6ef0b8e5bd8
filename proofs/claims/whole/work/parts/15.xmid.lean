def rg_X_sendToAwaited_47_S1 (S : z_S) (v1 : Nat) (v3 : Int32) (v4 : Nat) (v6 : Int32) : z_S := (if (S.1 16 v4 v6.toNatClampNeg) = 0 then (g_R_add S v3 (S.1 14 v1 0) v6 0) else S)
def rg_X_sendToAwaited_47_u5 (S : z_S) (v4 : Nat) (v5 : Int32) (v6 : Int32) : Int32 := (if (S.1 16 v4 v6.toNatClampNeg) = 0 then (v5 + 1) else v5)
set_option maxHeartbeats 4000000 in
set_option maxRecDepth 100000 in
theorem rg_X_sendToAwaited_47 {D : va_G} {C : Nat → ClassId} {ad : Nat → Nat → Nat} {S : z_S} {p : Program} {l : Launch} {e : Env} {s : State} {m : MethodId} {args : Array Value} {below : List Frame} {meth : Method} {c : Code} {H H0 : Heap} {locs : List Loc} {Q : State → Prop} {ls : Array Slot} {v1 : Nat} {v3 : Int32} {v4 : Nat} {v5 : Int32} {v6 : Int32}  (hF : z_F D C ad p m c b_X_sendToAwaited 7 s args R_X) (hv1 : v1 < z_n 14) (hv4 : v4 < z_n 15) (hok : z_Ok S) (hv : vp_in v6 3) (hG : z_G D C ad H0 S H locs) (hl : lv_has ls 7 [(0, .ref (ad 0 0)), (1, .ref (ad 14 v1)), (3, .int v3), (4, .ref (ad 15 v4)), (5, .int v5), (6, .int v6)]) (kk : ∀ (H : Heap) (locs : List Loc) (ls : Array Slot) (S1 : z_S) (u5 : Int32), z_G D C ad H0 S1 H locs → lv_has ls 7 [(0, .ref (ad 0 0)), (1, .ref (ad 14 v1)), (3, .int v3), (4, .ref (ad 15 v4)), (5, .int u5), (6, .int v6)] → rg_X_sendToAwaited_47_S1 S v1 v3 v4 v6 = S1 → rg_X_sendToAwaited_47_u5 S v4 v5 v6 = u5 → W p l e rm_X_sendToAwaited s m args below meth c H locs 0 0 Q (F0 m 76 ls [])) : W p l e rm_X_sendToAwaited s m args below meth c H locs 0 0 Q (F0 m 47 ls []) := by
  obtain ⟨hx, hb, hml, hown, hts⟩ := hF.1
  refine lv_aload hx hb d_X_sendToAwaited_47 (lv_at hl 3 rfl) ?_
  refine gf_X_168_15 hF hG hv4 d_X_sendToAwaited_49 ?_
  refine lv_iload hx hb d_X_sendToAwaited_52 (lv_at hl 5 rfl) ?_
  refine z_zald (n := 3) (j := v6.toNatClampNeg) (v := (S.1 16 v4 v6.toNatClampNeg)) hF hG hv4 (z_c16 C ad _ _ _) rfl hv rfl d_X_sendToAwaited_54 ?_
  refine lv_if_ne (tgt := 76) hx hb d_X_sendToAwaited_55 rfl (fun h55 => ?_) (fun h55 => ?_)
  ·
    exact kk _ _ _ _ _ hG (lv_sub hl [0, 1, 2, 3, 4, 5] rfl) ((if_neg h55).trans rfl) ((if_neg h55).trans rfl)
  ·
    refine lv_aload_n hx hb d_X_sendToAwaited_58 rfl (lv_at hl 0 rfl) ?_
    refine gf_X_22_0 hF hG d_X_sendToAwaited_59 ?_
    refine lv_iload_n hx hb d_X_sendToAwaited_62 rfl (lv_at hl 2 rfl) ?_
    refine lv_aload_n hx hb d_X_sendToAwaited_63 rfl (lv_at hl 1 rfl) ?_
    refine gf_X_155_14 hF hG hv1 (v := (S.1 14 v1 0)) rfl d_X_sendToAwaited_64 ?_
    refine lv_iload hx hb d_X_sendToAwaited_67 (lv_at hl 5 rfl) ?_
    refine lv_lconst (v := 0) hx hb d_X_sendToAwaited_69 rfl ?_
    refine kc_X_132 hF (c_R_add l D C ad hF.2.2 _ _ _ _ _ (z_okc hok)) hG ⟨Nat.le_of_ble_eq_true rfl, Nat.le_of_ble_eq_true rfl⟩ ⟨Nat.zero_le _, Nat.zero_le _⟩ hl.1 (Nat.le_of_ble_eq_true rfl) d_X_sendToAwaited_70 (fun H locs hG => ?_)
    refine lv_iinc (k := 4) (v := (v5 + 1)) (lv' := [(5, .int (v5 + 1)), (0, .ref (ad 0 0)), (1, .ref (ad 14 v1)), (3, .int v3), (4, .ref (ad 15 v4)), (6, .int v6)]) hx hb d_X_sendToAwaited_73 hl rfl (by rw [z_k1]) (Nat.le_of_ble_eq_true rfl) rfl (fun ls hl => ?_)
    exact kk _ _ _ _ _ hG (lv_sub hl [1, 2, 3, 4, 0, 5] rfl) ((if_pos h55).trans rfl) ((if_pos h55).trans rfl)
theorem ok_rg_X_sendToAwaited_47 {S : z_S} {v1 : Nat} {v3 : Int32} {v4 : Nat} {v6 : Int32} (hok : z_Ok S) (hv : vp_in v6 3) : z_Ok (rg_X_sendToAwaited_47_S1 S v1 v3 v4 v6) := by
  unfold rg_X_sendToAwaited_47_S1
  split
  · exact ok_R_add hok hv
  · exact hok
def rg_X_sendToAwaited_47_1_S1 (S : z_S) (v1 : Nat) (v3 : Int32) (v4 : Nat) (v6 : Int32) : z_S := (if (S.1 19 v4 v6.toNatClampNeg) = 0 then (g_R_add S v3 (S.1 14 v1 0) v6 0) else S)
def rg_X_sendToAwaited_47_1_u5 (S : z_S) (v4 : Nat) (v5 : Int32) (v6 : Int32) : Int32 := (if (S.1 19 v4 v6.toNatClampNeg) = 0 then (v5 + 1) else v5)
set_option maxHeartbeats 4000000 in
set_option maxRecDepth 100000 in
theorem rg_X_sendToAwaited_47_1 {D : va_G} {C : Nat → ClassId} {ad : Nat → Nat → Nat} {S : z_S} {p : Program} {l : Launch} {e : Env} {s : State} {m : MethodId} {args : Array Value} {below : List Frame} {meth : Method} {c : Code} {H H0 : Heap} {locs : List Loc} {Q : State → Prop} {ls : Array Slot} {v1 : Nat} {v3 : Int32} {v4 : Nat} {v5 : Int32} {v6 : Int32}  (hF : z_F D C ad p m c b_X_sendToAwaited 7 s args R_X) (hv1 : v1 < z_n 14) (hv4 : v4 < z_n 18) (hok : z_Ok S) (hv : vp_in v6 3) (hG : z_G D C ad H0 S H locs) (hl : lv_has ls 7 [(0, .ref (ad 0 0)), (1, .ref (ad 14 v1)), (3, .int v3), (4, .ref (ad 18 v4)), (5, .int v5), (6, .int v6)]) (kk : ∀ (H : Heap) (locs : List Loc) (ls : Array Slot) (S1 : z_S) (u5 : Int32), z_G D C ad H0 S1 H locs → lv_has ls 7 [(0, .ref (ad 0 0)), (1, .ref (ad 14 v1)), (3, .int v3), (4, .ref (ad 18 v4)), (5, .int u5), (6, .int v6)] → rg_X_sendToAwaited_47_1_S1 S v1 v3 v4 v6 = S1 → rg_X_sendToAwaited_47_1_u5 S v4 v5 v6 = u5 → W p l e rm_X_sendToAwaited s m args below meth c H locs 0 0 Q (F0 m 76 ls [])) : W p l e rm_X_sendToAwaited s m args below meth c H locs 0 0 Q (F0 m 47 ls []) := by
  obtain ⟨hx, hb, hml, hown, hts⟩ := hF.1
  refine lv_aload hx hb d_X_sendToAwaited_47 (lv_at hl 3 rfl) ?_
  refine gf_X_168_18 hF hG hv4 d_X_sendToAwaited_49 ?_
  refine lv_iload hx hb d_X_sendToAwaited_52 (lv_at hl 5 rfl) ?_
  refine z_zald (n := 3) (j := v6.toNatClampNeg) (v := (S.1 19 v4 v6.toNatClampNeg)) hF hG hv4 (z_c19 C ad _ _ _) rfl hv rfl d_X_sendToAwaited_54 ?_
  refine lv_if_ne (tgt := 76) hx hb d_X_sendToAwaited_55 rfl (fun h55 => ?_) (fun h55 => ?_)
  ·
    exact kk _ _ _ _ _ hG (lv_sub hl [0, 1, 2, 3, 4, 5] rfl) ((if_neg h55).trans rfl) ((if_neg h55).trans rfl)
  ·
    refine lv_aload_n hx hb d_X_sendToAwaited_58 rfl (lv_at hl 0 rfl) ?_
    refine gf_X_22_0 hF hG d_X_sendToAwaited_59 ?_
    refine lv_iload_n hx hb d_X_sendToAwaited_62 rfl (lv_at hl 2 rfl) ?_
    refine lv_aload_n hx hb d_X_sendToAwaited_63 rfl (lv_at hl 1 rfl) ?_
    refine gf_X_155_14 hF hG hv1 (v := (S.1 14 v1 0)) rfl d_X_sendToAwaited_64 ?_
    refine lv_iload hx hb d_X_sendToAwaited_67 (lv_at hl 5 rfl) ?_
    refine lv_lconst (v := 0) hx hb d_X_sendToAwaited_69 rfl ?_
    refine kc_X_132 hF (c_R_add l D C ad hF.2.2 _ _ _ _ _ (z_okc hok)) hG ⟨Nat.le_of_ble_eq_true rfl, Nat.le_of_ble_eq_true rfl⟩ ⟨Nat.zero_le _, Nat.zero_le _⟩ hl.1 (Nat.le_of_ble_eq_true rfl) d_X_sendToAwaited_70 (fun H locs hG => ?_)
    refine lv_iinc (k := 4) (v := (v5 + 1)) (lv' := [(5, .int (v5 + 1)), (0, .ref (ad 0 0)), (1, .ref (ad 14 v1)), (3, .int v3), (4, .ref (ad 18 v4)), (6, .int v6)]) hx hb d_X_sendToAwaited_73 hl rfl (by rw [z_k1]) (Nat.le_of_ble_eq_true rfl) rfl (fun ls hl => ?_)
    exact kk _ _ _ _ _ hG (lv_sub hl [1, 2, 3, 4, 0, 5] rfl) ((if_pos h55).trans rfl) ((if_pos h55).trans rfl)
theorem ok_rg_X_sendToAwaited_47_1 {S : z_S} {v1 : Nat} {v3 : Int32} {v4 : Nat} {v6 : Int32} (hok : z_Ok S) (hv : vp_in v6 3) : z_Ok (rg_X_sendToAwaited_47_1_S1 S v1 v3 v4 v6) := by
  unfold rg_X_sendToAwaited_47_1_S1
  split
  · exact ok_R_add hok hv
  · exact hok
def f_X_sendToAwaited (S : z_S) (x0 : Nat) : Int32 := (if (f_A_isComplete_15 S x0) = 0 then (rg_X_sendToAwaited_47_u5 (rg_X_sendToAwaited_47_S1 (rg_X_sendToAwaited_47_S1 S x0 1 x0 0) x0 1 x0 1) x0 (rg_X_sendToAwaited_47_u5 (rg_X_sendToAwaited_47_S1 S x0 1 x0 0) x0 (rg_X_sendToAwaited_47_u5 S x0 0 0) 1) 2) else (rg_X_sendToAwaited_47_1_u5 (rg_X_sendToAwaited_47_1_S1 (rg_X_sendToAwaited_47_1_S1 S x0 3 x0 0) x0 3 x0 1) x0 (rg_X_sendToAwaited_47_1_u5 (rg_X_sendToAwaited_47_1_S1 S x0 3 x0 0) x0 (rg_X_sendToAwaited_47_1_u5 S x0 0 0) 1) 2))
def g_X_sendToAwaited (S : z_S) (x0 : Nat) : z_S := (if (f_A_isComplete_15 S x0) = 0 then (rg_X_sendToAwaited_47_S1 (rg_X_sendToAwaited_47_S1 (rg_X_sendToAwaited_47_S1 S x0 1 x0 0) x0 1 x0 1) x0 1 x0 2) else (rg_X_sendToAwaited_47_1_S1 (rg_X_sendToAwaited_47_1_S1 (rg_X_sendToAwaited_47_1_S1 S x0 3 x0 0) x0 3 x0 1) x0 3 x0 2))
set_option maxHeartbeats 4000000 in
set_option maxRecDepth 100000 in
theorem c_X_sendToAwaited (l : Launch) (D : va_G) (C : Nat → ClassId) (ad : Nat → Nat → Nat) (hJ : z_J ad) (S : z_S) (x0 : Nat) (hx0 : x0 < z_n 14) (hok : z_Ok S) : z_M l y_X_sendToAwaited b_X_sendToAwaited 7 (some .int) rm_X_sendToAwaited D C ad [.ref (ad 0 0), .ref (ad 14 x0)] S (z_Qi D C ad (f_X_sendToAwaited S x0) (g_X_sendToAwaited S x0)) := by
  refine z_enter (by decide) (Nat.le_of_ble_eq_true rfl) hJ ?_
  intro p e s m below meth c ls hF hr hlk hl hG
  obtain ⟨hx, hb, hml, hown, hts⟩ := hF.1
  have hl : lv_has ls 7 [(0, .ref (ad 0 0)), (1, .ref (ad 14 x0))] := hl
  refine lv_aload_n hx hb d_X_sendToAwaited_0 rfl (lv_at hl 1 rfl) ?_
  refine gf_X_156_14 hF hG hx0 d_X_sendToAwaited_1 ?_
  refine kc_X_160_15 hF (c_A_isComplete_15 l D C ad hF.2.2 _ _ hx0 ) hG hx0 ⟨Nat.le_of_ble_eq_true rfl, Nat.le_of_ble_eq_true rfl⟩ ⟨Nat.zero_le _, Nat.zero_le _⟩ hl.1 (Nat.le_of_ble_eq_true rfl) d_X_sendToAwaited_4 (fun H locs hG => ?_)
  refine lv_istore_n (lv' := [(2, .int (f_A_isComplete_15 S x0)), (0, .ref (ad 0 0)), (1, .ref (ad 14 x0))]) hx hb d_X_sendToAwaited_7 rfl hl (Nat.le_of_ble_eq_true rfl) rfl (fun ls hl => ?_)
  refine lv_iload_n hx hb d_X_sendToAwaited_8 rfl (lv_at hl 0 rfl) ?_
  refine lv_if_eq (tgt := 16) hx hb d_X_sendToAwaited_9 rfl (fun h9 => ?_) (fun h9 => ?_)
  ·
    refine lv_iconst (v := 1) hx hb d_X_sendToAwaited_16 z_k1 ?_
    refine lv_istore_n (lv' := [(3, .int 1), (2, .int (f_A_isComplete_15 S x0)), (0, .ref (ad 0 0)), (1, .ref (ad 14 x0))]) hx hb d_X_sendToAwaited_17 rfl hl (Nat.le_of_ble_eq_true rfl) rfl (fun ls hl => ?_)
    refine lv_iload_n hx hb d_X_sendToAwaited_18 rfl (lv_at hl 1 rfl) ?_
    refine lv_if_eq (tgt := 29) hx hb d_X_sendToAwaited_19 rfl (fun _ => ?_) (fun h => absurd h9 h)
    refine lv_aload_n hx hb d_X_sendToAwaited_29 rfl (lv_at hl 3 rfl) ?_
    refine gf_X_156_14 hF hG hx0 d_X_sendToAwaited_30 ?_
    refine lv_astore (lv' := [(4, .ref (ad 15 x0)), (3, .int 1), (2, .int (f_A_isComplete_15 S x0)), (0, .ref (ad 0 0)), (1, .ref (ad 14 x0))]) hx hb d_X_sendToAwaited_33 hl (Nat.le_of_ble_eq_true rfl) rfl (fun ls hl => ?_)
    refine lv_iconst (v := 0) hx hb d_X_sendToAwaited_35 z_k0 ?_
    refine lv_istore (lv' := [(5, .int 0), (4, .ref (ad 15 x0)), (3, .int 1), (2, .int (f_A_isComplete_15 S x0)), (0, .ref (ad 0 0)), (1, .ref (ad 14 x0))]) hx hb d_X_sendToAwaited_36 hl (Nat.le_of_ble_eq_true rfl) rfl (fun ls hl => ?_)
    refine lv_iconst (v := 0) hx hb d_X_sendToAwaited_38 z_k0 ?_
    refine lv_istore (lv' := [(6, .int 0), (5, .int 0), (4, .ref (ad 15 x0)), (3, .int 1), (2, .int (f_A_isComplete_15 S x0)), (0, .ref (ad 0 0)), (1, .ref (ad 14 x0))]) hx hb d_X_sendToAwaited_39 hl (Nat.le_of_ble_eq_true rfl) rfl (fun ls hl => ?_)
    refine lv_iload hx hb d_X_sendToAwaited_41 (lv_at hl 0 rfl) ?_
    refine lv_iconst (v := 3) hx hb d_X_sendToAwaited_43 z_k3 ?_
    refine lv_icmp_ge (tgt := 82) hx hb d_X_sendToAwaited_44 rfl (fun h => absurd h (by decide)) (fun _ => ?_)
    refine rg_X_sendToAwaited_47 hF hx0 hx0 hok z_in0_3 hG (lv_sub hl [5, 6, 3, 2, 1, 0] rfl) (fun H locs ls S1 u5 hG hl e_S1 e_u5 => ?_)
    subst e_S1
    subst e_u5
    have hok : z_Ok (rg_X_sendToAwaited_47_S1 S x0 1 x0 0) := ok_rg_X_sendToAwaited_47 hok z_in0_3
    refine lv_iinc (k := 5) (v := 1) (lv' := [(6, .int 1), (0, .ref (ad 0 0)), (1, .ref (ad 14 x0)), (3, .int 1), (4, .ref (ad 15 x0)), (5, .int (rg_X_sendToAwaited_47_u5 S x0 0 0))]) hx hb d_X_sendToAwaited_76 hl rfl (by decide) (Nat.le_of_ble_eq_true rfl) rfl (fun ls hl => ?_)
    refine lv_goto (tgt := 41) hx hb d_X_sendToAwaited_79 rfl ?_
    refine lv_iload hx hb d_X_sendToAwaited_41 (lv_at hl 0 rfl) ?_
    refine lv_iconst (v := 3) hx hb d_X_sendToAwaited_43 z_k3 ?_
    refine lv_icmp_ge (tgt := 82) hx hb d_X_sendToAwaited_44 rfl (fun h => absurd h (by decide)) (fun _ => ?_)
    refine rg_X_sendToAwaited_47 hF hx0 hx0 hok z_in1_3 hG (lv_sub hl [1, 2, 3, 4, 5, 0] rfl) (fun H locs ls S1 u5 hG hl e_S1 e_u5 => ?_)
    subst e_S1
    subst e_u5
    have hok : z_Ok (rg_X_sendToAwaited_47_S1 (rg_X_sendToAwaited_47_S1 S x0 1 x0 0) x0 1 x0 1) := ok_rg_X_sendToAwaited_47 hok z_in1_3
    refine lv_iinc (k := 5) (v := 2) (lv' := [(6, .int 2), (0, .ref (ad 0 0)), (1, .ref (ad 14 x0)), (3, .int 1), (4, .ref (ad 15 x0)), (5, .int (rg_X_sendToAwaited_47_u5 (rg_X_sendToAwaited_47_S1 S x0 1 x0 0) x0 (rg_X_sendToAwaited_47_u5 S x0 0 0) 1))]) hx hb d_X_sendToAwaited_76 hl rfl (by decide) (Nat.le_of_ble_eq_true rfl) rfl (fun ls hl => ?_)
    refine lv_goto (tgt := 41) hx hb d_X_sendToAwaited_79 rfl ?_
    refine lv_iload hx hb d_X_sendToAwaited_41 (lv_at hl 0 rfl) ?_
    refine lv_iconst (v := 3) hx hb d_X_sendToAwaited_43 z_k3 ?_
    refine lv_icmp_ge (tgt := 82) hx hb d_X_sendToAwaited_44 rfl (fun h => absurd h (by decide)) (fun _ => ?_)
    refine rg_X_sendToAwaited_47 hF hx0 hx0 hok z_in2_3 hG (lv_sub hl [1, 2, 3, 4, 5, 0] rfl) (fun H locs ls S1 u5 hG hl e_S1 e_u5 => ?_)
    subst e_S1
    subst e_u5
    have hok : z_Ok (rg_X_sendToAwaited_47_S1 (rg_X_sendToAwaited_47_S1 (rg_X_sendToAwaited_47_S1 S x0 1 x0 0) x0 1 x0 1) x0 1 x0 2) := ok_rg_X_sendToAwaited_47 hok z_in2_3
    refine lv_iinc (k := 5) (v := 3) (lv' := [(6, .int 3), (0, .ref (ad 0 0)), (1, .ref (ad 14 x0)), (3, .int 1), (4, .ref (ad 15 x0)), (5, .int (rg_X_sendToAwaited_47_u5 (rg_X_sendToAwaited_47_S1 (rg_X_sendToAwaited_47_S1 S x0 1 x0 0) x0 1 x0 1) x0 (rg_X_sendToAwaited_47_u5 (rg_X_sendToAwaited_47_S1 S x0 1 x0 0) x0 (rg_X_sendToAwaited_47_u5 S x0 0 0) 1) 2))]) hx hb d_X_sendToAwaited_76 hl rfl (by decide) (Nat.le_of_ble_eq_true rfl) rfl (fun ls hl => ?_)
    refine lv_goto (tgt := 41) hx hb d_X_sendToAwaited_79 rfl ?_
    refine lv_iload hx hb d_X_sendToAwaited_41 (lv_at hl 0 rfl) ?_
    refine lv_iconst (v := 3) hx hb d_X_sendToAwaited_43 z_k3 ?_
    refine lv_icmp_ge (tgt := 82) hx hb d_X_sendToAwaited_44 rfl (fun _ => ?_) (fun h => absurd h (by decide))
    refine lv_iload hx hb d_X_sendToAwaited_82 (lv_at hl 5 rfl) ?_
    exact z_iret hF hr hlk hG (Eq.symm ((if_pos h9).trans rfl)) (Eq.symm ((if_pos h9).trans rfl)) d_X_sendToAwaited_84
  ·
    refine lv_iconst (v := 3) hx hb d_X_sendToAwaited_12 z_k3 ?_
    refine lv_goto (tgt := 17) hx hb d_X_sendToAwaited_13 rfl ?_
    refine lv_istore_n (lv' := [(3, .int 3), (2, .int (f_A_isComplete_15 S x0)), (0, .ref (ad 0 0)), (1, .ref (ad 14 x0))]) hx hb d_X_sendToAwaited_17 rfl hl (Nat.le_of_ble_eq_true rfl) rfl (fun ls hl => ?_)
    refine lv_iload_n hx hb d_X_sendToAwaited_18 rfl (lv_at hl 1 rfl) ?_
    refine lv_if_eq (tgt := 29) hx hb d_X_sendToAwaited_19 rfl (fun h => absurd h h9) (fun _ => ?_)
    refine lv_aload_n hx hb d_X_sendToAwaited_22 rfl (lv_at hl 3 rfl) ?_
    refine gf_X_165_14 hF hG hx0 d_X_sendToAwaited_23 ?_
    refine lv_goto (tgt := 33) hx hb d_X_sendToAwaited_26 rfl ?_
    refine lv_astore (lv' := [(4, .ref (ad 18 x0)), (3, .int 3), (2, .int (f_A_isComplete_15 S x0)), (0, .ref (ad 0 0)), (1, .ref (ad 14 x0))]) hx hb d_X_sendToAwaited_33 hl (Nat.le_of_ble_eq_true rfl) rfl (fun ls hl => ?_)
    refine lv_iconst (v := 0) hx hb d_X_sendToAwaited_35 z_k0 ?_
    refine lv_istore (lv' := [(5, .int 0), (4, .ref (ad 18 x0)), (3, .int 3), (2, .int (f_A_isComplete_15 S x0)), (0, .ref (ad 0 0)), (1, .ref (ad 14 x0))]) hx hb d_X_sendToAwaited_36 hl (Nat.le_of_ble_eq_true rfl) rfl (fun ls hl => ?_)
    refine lv_iconst (v := 0) hx hb d_X_sendToAwaited_38 z_k0 ?_
    refine lv_istore (lv' := [(6, .int 0), (5, .int 0), (4, .ref (ad 18 x0)), (3, .int 3), (2, .int (f_A_isComplete_15 S x0)), (0, .ref (ad 0 0)), (1, .ref (ad 14 x0))]) hx hb d_X_sendToAwaited_39 hl (Nat.le_of_ble_eq_true rfl) rfl (fun ls hl => ?_)
    refine lv_iload hx hb d_X_sendToAwaited_41 (lv_at hl 0 rfl) ?_
    refine lv_iconst (v := 3) hx hb d_X_sendToAwaited_43 z_k3 ?_
    refine lv_icmp_ge (tgt := 82) hx hb d_X_sendToAwaited_44 rfl (fun h => absurd h (by decide)) (fun _ => ?_)
    refine rg_X_sendToAwaited_47_1 hF hx0 hx0 hok z_in0_3 hG (lv_sub hl [5, 6, 3, 2, 1, 0] rfl) (fun H locs ls S1 u5 hG hl e_S1 e_u5 => ?_)
    subst e_S1
    subst e_u5
    have hok : z_Ok (rg_X_sendToAwaited_47_1_S1 S x0 3 x0 0) := ok_rg_X_sendToAwaited_47_1 hok z_in0_3
    refine lv_iinc (k := 5) (v := 1) (lv' := [(6, .int 1), (0, .ref (ad 0 0)), (1, .ref (ad 14 x0)), (3, .int 3), (4, .ref (ad 18 x0)), (5, .int (rg_X_sendToAwaited_47_1_u5 S x0 0 0))]) hx hb d_X_sendToAwaited_76 hl rfl (by decide) (Nat.le_of_ble_eq_true rfl) rfl (fun ls hl => ?_)
    refine lv_goto (tgt := 41) hx hb d_X_sendToAwaited_79 rfl ?_
    refine lv_iload hx hb d_X_sendToAwaited_41 (lv_at hl 0 rfl) ?_
    refine lv_iconst (v := 3) hx hb d_X_sendToAwaited_43 z_k3 ?_
    refine lv_icmp_ge (tgt := 82) hx hb d_X_sendToAwaited_44 rfl (fun h => absurd h (by decide)) (fun _ => ?_)
    refine rg_X_sendToAwaited_47_1 hF hx0 hx0 hok z_in1_3 hG (lv_sub hl [1, 2, 3, 4, 5, 0] rfl) (fun H locs ls S1 u5 hG hl e_S1 e_u5 => ?_)
    subst e_S1
    subst e_u5
    have hok : z_Ok (rg_X_sendToAwaited_47_1_S1 (rg_X_sendToAwaited_47_1_S1 S x0 3 x0 0) x0 3 x0 1) := ok_rg_X_sendToAwaited_47_1 hok z_in1_3
    refine lv_iinc (k := 5) (v := 2) (lv' := [(6, .int 2), (0, .ref (ad 0 0)), (1, .ref (ad 14 x0)), (3, .int 3), (4, .ref (ad 18 x0)), (5, .int (rg_X_sendToAwaited_47_1_u5 (rg_X_sendToAwaited_47_1_S1 S x0 3 x0 0) x0 (rg_X_sendToAwaited_47_1_u5 S x0 0 0) 1))]) hx hb d_X_sendToAwaited_76 hl rfl (by decide) (Nat.le_of_ble_eq_true rfl) rfl (fun ls hl => ?_)
    refine lv_goto (tgt := 41) hx hb d_X_sendToAwaited_79 rfl ?_
    refine lv_iload hx hb d_X_sendToAwaited_41 (lv_at hl 0 rfl) ?_
    refine lv_iconst (v := 3) hx hb d_X_sendToAwaited_43 z_k3 ?_
    refine lv_icmp_ge (tgt := 82) hx hb d_X_sendToAwaited_44 rfl (fun h => absurd h (by decide)) (fun _ => ?_)
    refine rg_X_sendToAwaited_47_1 hF hx0 hx0 hok z_in2_3 hG (lv_sub hl [1, 2, 3, 4, 5, 0] rfl) (fun H locs ls S1 u5 hG hl e_S1 e_u5 => ?_)
    subst e_S1
    subst e_u5
    have hok : z_Ok (rg_X_sendToAwaited_47_1_S1 (rg_X_sendToAwaited_47_1_S1 (rg_X_sendToAwaited_47_1_S1 S x0 3 x0 0) x0 3 x0 1) x0 3 x0 2) := ok_rg_X_sendToAwaited_47_1 hok z_in2_3
    refine lv_iinc (k := 5) (v := 3) (lv' := [(6, .int 3), (0, .ref (ad 0 0)), (1, .ref (ad 14 x0)), (3, .int 3), (4, .ref (ad 18 x0)), (5, .int (rg_X_sendToAwaited_47_1_u5 (rg_X_sendToAwaited_47_1_S1 (rg_X_sendToAwaited_47_1_S1 S x0 3 x0 0) x0 3 x0 1) x0 (rg_X_sendToAwaited_47_1_u5 (rg_X_sendToAwaited_47_1_S1 S x0 3 x0 0) x0 (rg_X_sendToAwaited_47_1_u5 S x0 0 0) 1) 2))]) hx hb d_X_sendToAwaited_76 hl rfl (by decide) (Nat.le_of_ble_eq_true rfl) rfl (fun ls hl => ?_)
    refine lv_goto (tgt := 41) hx hb d_X_sendToAwaited_79 rfl ?_
    refine lv_iload hx hb d_X_sendToAwaited_41 (lv_at hl 0 rfl) ?_
    refine lv_iconst (v := 3) hx hb d_X_sendToAwaited_43 z_k3 ?_
    refine lv_icmp_ge (tgt := 82) hx hb d_X_sendToAwaited_44 rfl (fun _ => ?_) (fun h => absurd h (by decide))
    refine lv_iload hx hb d_X_sendToAwaited_82 (lv_at hl 5 rfl) ?_
    exact z_iret hF hr hlk hG (Eq.symm ((if_neg h9).trans rfl)) (Eq.symm ((if_neg h9).trans rfl)) d_X_sendToAwaited_84
def g_X_answerAsk (S : z_S) (x0 : Nat) (x1 : Int32) : z_S := (if (S.1 12 x1.toNatClampNeg 0) = 0 then S else (g_R_add S 2 (S.1 14 x0 0) x1 (f_H_sumOfPart S x1.toNatClampNeg (S.1 14 x0 1) (S.1 14 x0 2) (S.1 2 0 ((S.1 14 x0 1).toNatClampNeg)) (S.2 14 x0 3))))
set_option maxHeartbeats 4000000 in
set_option maxRecDepth 100000 in
theorem c_X_answerAsk (l : Launch) (D : va_G) (C : Nat → ClassId) (ad : Nat → Nat → Nat) (hJ : z_J ad) (S : z_S) (x0 : Nat) (hx0 : x0 < z_n 14) (x1 : Int32) (hok : z_Ok S) (hh : vp_in x1 3) : z_M l y_X_answerAsk b_X_answerAsk 6 none rm_X_answerAsk D C ad [.ref (ad 0 0), .ref (ad 14 x0), .int x1] S (z_Qv D C ad (g_X_answerAsk S x0 x1)) := by
  refine z_enter (by decide) (Nat.le_of_ble_eq_true rfl) hJ ?_
  intro p e s m below meth c ls hF hr hlk hl hG
  obtain ⟨hx, hb, hml, hown, hts⟩ := hF.1
  have hl : lv_has ls 6 [(0, .ref (ad 0 0)), (1, .ref (ad 14 x0)), (2, .int x1)] := hl
  refine lv_aload_n hx hb d_X_answerAsk_0 rfl (lv_at hl 0 rfl) ?_
  refine gf_X_11_0 hF hG d_X_answerAsk_1 ?_
  refine lv_iload_n hx hb d_X_answerAsk_4 rfl (lv_at hl 2 rfl) ?_
  have ho5 : x1.toNatClampNeg < z_n 12 := z_lt (n := 3) hh
  refine z_aald (n := 3) (K := 3) (t0 := 3) (Cn := R_H) (j := x1.toNatClampNeg) (v := ad 12 x1.toNatClampNeg) hF hG z_o1 (z_c1 C ad _ _ _) rfl rfl hh rfl d_X_answerAsk_5 ?_
  refine gf_X_140_12 hF hG ho5 (v := (S.1 12 x1.toNatClampNeg 0)) rfl d_X_answerAsk_6 ?_
  refine lv_if_eq (tgt := 58) hx hb d_X_answerAsk_9 rfl (fun h9 => ?_) (fun h9 => ?_)
  ·
    exact z_vret hF hr hlk hG (Eq.symm ((if_pos h9).trans rfl)) d_X_answerAsk_58
  ·
    refine lv_aload_n hx hb d_X_answerAsk_12 rfl (lv_at hl 1 rfl) ?_
    refine gf_X_185_14 hF hG hx0 (v := (S.1 14 x0 1)) rfl d_X_answerAsk_13 ?_
    refine lv_istore_n (lv' := [(3, .int (S.1 14 x0 1)), (0, .ref (ad 0 0)), (1, .ref (ad 14 x0)), (2, .int x1)]) hx hb d_X_answerAsk_16 rfl hl (Nat.le_of_ble_eq_true rfl) rfl (fun ls hl => ?_)
    refine lv_aload_n hx hb d_X_answerAsk_17 rfl (lv_at hl 1 rfl) ?_
    refine gf_X_11_0 hF hG d_X_answerAsk_18 ?_
    refine lv_iload_n hx hb d_X_answerAsk_21 rfl (lv_at hl 3 rfl) ?_
    have ho22 : x1.toNatClampNeg < z_n 12 := z_lt (n := 3) hh
    refine z_aald (n := 3) (K := 3) (t0 := 3) (Cn := R_H) (j := x1.toNatClampNeg) (v := ad 12 x1.toNatClampNeg) hF hG z_o1 (z_c1 C ad _ _ _) rfl rfl hh rfl d_X_answerAsk_22 ?_
    refine lv_iload_n hx hb d_X_answerAsk_23 rfl (lv_at hl 0 rfl) ?_
    refine lv_aload_n hx hb d_X_answerAsk_24 rfl (lv_at hl 2 rfl) ?_
    refine gf_X_188_14 hF hG hx0 (v := (S.1 14 x0 2)) rfl d_X_answerAsk_25 ?_
    refine lv_aload_n hx hb d_X_answerAsk_28 rfl (lv_at hl 1 rfl) ?_
    refine gf_X_15_0 hF hG d_X_answerAsk_29 ?_
    refine lv_iload_n hx hb d_X_answerAsk_32 rfl (lv_at hl 0 rfl) ?_
    refine z_iald (n := 6) (j := (S.1 14 x0 1).toNatClampNeg) (v := (S.1 2 0 ((S.1 14 x0 1).toNatClampNeg))) hF hG z_o2 (z_c2 C ad _ _ _) rfl (z_dpt hok hx0) rfl d_X_answerAsk_33 ?_
    refine lv_aload_n hx hb d_X_answerAsk_34 rfl (lv_at hl 2 rfl) ?_
    refine gf_X_191_14 hF hG hx0 (v := (S.2 14 x0 3)) rfl d_X_answerAsk_35 ?_
    refine kc_X_80 hF (c_H_sumOfPart l D C ad hF.2.2 _ _ ho22 _ _ _ _ (z_dpt hok hx0) (z_ppt hok hx0) (z_bcI hok (z_dpt hok hx0)).2) hG ho22 ⟨Nat.le_of_ble_eq_true rfl, Nat.le_of_ble_eq_true rfl⟩ ⟨Nat.zero_le _, Nat.zero_le _⟩ hl.1 (Nat.le_of_ble_eq_true rfl) d_X_answerAsk_38 (fun H locs hG => ?_)
    refine lv_lstore (lv' := [(4, .long (f_H_sumOfPart S x1.toNatClampNeg (S.1 14 x0 1) (S.1 14 x0 2) (S.1 2 0 ((S.1 14 x0 1).toNatClampNeg)) (S.2 14 x0 3))), (3, .int (S.1 14 x0 1)), (0, .ref (ad 0 0)), (1, .ref (ad 14 x0)), (2, .int x1)]) hx hb d_X_answerAsk_41 hl (Nat.le_of_ble_eq_true rfl) rfl (fun ls hl => ?_)
    refine lv_aload_n hx hb d_X_answerAsk_43 rfl (lv_at hl 2 rfl) ?_
    refine gf_X_22_0 hF hG d_X_answerAsk_44 ?_
    refine lv_iconst (v := 2) hx hb d_X_answerAsk_47 z_k2 ?_
    refine lv_aload_n hx hb d_X_answerAsk_48 rfl (lv_at hl 3 rfl) ?_
    refine gf_X_155_14 hF hG hx0 (v := (S.1 14 x0 0)) rfl d_X_answerAsk_49 ?_
    refine lv_iload_n hx hb d_X_answerAsk_52 rfl (lv_at hl 4 rfl) ?_
    refine lv_lload hx hb d_X_answerAsk_53 (lv_at hl 0 rfl) ?_
    refine kc_X_132 hF (c_R_add l D C ad hF.2.2 _ _ _ _ _ (z_okc hok)) hG ⟨Nat.le_of_ble_eq_true rfl, Nat.le_of_ble_eq_true rfl⟩ ⟨Nat.zero_le _, Nat.zero_le _⟩ hl.1 (Nat.le_of_ble_eq_true rfl) d_X_answerAsk_55 (fun H locs hG => ?_)
    exact z_vret hF hr hlk hG (Eq.symm ((if_neg h9).trans rfl)) d_X_answerAsk_58
def g_X_answerFetch (S : z_S) (x0 : Nat) (x1 : Int32) : z_S := (if (S.1 12 x1.toNatClampNeg 0) = 0 then S else (g_R_add S 4 (S.1 14 x0 0) x1 (f_H_bytesOfPart S x1.toNatClampNeg (S.1 14 x0 1) (S.1 14 x0 2))))
set_option maxHeartbeats 4000000 in
set_option maxRecDepth 100000 in
theorem c_X_answerFetch (l : Launch) (D : va_G) (C : Nat → ClassId) (ad : Nat → Nat → Nat) (hJ : z_J ad) (S : z_S) (x0 : Nat) (hx0 : x0 < z_n 14) (x1 : Int32) (hok : z_Ok S) (hh : vp_in x1 3) : z_M l y_X_answerFetch b_X_answerFetch 5 none rm_X_answerFetch D C ad [.ref (ad 0 0), .ref (ad 14 x0), .int x1] S (z_Qv D C ad (g_X_answerFetch S x0 x1)) := by
  refine z_enter (by decide) (Nat.le_of_ble_eq_true rfl) hJ ?_
  intro p e s m below meth c ls hF hr hlk hl hG
  obtain ⟨hx, hb, hml, hown, hts⟩ := hF.1
  have hl : lv_has ls 5 [(0, .ref (ad 0 0)), (1, .ref (ad 14 x0)), (2, .int x1)] := hl
  refine lv_aload_n hx hb d_X_answerFetch_0 rfl (lv_at hl 0 rfl) ?_
  refine gf_X_11_0 hF hG d_X_answerFetch_1 ?_
  refine lv_iload_n hx hb d_X_answerFetch_4 rfl (lv_at hl 2 rfl) ?_
  have ho5 : x1.toNatClampNeg < z_n 12 := z_lt (n := 3) hh
  refine z_aald (n := 3) (K := 3) (t0 := 3) (Cn := R_H) (j := x1.toNatClampNeg) (v := ad 12 x1.toNatClampNeg) hF hG z_o1 (z_c1 C ad _ _ _) rfl rfl hh rfl d_X_answerFetch_5 ?_
  refine gf_X_140_12 hF hG ho5 (v := (S.1 12 x1.toNatClampNeg 0)) rfl d_X_answerFetch_6 ?_
  refine lv_if_eq (tgt := 44) hx hb d_X_answerFetch_9 rfl (fun h9 => ?_) (fun h9 => ?_)
  ·
    exact z_vret hF hr hlk hG (Eq.symm ((if_pos h9).trans rfl)) d_X_answerFetch_44
  ·
    refine lv_aload_n hx hb d_X_answerFetch_12 rfl (lv_at hl 0 rfl) ?_
    refine gf_X_11_0 hF hG d_X_answerFetch_13 ?_
    refine lv_iload_n hx hb d_X_answerFetch_16 rfl (lv_at hl 2 rfl) ?_
    have ho17 : x1.toNatClampNeg < z_n 12 := z_lt (n := 3) hh
    refine z_aald (n := 3) (K := 3) (t0 := 3) (Cn := R_H) (j := x1.toNatClampNeg) (v := ad 12 x1.toNatClampNeg) hF hG z_o1 (z_c1 C ad _ _ _) rfl rfl hh rfl d_X_answerFetch_17 ?_
    refine lv_aload_n hx hb d_X_answerFetch_18 rfl (lv_at hl 1 rfl) ?_
    refine gf_X_185_14 hF hG hx0 (v := (S.1 14 x0 1)) rfl d_X_answerFetch_19 ?_
    refine lv_aload_n hx hb d_X_answerFetch_22 rfl (lv_at hl 1 rfl) ?_
    refine gf_X_188_14 hF hG hx0 (v := (S.1 14 x0 2)) rfl d_X_answerFetch_23 ?_
    refine kc_X_195 hF (c_H_bytesOfPart l D C ad hF.2.2 _ _ ho17 _ _ (z_bp1 hok hx0) (z_bp2 hok hx0)) hG ho17 ⟨Nat.le_of_ble_eq_true rfl, Nat.le_of_ble_eq_true rfl⟩ ⟨Nat.zero_le _, Nat.zero_le _⟩ hl.1 (Nat.le_of_ble_eq_true rfl) d_X_answerFetch_26 (fun H locs hG => ?_)
    refine lv_lstore_n (lv' := [(3, .long (f_H_bytesOfPart S x1.toNatClampNeg (S.1 14 x0 1) (S.1 14 x0 2))), (0, .ref (ad 0 0)), (1, .ref (ad 14 x0)), (2, .int x1)]) hx hb d_X_answerFetch_29 rfl hl (Nat.le_of_ble_eq_true rfl) rfl (fun ls hl => ?_)
    refine lv_aload_n hx hb d_X_answerFetch_30 rfl (lv_at hl 1 rfl) ?_
    refine gf_X_22_0 hF hG d_X_answerFetch_31 ?_
    refine lv_iconst (v := 4) hx hb d_X_answerFetch_34 z_k4 ?_
    refine lv_aload_n hx hb d_X_answerFetch_35 rfl (lv_at hl 2 rfl) ?_
    refine gf_X_155_14 hF hG hx0 (v := (S.1 14 x0 0)) rfl d_X_answerFetch_36 ?_
    refine lv_iload_n hx hb d_X_answerFetch_39 rfl (lv_at hl 3 rfl) ?_
    refine lv_lload_n hx hb d_X_answerFetch_40 rfl (lv_at hl 0 rfl) ?_
    refine kc_X_132 hF (c_R_add l D C ad hF.2.2 _ _ _ _ _ (z_okc hok)) hG ⟨Nat.le_of_ble_eq_true rfl, Nat.le_of_ble_eq_true rfl⟩ ⟨Nat.zero_le _, Nat.zero_le _⟩ hl.1 (Nat.le_of_ble_eq_true rfl) d_X_answerFetch_41 (fun H locs hG => ?_)
    exact z_vret hF hr hlk hG (Eq.symm ((if_neg h9).trans rfl)) d_X_answerFetch_44
def g_X_finish (S : z_S) (x0 : Nat) (x1 : Int32) : z_S := (if x1 = 3 then (if x1 = 1 then (g_D_endIfAllDone (g_D_finishPart (z_sI (z_sI (z_sI S 9 0 ((S.1 14 x0 0).toNatClampNeg) x1) 14 x0 0 0) 0 0 7 ((S.1 0 0 7) + 1)) (S.1 14 x0 1) (S.1 14 x0 2) (S.1 14 x0 4)) (f_X_parts (g_D_finishPart (z_sI (z_sI (z_sI S 9 0 ((S.1 14 x0 0).toNatClampNeg) x1) 14 x0 0 0) 0 0 7 ((S.1 0 0 7) + 1)) (S.1 14 x0 1) (S.1 14 x0 2) (S.1 14 x0 4)))) else (if x1 = 2 then (g_D_endIfAllDone (g_D_finishPart (z_sI (z_sI (z_sI S 9 0 ((S.1 14 x0 0).toNatClampNeg) x1) 14 x0 0 0) 0 0 7 ((S.1 0 0 7) + 1)) (S.1 14 x0 1) (S.1 14 x0 2) (S.1 14 x0 4)) (f_X_parts (g_D_finishPart (z_sI (z_sI (z_sI S 9 0 ((S.1 14 x0 0).toNatClampNeg) x1) 14 x0 0 0) 0 0 7 ((S.1 0 0 7) + 1)) (S.1 14 x0 1) (S.1 14 x0 2) (S.1 14 x0 4)))) else (z_sI (z_sI (z_sI S 9 0 ((S.1 14 x0 0).toNatClampNeg) x1) 14 x0 0 0) 0 0 7 ((S.1 0 0 7) + 1)))) else (if x1 = 1 then (g_D_endIfAllDone (g_D_finishPart (z_sI (z_sI S 9 0 ((S.1 14 x0 0).toNatClampNeg) x1) 14 x0 0 0) (S.1 14 x0 1) (S.1 14 x0 2) (S.1 14 x0 4)) (f_X_parts (g_D_finishPart (z_sI (z_sI S 9 0 ((S.1 14 x0 0).toNatClampNeg) x1) 14 x0 0 0) (S.1 14 x0 1) (S.1 14 x0 2) (S.1 14 x0 4)))) else (if x1 = 2 then (g_D_endIfAllDone (g_D_finishPart (z_sI (z_sI S 9 0 ((S.1 14 x0 0).toNatClampNeg) x1) 14 x0 0 0) (S.1 14 x0 1) (S.1 14 x0 2) (S.1 14 x0 4)) (f_X_parts (g_D_finishPart (z_sI (z_sI S 9 0 ((S.1 14 x0 0).toNatClampNeg) x1) 14 x0 0 0) (S.1 14 x0 1) (S.1 14 x0 2) (S.1 14 x0 4)))) else (z_sI (z_sI S 9 0 ((S.1 14 x0 0).toNatClampNeg) x1) 14 x0 0 0))))
set_option maxHeartbeats 4000000 in
set_option maxRecDepth 100000 in
theorem c_X_finish (l : Launch) (D : va_G) (C : Nat → ClassId) (ad : Nat → Nat → Nat) (hJ : z_J ad) (S : z_S) (x0 : Nat) (hx0 : x0 < z_n 14) (x1 : Int32) (hok : z_Ok S) : z_M l y_X_finish b_X_finish 3 none rm_X_finish D C ad [.ref (ad 0 0), .ref (ad 14 x0), .int x1] S (z_Qv D C ad (g_X_finish S x0 x1)) := by
  refine z_enter (by decide) (Nat.le_of_ble_eq_true rfl) hJ ?_
  intro p e s m below meth c ls hF hr hlk hl hG
  obtain ⟨hx, hb, hml, hown, hts⟩ := hF.1
  have hl : lv_has ls 3 [(0, .ref (ad 0 0)), (1, .ref (ad 14 x0)), (2, .int x1)] := hl
  refine lv_aload_n hx hb d_X_finish_0 rfl (lv_at hl 0 rfl) ?_
  refine gf_X_32_0 hF hG d_X_finish_1 ?_
  refine lv_aload_n hx hb d_X_finish_4 rfl (lv_at hl 1 rfl) ?_
  refine gf_X_155_14 hF hG hx0 (v := (S.1 14 x0 0)) rfl d_X_finish_5 ?_
  refine lv_iload_n hx hb d_X_finish_8 rfl (lv_at hl 2 rfl) ?_
  refine z_iast (n := 513) (j := (S.1 14 x0 0).toNatClampNeg) hF hG z_o9 (fun f g => z_c9 C ad f g _) rfl (z_npt hok hx0) d_X_finish_9 (fun H locs hG => ?_)
  refine lv_aload_n hx hb d_X_finish_10 rfl (lv_at hl 1 rfl) ?_
  refine lv_iconst (v := 0) hx hb d_X_finish_11 z_k0 ?_
  refine pf_X_155_14 hF hG hx0 d_X_finish_12 (fun H locs hG => ?_)
  refine lv_iload_n hx hb d_X_finish_15 rfl (lv_at hl 2 rfl) ?_
  refine lv_iconst (v := 3) hx hb d_X_finish_16 z_k3 ?_
  refine lv_icmp_ne (tgt := 30) hx hb d_X_finish_17 rfl (fun h17 => ?_) (fun h17 => ?_)
  ·
    refine lv_iload_n hx hb d_X_finish_30 rfl (lv_at hl 2 rfl) ?_
    refine lv_iconst (v := 1) hx hb d_X_finish_31 z_k1 ?_
    refine lv_icmp_eq (tgt := 40) hx hb d_X_finish_32 rfl (fun h32 => ?_) (fun h32 => ?_)
    ·
      refine lv_aload_n hx hb d_X_finish_40 rfl (lv_at hl 0 rfl) ?_
      refine gf_X_38_0 hF hG d_X_finish_41 ?_
      refine lv_aload_n hx hb d_X_finish_44 rfl (lv_at hl 1 rfl) ?_
      refine gf_X_185_14 hF hG hx0 (v := (S.1 14 x0 1)) (by simp [z_rI, z_rL, z_rIL, z_rLI]) d_X_finish_45 ?_
      refine lv_aload_n hx hb d_X_finish_48 rfl (lv_at hl 1 rfl) ?_
      refine gf_X_188_14 hF hG hx0 (v := (S.1 14 x0 2)) (by simp [z_rI, z_rL, z_rIL, z_rLI]) d_X_finish_49 ?_
      refine lv_aload_n hx hb d_X_finish_52 rfl (lv_at hl 1 rfl) ?_
      refine gf_X_228_14 hF hG hx0 (v := (S.1 14 x0 4)) (by simp [z_rI, z_rL, z_rIL, z_rLI]) d_X_finish_53 ?_
      refine kc_X_231 hF (c_D_finishPart l D C ad hF.2.2 (z_sI (z_sI S 9 0 ((S.1 14 x0 0).toNatClampNeg) x1) 14 x0 0 0) _ _ _ (z_fp hok hx0)) hG ⟨Nat.le_of_ble_eq_true rfl, Nat.le_of_ble_eq_true rfl⟩ ⟨Nat.zero_le _, Nat.zero_le _⟩ hl.1 (Nat.le_of_ble_eq_true rfl) d_X_finish_56 (fun H locs hG => ?_)
      refine lv_aload_n hx hb d_X_finish_59 rfl (lv_at hl 0 rfl) ?_
      refine gf_X_38_0 hF hG d_X_finish_60 ?_
      refine lv_aload_n hx hb d_X_finish_63 rfl (lv_at hl 0 rfl) ?_
      refine kc_X_234 hF (c_X_parts l D C ad hF.2.2 _ ) hG ⟨Nat.le_of_ble_eq_true rfl, Nat.le_of_ble_eq_true rfl⟩ ⟨Nat.zero_le _, Nat.zero_le _⟩ hl.1 (Nat.le_of_ble_eq_true rfl) d_X_finish_64 (fun H locs hG => ?_)
      refine kc_X_238 hF (c_D_endIfAllDone l D C ad hF.2.2 _ _ ) hG ⟨Nat.le_of_ble_eq_true rfl, Nat.le_of_ble_eq_true rfl⟩ ⟨Nat.zero_le _, Nat.zero_le _⟩ hl.1 (Nat.le_of_ble_eq_true rfl) d_X_finish_67 (fun H locs hG => ?_)
      exact z_vret hF hr hlk hG (Eq.symm ((if_neg h17).trans ((if_pos h32).trans rfl))) d_X_finish_70
    ·
      refine lv_iload_n hx hb d_X_finish_35 rfl (lv_at hl 2 rfl) ?_
      refine lv_iconst (v := 2) hx hb d_X_finish_36 z_k2 ?_
      refine lv_icmp_ne (tgt := 70) hx hb d_X_finish_37 rfl (fun h37 => ?_) (fun h37 => ?_)
      ·
        exact z_vret hF hr hlk hG (Eq.symm ((if_neg h17).trans ((if_neg h32).trans ((if_neg h37).trans rfl)))) d_X_finish_70
      ·
        refine lv_aload_n hx hb d_X_finish_40 rfl (lv_at hl 0 rfl) ?_
        refine gf_X_38_0 hF hG d_X_finish_41 ?_
        refine lv_aload_n hx hb d_X_finish_44 rfl (lv_at hl 1 rfl) ?_
        refine gf_X_185_14 hF hG hx0 (v := (S.1 14 x0 1)) (by simp [z_rI, z_rL, z_rIL, z_rLI]) d_X_finish_45 ?_
        refine lv_aload_n hx hb d_X_finish_48 rfl (lv_at hl 1 rfl) ?_
        refine gf_X_188_14 hF hG hx0 (v := (S.1 14 x0 2)) (by simp [z_rI, z_rL, z_rIL, z_rLI]) d_X_finish_49 ?_
        refine lv_aload_n hx hb d_X_finish_52 rfl (lv_at hl 1 rfl) ?_
        refine gf_X_228_14 hF hG hx0 (v := (S.1 14 x0 4)) (by simp [z_rI, z_rL, z_rIL, z_rLI]) d_X_finish_53 ?_
        refine kc_X_231 hF (c_D_finishPart l D C ad hF.2.2 (z_sI (z_sI S 9 0 ((S.1 14 x0 0).toNatClampNeg) x1) 14 x0 0 0) _ _ _ (z_fp hok hx0)) hG ⟨Nat.le_of_ble_eq_true rfl, Nat.le_of_ble_eq_true rfl⟩ ⟨Nat.zero_le _, Nat.zero_le _⟩ hl.1 (Nat.le_of_ble_eq_true rfl) d_X_finish_56 (fun H locs hG => ?_)
        refine lv_aload_n hx hb d_X_finish_59 rfl (lv_at hl 0 rfl) ?_
        refine gf_X_38_0 hF hG d_X_finish_60 ?_
        refine lv_aload_n hx hb d_X_finish_63 rfl (lv_at hl 0 rfl) ?_
        refine kc_X_234 hF (c_X_parts l D C ad hF.2.2 _ ) hG ⟨Nat.le_of_ble_eq_true rfl, Nat.le_of_ble_eq_true rfl⟩ ⟨Nat.zero_le _, Nat.zero_le _⟩ hl.1 (Nat.le_of_ble_eq_true rfl) d_X_finish_64 (fun H locs hG => ?_)
        refine kc_X_238 hF (c_D_endIfAllDone l D C ad hF.2.2 _ _ ) hG ⟨Nat.le_of_ble_eq_true rfl, Nat.le_of_ble_eq_true rfl⟩ ⟨Nat.zero_le _, Nat.zero_le _⟩ hl.1 (Nat.le_of_ble_eq_true rfl) d_X_finish_67 (fun H locs hG => ?_)
        exact z_vret hF hr hlk hG (Eq.symm ((if_neg h17).trans ((if_neg h32).trans ((if_pos h37).trans rfl)))) d_X_finish_70
  ·
    refine lv_aload_n hx hb d_X_finish_20 rfl (lv_at hl 0 rfl) ?_
    refine lv_dup hx hb d_X_finish_21 rfl ?_
    refine gf_X_46_0 hF hG (v := (S.1 0 0 7)) rfl d_X_finish_22 ?_
    refine lv_iconst (v := 1) hx hb d_X_finish_25 z_k1 ?_
    refine lv_iadd hx hb d_X_finish_26 ?_
    refine pf_X_46_0 hF hG d_X_finish_27 (fun H locs hG => ?_)
    refine lv_iload_n hx hb d_X_finish_30 rfl (lv_at hl 2 rfl) ?_
    refine lv_iconst (v := 1) hx hb d_X_finish_31 z_k1 ?_
    refine lv_icmp_eq (tgt := 40) hx hb d_X_finish_32 rfl (fun h32 => ?_) (fun h32 => ?_)
    ·
      refine lv_aload_n hx hb d_X_finish_40 rfl (lv_at hl 0 rfl) ?_
      refine gf_X_38_0 hF hG d_X_finish_41 ?_
      refine lv_aload_n hx hb d_X_finish_44 rfl (lv_at hl 1 rfl) ?_
      refine gf_X_185_14 hF hG hx0 (v := (S.1 14 x0 1)) (by simp [z_rI, z_rL, z_rIL, z_rLI]) d_X_finish_45 ?_
      refine lv_aload_n hx hb d_X_finish_48 rfl (lv_at hl 1 rfl) ?_
      refine gf_X_188_14 hF hG hx0 (v := (S.1 14 x0 2)) (by simp [z_rI, z_rL, z_rIL, z_rLI]) d_X_finish_49 ?_
      refine lv_aload_n hx hb d_X_finish_52 rfl (lv_at hl 1 rfl) ?_
      refine gf_X_228_14 hF hG hx0 (v := (S.1 14 x0 4)) (by simp [z_rI, z_rL, z_rIL, z_rLI]) d_X_finish_53 ?_
      refine kc_X_231 hF (c_D_finishPart l D C ad hF.2.2 (z_sI (z_sI (z_sI S 9 0 ((S.1 14 x0 0).toNatClampNeg) x1) 14 x0 0 0) 0 0 7 ((S.1 0 0 7) + 1)) _ _ _ (z_fp hok hx0)) hG ⟨Nat.le_of_ble_eq_true rfl, Nat.le_of_ble_eq_true rfl⟩ ⟨Nat.zero_le _, Nat.zero_le _⟩ hl.1 (Nat.le_of_ble_eq_true rfl) d_X_finish_56 (fun H locs hG => ?_)
      refine lv_aload_n hx hb d_X_finish_59 rfl (lv_at hl 0 rfl) ?_
      refine gf_X_38_0 hF hG d_X_finish_60 ?_
      refine lv_aload_n hx hb d_X_finish_63 rfl (lv_at hl 0 rfl) ?_
      refine kc_X_234 hF (c_X_parts l D C ad hF.2.2 _ ) hG ⟨Nat.le_of_ble_eq_true rfl, Nat.le_of_ble_eq_true rfl⟩ ⟨Nat.zero_le _, Nat.zero_le _⟩ hl.1 (Nat.le_of_ble_eq_true rfl) d_X_finish_64 (fun H locs hG => ?_)
      refine kc_X_238 hF (c_D_endIfAllDone l D C ad hF.2.2 _ _ ) hG ⟨Nat.le_of_ble_eq_true rfl, Nat.le_of_ble_eq_true rfl⟩ ⟨Nat.zero_le _, Nat.zero_le _⟩ hl.1 (Nat.le_of_ble_eq_true rfl) d_X_finish_67 (fun H locs hG => ?_)
      exact z_vret hF hr hlk hG (Eq.symm ((if_pos h17).trans ((if_pos h32).trans rfl))) d_X_finish_70
    ·
      refine lv_iload_n hx hb d_X_finish_35 rfl (lv_at hl 2 rfl) ?_
      refine lv_iconst (v := 2) hx hb d_X_finish_36 z_k2 ?_
      refine lv_icmp_ne (tgt := 70) hx hb d_X_finish_37 rfl (fun h37 => ?_) (fun h37 => ?_)
      ·
        exact z_vret hF hr hlk hG (Eq.symm ((if_pos h17).trans ((if_neg h32).trans ((if_neg h37).trans rfl)))) d_X_finish_70
      ·
        refine lv_aload_n hx hb d_X_finish_40 rfl (lv_at hl 0 rfl) ?_
        refine gf_X_38_0 hF hG d_X_finish_41 ?_
        refine lv_aload_n hx hb d_X_finish_44 rfl (lv_at hl 1 rfl) ?_
        refine gf_X_185_14 hF hG hx0 (v := (S.1 14 x0 1)) (by simp [z_rI, z_rL, z_rIL, z_rLI]) d_X_finish_45 ?_
        refine lv_aload_n hx hb d_X_finish_48 rfl (lv_at hl 1 rfl) ?_
        refine gf_X_188_14 hF hG hx0 (v := (S.1 14 x0 2)) (by simp [z_rI, z_rL, z_rIL, z_rLI]) d_X_finish_49 ?_
        refine lv_aload_n hx hb d_X_finish_52 rfl (lv_at hl 1 rfl) ?_
        refine gf_X_228_14 hF hG hx0 (v := (S.1 14 x0 4)) (by simp [z_rI, z_rL, z_rIL, z_rLI]) d_X_finish_53 ?_
        refine kc_X_231 hF (c_D_finishPart l D C ad hF.2.2 (z_sI (z_sI (z_sI S 9 0 ((S.1 14 x0 0).toNatClampNeg) x1) 14 x0 0 0) 0 0 7 ((S.1 0 0 7) + 1)) _ _ _ (z_fp hok hx0)) hG ⟨Nat.le_of_ble_eq_true rfl, Nat.le_of_ble_eq_true rfl⟩ ⟨Nat.zero_le _, Nat.zero_le _⟩ hl.1 (Nat.le_of_ble_eq_true rfl) d_X_finish_56 (fun H locs hG => ?_)
        refine lv_aload_n hx hb d_X_finish_59 rfl (lv_at hl 0 rfl) ?_
        refine gf_X_38_0 hF hG d_X_finish_60 ?_
        refine lv_aload_n hx hb d_X_finish_63 rfl (lv_at hl 0 rfl) ?_
        refine kc_X_234 hF (c_X_parts l D C ad hF.2.2 _ ) hG ⟨Nat.le_of_ble_eq_true rfl, Nat.le_of_ble_eq_true rfl⟩ ⟨Nat.zero_le _, Nat.zero_le _⟩ hl.1 (Nat.le_of_ble_eq_true rfl) d_X_finish_64 (fun H locs hG => ?_)
        refine kc_X_238 hF (c_D_endIfAllDone l D C ad hF.2.2 _ _ ) hG ⟨Nat.le_of_ble_eq_true rfl, Nat.le_of_ble_eq_true rfl⟩ ⟨Nat.zero_le _, Nat.zero_le _⟩ hl.1 (Nat.le_of_ble_eq_true rfl) d_X_finish_67 (fun H locs hG => ?_)
        exact z_vret hF hr hlk hG (Eq.symm ((if_pos h17).trans ((if_neg h32).trans ((if_pos h37).trans rfl)))) d_X_finish_70
def f_X_areCopiesCurrent (S : z_S) (x0 : Nat) : Int32 := (if (lg_cmp (f_H_bytesOfPart S 0 (S.1 14 x0 1) (S.1 14 x0 2)) (S.2 20 x0 0)) = 0 then (if (lg_cmp (f_H_bytesOfPart S 1 (S.1 14 x0 1) (S.1 14 x0 2)) (S.2 20 x0 1)) = 0 then (if (lg_cmp (f_H_bytesOfPart S 2 (S.1 14 x0 1) (S.1 14 x0 2)) (S.2 20 x0 2)) = 0 then 1 else 0) else 0) else 0)
set_option maxHeartbeats 4000000 in
set_option maxRecDepth 100000 in
theorem c_X_areCopiesCurrent (l : Launch) (D : va_G) (C : Nat → ClassId) (ad : Nat → Nat → Nat) (hJ : z_J ad) (S : z_S) (x0 : Nat) (hx0 : x0 < z_n 14) (hok : z_Ok S) : z_M l y_X_areCopiesCurrent b_X_areCopiesCurrent 3 (some .boolean) rm_X_areCopiesCurrent D C ad [.ref (ad 0 0), .ref (ad 14 x0)] S (z_Qi D C ad (f_X_areCopiesCurrent S x0) S) := by
  refine z_enter (by decide) (Nat.le_of_ble_eq_true rfl) hJ ?_
  intro p e s m below meth c ls hF hr hlk hl hG
  obtain ⟨hx, hb, hml, hown, hts⟩ := hF.1
  have hl : lv_has ls 3 [(0, .ref (ad 0 0)), (1, .ref (ad 14 x0))] := hl
  refine lv_iconst (v := 0) hx hb d_X_areCopiesCurrent_0 z_k0 ?_
  refine lv_istore_n (lv' := [(2, .int 0), (0, .ref (ad 0 0)), (1, .ref (ad 14 x0))]) hx hb d_X_areCopiesCurrent_1 rfl hl (Nat.le_of_ble_eq_true rfl) rfl (fun ls hl => ?_)
  refine lv_iload_n hx hb d_X_areCopiesCurrent_2 rfl (lv_at hl 0 rfl) ?_
  refine lv_iconst (v := 3) hx hb d_X_areCopiesCurrent_3 z_k3 ?_
  refine lv_icmp_ge (tgt := 45) hx hb d_X_areCopiesCurrent_4 rfl (fun h => absurd h (by decide)) (fun _ => ?_)
  refine lv_aload_n hx hb d_X_areCopiesCurrent_7 rfl (lv_at hl 1 rfl) ?_
  refine gf_X_11_0 hF hG d_X_areCopiesCurrent_8 ?_
  refine lv_iload_n hx hb d_X_areCopiesCurrent_11 rfl (lv_at hl 0 rfl) ?_
  refine z_aald (n := 3) (K := 3) (t0 := 3) (Cn := R_H) (j := 0) (v := ad 12 0) hF hG z_o1 (z_c1 C ad _ _ _) rfl z_q0 z_in0_3 rfl d_X_areCopiesCurrent_12 ?_
  refine lv_aload_n hx hb d_X_areCopiesCurrent_13 rfl (lv_at hl 2 rfl) ?_
  refine gf_X_185_14 hF hG hx0 (v := (S.1 14 x0 1)) rfl d_X_areCopiesCurrent_14 ?_
  refine lv_aload_n hx hb d_X_areCopiesCurrent_17 rfl (lv_at hl 2 rfl) ?_
  refine gf_X_188_14 hF hG hx0 (v := (S.1 14 x0 2)) rfl d_X_areCopiesCurrent_18 ?_
  refine kc_X_195 hF (c_H_bytesOfPart l D C ad hF.2.2 _ _ z_o12_0 _ _ (z_bp1 hok hx0) (z_bp2 hok hx0)) hG z_o12_0 ⟨Nat.le_of_ble_eq_true rfl, Nat.le_of_ble_eq_true rfl⟩ ⟨Nat.zero_le _, Nat.zero_le _⟩ hl.1 (Nat.le_of_ble_eq_true rfl) d_X_areCopiesCurrent_21 (fun H locs hG => ?_)
  refine lv_aload_n hx hb d_X_areCopiesCurrent_24 rfl (lv_at hl 2 rfl) ?_
  refine gf_X_165_14 hF hG hx0 d_X_areCopiesCurrent_25 ?_
  refine gf_X_219_18 hF hG hx0 d_X_areCopiesCurrent_28 ?_
  refine lv_iload_n hx hb d_X_areCopiesCurrent_31 rfl (lv_at hl 0 rfl) ?_
  refine z_lald (n := 3) (j := 0) (v := (S.2 20 x0 0)) hF hG hx0 (z_c20 C ad _ _ _) z_q0 z_in0_3 rfl d_X_areCopiesCurrent_32 ?_
  refine W.lcmp hx hb d_X_areCopiesCurrent_33 ?_
  refine lv_if_eq (tgt := 39) hx hb d_X_areCopiesCurrent_34 rfl (fun h34 => ?_) (fun h34 => ?_)
  ·
    refine lv_iinc (k := 0) (v := 1) (lv' := [(2, .int 1), (0, .ref (ad 0 0)), (1, .ref (ad 14 x0))]) hx hb d_X_areCopiesCurrent_39 hl rfl (by decide) (Nat.le_of_ble_eq_true rfl) rfl (fun ls hl => ?_)
    refine lv_goto (tgt := 2) hx hb d_X_areCopiesCurrent_42 rfl ?_
    refine lv_iload_n hx hb d_X_areCopiesCurrent_2 rfl (lv_at hl 0 rfl) ?_
    refine lv_iconst (v := 3) hx hb d_X_areCopiesCurrent_3 z_k3 ?_
    refine lv_icmp_ge (tgt := 45) hx hb d_X_areCopiesCurrent_4 rfl (fun h => absurd h (by decide)) (fun _ => ?_)
    refine lv_aload_n hx hb d_X_areCopiesCurrent_7 rfl (lv_at hl 1 rfl) ?_
    refine gf_X_11_0 hF hG d_X_areCopiesCurrent_8 ?_
    refine lv_iload_n hx hb d_X_areCopiesCurrent_11 rfl (lv_at hl 0 rfl) ?_
    refine z_aald (n := 3) (K := 3) (t0 := 3) (Cn := R_H) (j := 1) (v := ad 12 1) hF hG z_o1 (z_c1 C ad _ _ _) rfl z_q1 z_in1_3 rfl d_X_areCopiesCurrent_12 ?_
    refine lv_aload_n hx hb d_X_areCopiesCurrent_13 rfl (lv_at hl 2 rfl) ?_
    refine gf_X_185_14 hF hG hx0 (v := (S.1 14 x0 1)) rfl d_X_areCopiesCurrent_14 ?_
    refine lv_aload_n hx hb d_X_areCopiesCurrent_17 rfl (lv_at hl 2 rfl) ?_
    refine gf_X_188_14 hF hG hx0 (v := (S.1 14 x0 2)) rfl d_X_areCopiesCurrent_18 ?_
    refine kc_X_195 hF (c_H_bytesOfPart l D C ad hF.2.2 _ _ z_o12_1 _ _ (z_bp1 hok hx0) (z_bp2 hok hx0)) hG z_o12_1 ⟨Nat.le_of_ble_eq_true rfl, Nat.le_of_ble_eq_true rfl⟩ ⟨Nat.zero_le _, Nat.zero_le _⟩ hl.1 (Nat.le_of_ble_eq_true rfl) d_X_areCopiesCurrent_21 (fun H locs hG => ?_)
    refine lv_aload_n hx hb d_X_areCopiesCurrent_24 rfl (lv_at hl 2 rfl) ?_
    refine gf_X_165_14 hF hG hx0 d_X_areCopiesCurrent_25 ?_
    refine gf_X_219_18 hF hG hx0 d_X_areCopiesCurrent_28 ?_
    refine lv_iload_n hx hb d_X_areCopiesCurrent_31 rfl (lv_at hl 0 rfl) ?_
    refine z_lald (n := 3) (j := 1) (v := (S.2 20 x0 1)) hF hG hx0 (z_c20 C ad _ _ _) z_q1 z_in1_3 rfl d_X_areCopiesCurrent_32 ?_
    refine W.lcmp hx hb d_X_areCopiesCurrent_33 ?_
    refine lv_if_eq (tgt := 39) hx hb d_X_areCopiesCurrent_34 rfl (fun h34_1 => ?_) (fun h34_1 => ?_)
    ·
      refine lv_iinc (k := 0) (v := 2) (lv' := [(2, .int 2), (0, .ref (ad 0 0)), (1, .ref (ad 14 x0))]) hx hb d_X_areCopiesCurrent_39 hl rfl (by decide) (Nat.le_of_ble_eq_true rfl) rfl (fun ls hl => ?_)
      refine lv_goto (tgt := 2) hx hb d_X_areCopiesCurrent_42 rfl ?_
      refine lv_iload_n hx hb d_X_areCopiesCurrent_2 rfl (lv_at hl 0 rfl) ?_
      refine lv_iconst (v := 3) hx hb d_X_areCopiesCurrent_3 z_k3 ?_
      refine lv_icmp_ge (tgt := 45) hx hb d_X_areCopiesCurrent_4 rfl (fun h => absurd h (by decide)) (fun _ => ?_)
      refine lv_aload_n hx hb d_X_areCopiesCurrent_7 rfl (lv_at hl 1 rfl) ?_
      refine gf_X_11_0 hF hG d_X_areCopiesCurrent_8 ?_
      refine lv_iload_n hx hb d_X_areCopiesCurrent_11 rfl (lv_at hl 0 rfl) ?_
      refine z_aald (n := 3) (K := 3) (t0 := 3) (Cn := R_H) (j := 2) (v := ad 12 2) hF hG z_o1 (z_c1 C ad _ _ _) rfl z_q2 z_in2_3 rfl d_X_areCopiesCurrent_12 ?_
      refine lv_aload_n hx hb d_X_areCopiesCurrent_13 rfl (lv_at hl 2 rfl) ?_
      refine gf_X_185_14 hF hG hx0 (v := (S.1 14 x0 1)) rfl d_X_areCopiesCurrent_14 ?_
      refine lv_aload_n hx hb d_X_areCopiesCurrent_17 rfl (lv_at hl 2 rfl) ?_
      refine gf_X_188_14 hF hG hx0 (v := (S.1 14 x0 2)) rfl d_X_areCopiesCurrent_18 ?_
      refine kc_X_195 hF (c_H_bytesOfPart l D C ad hF.2.2 _ _ z_o12_2 _ _ (z_bp1 hok hx0) (z_bp2 hok hx0)) hG z_o12_2 ⟨Nat.le_of_ble_eq_true rfl, Nat.le_of_ble_eq_true rfl⟩ ⟨Nat.zero_le _, Nat.zero_le _⟩ hl.1 (Nat.le_of_ble_eq_true rfl) d_X_areCopiesCurrent_21 (fun H locs hG => ?_)
      refine lv_aload_n hx hb d_X_areCopiesCurrent_24 rfl (lv_at hl 2 rfl) ?_
      refine gf_X_165_14 hF hG hx0 d_X_areCopiesCurrent_25 ?_
      refine gf_X_219_18 hF hG hx0 d_X_areCopiesCurrent_28 ?_
      refine lv_iload_n hx hb d_X_areCopiesCurrent_31 rfl (lv_at hl 0 rfl) ?_
      refine z_lald (n := 3) (j := 2) (v := (S.2 20 x0 2)) hF hG hx0 (z_c20 C ad _ _ _) z_q2 z_in2_3 rfl d_X_areCopiesCurrent_32 ?_
      refine W.lcmp hx hb d_X_areCopiesCurrent_33 ?_
      refine lv_if_eq (tgt := 39) hx hb d_X_areCopiesCurrent_34 rfl (fun h34_2 => ?_) (fun h34_2 => ?_)
      ·
        refine lv_iinc (k := 0) (v := 3) (lv' := [(2, .int 3), (0, .ref (ad 0 0)), (1, .ref (ad 14 x0))]) hx hb d_X_areCopiesCurrent_39 hl rfl (by decide) (Nat.le_of_ble_eq_true rfl) rfl (fun ls hl => ?_)
        refine lv_goto (tgt := 2) hx hb d_X_areCopiesCurrent_42 rfl ?_
        refine lv_iload_n hx hb d_X_areCopiesCurrent_2 rfl (lv_at hl 0 rfl) ?_
        refine lv_iconst (v := 3) hx hb d_X_areCopiesCurrent_3 z_k3 ?_
        refine lv_icmp_ge (tgt := 45) hx hb d_X_areCopiesCurrent_4 rfl (fun _ => ?_) (fun h => absurd h (by decide))
        refine lv_iconst (v := 1) hx hb d_X_areCopiesCurrent_45 z_k1 ?_
        exact z_zret hF hr hlk rfl hG (Eq.symm ((if_pos h34).trans ((if_pos h34_1).trans ((if_pos h34_2).trans rfl)))) rfl d_X_areCopiesCurrent_46
      ·
        refine lv_iconst (v := 0) hx hb d_X_areCopiesCurrent_37 z_k0 ?_
        exact z_zret hF hr hlk rfl hG (Eq.symm ((if_pos h34).trans ((if_pos h34_1).trans ((if_neg h34_2).trans rfl)))) rfl d_X_areCopiesCurrent_38
    ·
      refine lv_iconst (v := 0) hx hb d_X_areCopiesCurrent_37 z_k0 ?_
      exact z_zret hF hr hlk rfl hG (Eq.symm ((if_pos h34).trans ((if_neg h34_1).trans rfl))) rfl d_X_areCopiesCurrent_38
  ·
    refine lv_iconst (v := 0) hx hb d_X_areCopiesCurrent_37 z_k0 ?_
    exact z_zret hF hr hlk rfl hG (Eq.symm ((if_neg h34).trans rfl)) rfl d_X_areCopiesCurrent_38
def rg_X_mendBlock_7_S1 (S : z_S) (v1 : Nat) (v2 : Int32) (v3 : Int32) : z_S := (if (f_P_copiedBlock S v1 v3 v2) = (f_P_copiedBlock S v1 ((v3 + 1) - (v3 + 1) / 3 * 3) v2) then S else (if (f_P_copiedBlock S v1 ((v3 + 1) - (v3 + 1) / 3 * 3) v2) = (f_P_copiedBlock S v1 ((v3 + 2) - (v3 + 2) / 3 * 3) v2) then (g_H_mend S v3.toNatClampNeg (S.1 14 v1 1) ((S.1 14 v1 2) + (v2 * 8)) (f_P_copiedBlock S v1 ((v3 + 1) - (v3 + 1) / 3 * 3) v2)) else S))
set_option maxHeartbeats 4000000 in
set_option maxRecDepth 100000 in
theorem rg_X_mendBlock_7 {D : va_G} {C : Nat → ClassId} {ad : Nat → Nat → Nat} {S : z_S} {p : Program} {l : Launch} {e : Env} {s : State} {m : MethodId} {args : Array Value} {below : List Frame} {meth : Method} {c : Code} {H H0 : Heap} {locs : List Loc} {Q : State → Prop} {ls : Array Slot} {v1 : Nat} {v2 : Int32} {v3 : Int32}  (hF : z_F D C ad p m c b_X_mendBlock 7 s args R_X) (hv1 : v1 < z_n 14) (hok : z_Ok S) (hv : vp_in v3 3) (hh : vp_in v2 2) (hG : z_G D C ad H0 S H locs) (hl : lv_has ls 7 [(0, .ref (ad 0 0)), (1, .ref (ad 14 v1)), (2, .int v2), (3, .int v3)]) (kk : ∀ (H : Heap) (locs : List Loc) (ls : Array Slot) (S1 : z_S), z_G D C ad H0 S1 H locs → lv_has ls 7 [(0, .ref (ad 0 0)), (1, .ref (ad 14 v1)), (2, .int v2), (3, .int v3)] → rg_X_mendBlock_7_S1 S v1 v2 v3 = S1 → W p l e rm_X_mendBlock s m args below meth c H locs 0 0 Q (F0 m 77 ls [])) : W p l e rm_X_mendBlock s m args below meth c H locs 0 0 Q (F0 m 7 ls []) := by
  obtain ⟨hx, hb, hml, hown, hts⟩ := hF.1
  refine lv_aload_n hx hb d_X_mendBlock_7 rfl (lv_at hl 1 rfl) ?_
  refine lv_iload_n hx hb d_X_mendBlock_8 rfl (lv_at hl 3 rfl) ?_
  refine lv_iload_n hx hb d_X_mendBlock_9 rfl (lv_at hl 2 rfl) ?_
  refine kc_X_222 hF (c_P_copiedBlock l D C ad hF.2.2 _ _ hv1 _ _ hv) hG hv1 ⟨Nat.le_of_ble_eq_true rfl, Nat.le_of_ble_eq_true rfl⟩ ⟨Nat.zero_le _, Nat.zero_le _⟩ hl.1 (Nat.le_of_ble_eq_true rfl) d_X_mendBlock_10 (fun H locs hG => ?_)
  refine lv_istore (lv' := [(4, .int (f_P_copiedBlock S v1 v3 v2)), (0, .ref (ad 0 0)), (1, .ref (ad 14 v1)), (2, .int v2), (3, .int v3)]) hx hb d_X_mendBlock_13 hl (Nat.le_of_ble_eq_true rfl) rfl (fun ls hl => ?_)
  refine lv_aload_n hx hb d_X_mendBlock_15 rfl (lv_at hl 2 rfl) ?_
  refine lv_iload_n hx hb d_X_mendBlock_16 rfl (lv_at hl 4 rfl) ?_
  refine lv_iconst (v := 1) hx hb d_X_mendBlock_17 z_k1 ?_
  refine lv_iadd hx hb d_X_mendBlock_18 ?_
  refine lv_iconst (v := 3) hx hb d_X_mendBlock_19 z_k3 ?_
  refine lv_irem hx hb d_X_mendBlock_20 (by decide) ?_
  refine lv_iload_n hx hb d_X_mendBlock_21 rfl (lv_at hl 3 rfl) ?_
  refine kc_X_222 hF (c_P_copiedBlock l D C ad hF.2.2 _ _ hv1 _ _ (z_m31 hv)) hG hv1 ⟨Nat.le_of_ble_eq_true rfl, Nat.le_of_ble_eq_true rfl⟩ ⟨Nat.zero_le _, Nat.zero_le _⟩ hl.1 (Nat.le_of_ble_eq_true rfl) d_X_mendBlock_22 (fun H locs hG => ?_)
  refine lv_istore (lv' := [(5, .int (f_P_copiedBlock S v1 ((v3 + 1) - (v3 + 1) / 3 * 3) v2)), (4, .int (f_P_copiedBlock S v1 v3 v2)), (0, .ref (ad 0 0)), (1, .ref (ad 14 v1)), (2, .int v2), (3, .int v3)]) hx hb d_X_mendBlock_25 hl (Nat.le_of_ble_eq_true rfl) rfl (fun ls hl => ?_)
  refine lv_aload_n hx hb d_X_mendBlock_27 rfl (lv_at hl 3 rfl) ?_
  refine lv_iload_n hx hb d_X_mendBlock_28 rfl (lv_at hl 5 rfl) ?_
  refine lv_iconst (v := 2) hx hb d_X_mendBlock_29 z_k2 ?_
  refine lv_iadd hx hb d_X_mendBlock_30 ?_
  refine lv_iconst (v := 3) hx hb d_X_mendBlock_31 z_k3 ?_
  refine lv_irem hx hb d_X_mendBlock_32 (by decide) ?_
  refine lv_iload_n hx hb d_X_mendBlock_33 rfl (lv_at hl 4 rfl) ?_
  refine kc_X_222 hF (c_P_copiedBlock l D C ad hF.2.2 _ _ hv1 _ _ (z_m32 hv)) hG hv1 ⟨Nat.le_of_ble_eq_true rfl, Nat.le_of_ble_eq_true rfl⟩ ⟨Nat.zero_le _, Nat.zero_le _⟩ hl.1 (Nat.le_of_ble_eq_true rfl) d_X_mendBlock_34 (fun H locs hG => ?_)
  refine lv_istore (lv' := [(6, .int (f_P_copiedBlock S v1 ((v3 + 2) - (v3 + 2) / 3 * 3) v2)), (5, .int (f_P_copiedBlock S v1 ((v3 + 1) - (v3 + 1) / 3 * 3) v2)), (4, .int (f_P_copiedBlock S v1 v3 v2)), (0, .ref (ad 0 0)), (1, .ref (ad 14 v1)), (2, .int v2), (3, .int v3)]) hx hb d_X_mendBlock_37 hl (Nat.le_of_ble_eq_true rfl) rfl (fun ls hl => ?_)
  refine lv_iload hx hb d_X_mendBlock_39 (lv_at hl 2 rfl) ?_
  refine lv_iload hx hb d_X_mendBlock_41 (lv_at hl 1 rfl) ?_
  refine lv_icmp_eq (tgt := 77) hx hb d_X_mendBlock_43 rfl (fun h43 => ?_) (fun h43 => ?_)
  ·
    exact kk _ _ _ _ hG (lv_sub hl [3, 4, 5, 6] rfl) ((if_pos h43).trans rfl)
  ·
    refine lv_iload hx hb d_X_mendBlock_46 (lv_at hl 1 rfl) ?_
    refine lv_iload hx hb d_X_mendBlock_48 (lv_at hl 0 rfl) ?_
    refine lv_icmp_ne (tgt := 77) hx hb d_X_mendBlock_50 rfl (fun h50 => ?_) (fun h50 => ?_)
    ·
      exact kk _ _ _ _ hG (lv_sub hl [3, 4, 5, 6] rfl) ((if_neg h43).trans ((if_neg h50).trans rfl))
    ·
      refine lv_aload_n hx hb d_X_mendBlock_53 rfl (lv_at hl 3 rfl) ?_
      refine gf_X_11_0 hF hG d_X_mendBlock_54 ?_
      refine lv_iload_n hx hb d_X_mendBlock_57 rfl (lv_at hl 6 rfl) ?_
      have ho58 : v3.toNatClampNeg < z_n 12 := z_lt (n := 3) hv
      refine z_aald (n := 3) (K := 3) (t0 := 3) (Cn := R_H) (j := v3.toNatClampNeg) (v := ad 12 v3.toNatClampNeg) hF hG z_o1 (z_c1 C ad _ _ _) rfl rfl hv rfl d_X_mendBlock_58 ?_
      refine lv_aload_n hx hb d_X_mendBlock_59 rfl (lv_at hl 4 rfl) ?_
      refine gf_X_185_14 hF hG hv1 (v := (S.1 14 v1 1)) rfl d_X_mendBlock_60 ?_
      refine lv_aload_n hx hb d_X_mendBlock_63 rfl (lv_at hl 4 rfl) ?_
      refine gf_X_188_14 hF hG hv1 (v := (S.1 14 v1 2)) rfl d_X_mendBlock_64 ?_
      refine lv_iload_n hx hb d_X_mendBlock_67 rfl (lv_at hl 5 rfl) ?_
      refine lv_bipush (v := 8) hx hb d_X_mendBlock_68 z_bi8 ?_
      refine lv_imul hx hb d_X_mendBlock_70 ?_
      refine lv_iadd hx hb d_X_mendBlock_71 ?_
      refine lv_iload hx hb d_X_mendBlock_72 (lv_at hl 1 rfl) ?_
      refine kc_X_225 hF (c_H_mend l D C ad hF.2.2 _ _ ho58 _ _ _ (z_mnd hok hv1 hh)) hG ho58 ⟨Nat.le_of_ble_eq_true rfl, Nat.le_of_ble_eq_true rfl⟩ ⟨Nat.zero_le _, Nat.zero_le _⟩ hl.1 (Nat.le_of_ble_eq_true rfl) d_X_mendBlock_74 (fun H locs hG => ?_)
      exact kk _ _ _ _ hG (lv_sub hl [3, 4, 5, 6] rfl) ((if_neg h43).trans ((if_pos h50).trans rfl))
theorem ok_rg_X_mendBlock_7 {S : z_S} {v1 : Nat} {v2 : Int32} {v3 : Int32} (hok : z_Ok S) : z_Ok (rg_X_mendBlock_7_S1 S v1 v2 v3) := by
  unfold rg_X_mendBlock_7_S1
  repeat' split
  all_goals first | exact hok | exact ok_H_mend hok
def g_X_mendBlock (S : z_S) (x0 : Nat) (x1 : Int32) : z_S := (rg_X_mendBlock_7_S1 (rg_X_mendBlock_7_S1 (rg_X_mendBlock_7_S1 S x0 x1 0) x0 x1 1) x0 x1 2)
set_option maxHeartbeats 4000000 in
set_option maxRecDepth 100000 in
theorem c_X_mendBlock (l : Launch) (D : va_G) (C : Nat → ClassId) (ad : Nat → Nat → Nat) (hJ : z_J ad) (S : z_S) (x0 : Nat) (hx0 : x0 < z_n 14) (x1 : Int32) (hok : z_Ok S) (hh : vp_in x1 2) : z_M l y_X_mendBlock b_X_mendBlock 7 none rm_X_mendBlock D C ad [.ref (ad 0 0), .ref (ad 14 x0), .int x1] S (z_Qv D C ad (g_X_mendBlock S x0 x1)) := by
  refine z_enter (by decide) (Nat.le_of_ble_eq_true rfl) hJ ?_
  intro p e s m below meth c ls hF hr hlk hl hG
  obtain ⟨hx, hb, hml, hown, hts⟩ := hF.1
  have hl : lv_has ls 7 [(0, .ref (ad 0 0)), (1, .ref (ad 14 x0)), (2, .int x1)] := hl
  refine lv_iconst (v := 0) hx hb d_X_mendBlock_0 z_k0 ?_
  refine lv_istore_n (lv' := [(3, .int 0), (0, .ref (ad 0 0)), (1, .ref (ad 14 x0)), (2, .int x1)]) hx hb d_X_mendBlock_1 rfl hl (Nat.le_of_ble_eq_true rfl) rfl (fun ls hl => ?_)
  refine lv_iload_n hx hb d_X_mendBlock_2 rfl (lv_at hl 0 rfl) ?_
  refine lv_iconst (v := 3) hx hb d_X_mendBlock_3 z_k3 ?_
  refine lv_icmp_ge (tgt := 83) hx hb d_X_mendBlock_4 rfl (fun h => absurd h (by decide)) (fun _ => ?_)
  refine rg_X_mendBlock_7 hF hx0 hok z_in0_3 hh hG (lv_sub hl [1, 2, 3, 0] rfl) (fun H locs ls S1 hG hl e_S1 => ?_)
  subst e_S1
  have hok : z_Ok (rg_X_mendBlock_7_S1 S x0 x1 0) := ok_rg_X_mendBlock_7 hok
  refine lv_iinc (k := 3) (v := 1) (lv' := [(3, .int 1), (0, .ref (ad 0 0)), (1, .ref (ad 14 x0)), (2, .int x1)]) hx hb d_X_mendBlock_77 hl rfl (by decide) (Nat.le_of_ble_eq_true rfl) rfl (fun ls hl => ?_)
  refine lv_goto (tgt := 2) hx hb d_X_mendBlock_80 rfl ?_
  refine lv_iload_n hx hb d_X_mendBlock_2 rfl (lv_at hl 0 rfl) ?_
  refine lv_iconst (v := 3) hx hb d_X_mendBlock_3 z_k3 ?_
  refine lv_icmp_ge (tgt := 83) hx hb d_X_mendBlock_4 rfl (fun h => absurd h (by decide)) (fun _ => ?_)
  refine rg_X_mendBlock_7 hF hx0 hok z_in1_3 hh hG (lv_sub hl [1, 2, 3, 0] rfl) (fun H locs ls S1 hG hl e_S1 => ?_)
  subst e_S1
  have hok : z_Ok (rg_X_mendBlock_7_S1 (rg_X_mendBlock_7_S1 S x0 x1 0) x0 x1 1) := ok_rg_X_mendBlock_7 hok
  refine lv_iinc (k := 3) (v := 2) (lv' := [(3, .int 2), (0, .ref (ad 0 0)), (1, .ref (ad 14 x0)), (2, .int x1)]) hx hb d_X_mendBlock_77 hl rfl (by decide) (Nat.le_of_ble_eq_true rfl) rfl (fun ls hl => ?_)
  refine lv_goto (tgt := 2) hx hb d_X_mendBlock_80 rfl ?_
  refine lv_iload_n hx hb d_X_mendBlock_2 rfl (lv_at hl 0 rfl) ?_
  refine lv_iconst (v := 3) hx hb d_X_mendBlock_3 z_k3 ?_
  refine lv_icmp_ge (tgt := 83) hx hb d_X_mendBlock_4 rfl (fun h => absurd h (by decide)) (fun _ => ?_)
  refine rg_X_mendBlock_7 hF hx0 hok z_in2_3 hh hG (lv_sub hl [1, 2, 3, 0] rfl) (fun H locs ls S1 hG hl e_S1 => ?_)
  subst e_S1
  have hok : z_Ok (rg_X_mendBlock_7_S1 (rg_X_mendBlock_7_S1 (rg_X_mendBlock_7_S1 S x0 x1 0) x0 x1 1) x0 x1 2) := ok_rg_X_mendBlock_7 hok
  refine lv_iinc (k := 3) (v := 3) (lv' := [(3, .int 3), (0, .ref (ad 0 0)), (1, .ref (ad 14 x0)), (2, .int x1)]) hx hb d_X_mendBlock_77 hl rfl (by decide) (Nat.le_of_ble_eq_true rfl) rfl (fun ls hl => ?_)
  refine lv_goto (tgt := 2) hx hb d_X_mendBlock_80 rfl ?_
  refine lv_iload_n hx hb d_X_mendBlock_2 rfl (lv_at hl 0 rfl) ?_
  refine lv_iconst (v := 3) hx hb d_X_mendBlock_3 z_k3 ?_
  refine lv_icmp_ge (tgt := 83) hx hb d_X_mendBlock_4 rfl (fun _ => ?_) (fun h => absurd h (by decide))
  exact z_vret hF hr hlk hG rfl d_X_mendBlock_83
theorem ok_X_mendBlock {S : z_S} {x0 : Nat} {x1 : Int32} (hok : z_Ok S) : z_Ok (g_X_mendBlock S x0 x1) := by
  unfold g_X_mendBlock
  exact ok_rg_X_mendBlock_7 (ok_rg_X_mendBlock_7 (ok_rg_X_mendBlock_7 hok))
def f_X_decide (S : z_S) (x0 : Nat) : Int32 := (if (f_P_copiesAllDiffer S x0 0) = 0 then (if (f_P_copiesAllDiffer S x0 1) = 0 then (if (f_X_allHousesOpen S) = 0 then 4 else (if (f_X_areCopiesCurrent S x0) = 0 then 4 else 2)) else 3) else 3)
def g_X_decide (S : z_S) (x0 : Nat) : z_S := (if (f_P_copiesAllDiffer S x0 0) = 0 then (if (f_P_copiesAllDiffer S x0 1) = 0 then (if (f_X_allHousesOpen S) = 0 then S else (if (f_X_areCopiesCurrent S x0) = 0 then S else (g_X_mendBlock (g_X_mendBlock S x0 0) x0 1))) else S) else S)
set_option maxHeartbeats 4000000 in
set_option maxRecDepth 100000 in
theorem c_X_decide (l : Launch) (D : va_G) (C : Nat → ClassId) (ad : Nat → Nat → Nat) (hJ : z_J ad) (S : z_S) (x0 : Nat) (hx0 : x0 < z_n 14) (hok : z_Ok S) : z_M l y_X_decide b_X_decide 2 (some .int) rm_X_decide D C ad [.ref (ad 0 0), .ref (ad 14 x0)] S (z_Qi D C ad (f_X_decide S x0) (g_X_decide S x0)) := by
  refine z_enter (by decide) (Nat.le_of_ble_eq_true rfl) hJ ?_
  intro p e s m below meth c ls hF hr hlk hl hG
  obtain ⟨hx, hb, hml, hown, hts⟩ := hF.1
  have hl : lv_has ls 2 [(0, .ref (ad 0 0)), (1, .ref (ad 14 x0))] := hl
  refine lv_aload_n hx hb d_X_decide_0 rfl (lv_at hl 1 rfl) ?_
  refine lv_iconst (v := 0) hx hb d_X_decide_1 z_k0 ?_
  refine kc_X_209 hF (c_P_copiesAllDiffer l D C ad hF.2.2 _ _ hx0 _ ) hG hx0 ⟨Nat.le_of_ble_eq_true rfl, Nat.le_of_ble_eq_true rfl⟩ ⟨Nat.zero_le _, Nat.zero_le _⟩ hl.1 (Nat.le_of_ble_eq_true rfl) d_X_decide_2 (fun H locs hG => ?_)
  refine lv_if_ne (tgt := 16) hx hb d_X_decide_5 rfl (fun h5 => ?_) (fun h5 => ?_)
  ·
    refine lv_iconst (v := 3) hx hb d_X_decide_16 z_k3 ?_
    exact z_iret hF hr hlk hG (Eq.symm ((if_neg h5).trans rfl)) (Eq.symm ((if_neg h5).trans rfl)) d_X_decide_17
  ·
    refine lv_aload_n hx hb d_X_decide_8 rfl (lv_at hl 1 rfl) ?_
    refine lv_iconst (v := 1) hx hb d_X_decide_9 z_k1 ?_
    refine kc_X_209 hF (c_P_copiesAllDiffer l D C ad hF.2.2 _ _ hx0 _ ) hG hx0 ⟨Nat.le_of_ble_eq_true rfl, Nat.le_of_ble_eq_true rfl⟩ ⟨Nat.zero_le _, Nat.zero_le _⟩ hl.1 (Nat.le_of_ble_eq_true rfl) d_X_decide_10 (fun H locs hG => ?_)
    refine lv_if_eq (tgt := 18) hx hb d_X_decide_13 rfl (fun h13 => ?_) (fun h13 => ?_)
    ·
      refine lv_aload_n hx hb d_X_decide_18 rfl (lv_at hl 0 rfl) ?_
      refine kc_X_55 hF (c_X_allHousesOpen l D C ad hF.2.2 _ ) hG ⟨Nat.le_of_ble_eq_true rfl, Nat.le_of_ble_eq_true rfl⟩ ⟨Nat.zero_le _, Nat.zero_le _⟩ hl.1 (Nat.le_of_ble_eq_true rfl) d_X_decide_19 (fun H locs hG => ?_)
      refine lv_if_eq (tgt := 33) hx hb d_X_decide_22 rfl (fun h22 => ?_) (fun h22 => ?_)
      ·
        refine lv_iconst (v := 4) hx hb d_X_decide_33 z_k4 ?_
        exact z_iret hF hr hlk hG (Eq.symm ((if_pos h5).trans ((if_pos h13).trans ((if_pos h22).trans rfl)))) (Eq.symm ((if_pos h5).trans ((if_pos h13).trans ((if_pos h22).trans rfl)))) d_X_decide_34
      ·
        refine lv_aload_n hx hb d_X_decide_25 rfl (lv_at hl 0 rfl) ?_
        refine lv_aload_n hx hb d_X_decide_26 rfl (lv_at hl 1 rfl) ?_
        refine kc_X_212 hF (c_X_areCopiesCurrent l D C ad hF.2.2 _ _ hx0 hok) hG ⟨Nat.le_of_ble_eq_true rfl, Nat.le_of_ble_eq_true rfl⟩ ⟨Nat.zero_le _, Nat.zero_le _⟩ hl.1 (Nat.le_of_ble_eq_true rfl) d_X_decide_27 (fun H locs hG => ?_)
        refine lv_if_ne (tgt := 35) hx hb d_X_decide_30 rfl (fun h30 => ?_) (fun h30 => ?_)
        ·
          refine lv_aload_n hx hb d_X_decide_35 rfl (lv_at hl 0 rfl) ?_
          refine lv_aload_n hx hb d_X_decide_36 rfl (lv_at hl 1 rfl) ?_
          refine lv_iconst (v := 0) hx hb d_X_decide_37 z_k0 ?_
          refine kc_X_216 hF (c_X_mendBlock l D C ad hF.2.2 _ _ hx0 _ hok z_in0_2) hG ⟨Nat.le_of_ble_eq_true rfl, Nat.le_of_ble_eq_true rfl⟩ ⟨Nat.zero_le _, Nat.zero_le _⟩ hl.1 (Nat.le_of_ble_eq_true rfl) d_X_decide_38 (fun H locs hG => ?_)
          refine lv_aload_n hx hb d_X_decide_41 rfl (lv_at hl 0 rfl) ?_
          refine lv_aload_n hx hb d_X_decide_42 rfl (lv_at hl 1 rfl) ?_
          refine lv_iconst (v := 1) hx hb d_X_decide_43 z_k1 ?_
          refine kc_X_216 hF (c_X_mendBlock l D C ad hF.2.2 (g_X_mendBlock S x0 0) _ hx0 _ (ok_X_mendBlock hok) z_in1_2) hG ⟨Nat.le_of_ble_eq_true rfl, Nat.le_of_ble_eq_true rfl⟩ ⟨Nat.zero_le _, Nat.zero_le _⟩ hl.1 (Nat.le_of_ble_eq_true rfl) d_X_decide_44 (fun H locs hG => ?_)
          refine lv_iconst (v := 2) hx hb d_X_decide_47 z_k2 ?_
          exact z_iret hF hr hlk hG (Eq.symm ((if_pos h5).trans ((if_pos h13).trans ((if_neg h22).trans ((if_neg h30).trans rfl))))) (Eq.symm ((if_pos h5).trans ((if_pos h13).trans ((if_neg h22).trans ((if_neg h30).trans rfl))))) d_X_decide_48
        ·
          refine lv_iconst (v := 4) hx hb d_X_decide_33 z_k4 ?_
          exact z_iret hF hr hlk hG (Eq.symm ((if_pos h5).trans ((if_pos h13).trans ((if_neg h22).trans ((if_pos h30).trans rfl))))) (Eq.symm ((if_pos h5).trans ((if_pos h13).trans ((if_neg h22).trans ((if_pos h30).trans rfl))))) d_X_decide_34
    ·
      refine lv_iconst (v := 3) hx hb d_X_decide_16 z_k3 ?_
      exact z_iret hF hr hlk hG (Eq.symm ((if_pos h5).trans ((if_neg h13).trans rfl))) (Eq.symm ((if_pos h5).trans ((if_neg h13).trans rfl))) d_X_decide_17
theorem ok_X_decide {S : z_S} {x0 : Nat} (hok : z_Ok S) : z_Ok (g_X_decide S x0) := by
  unfold g_X_decide
  repeat' split
  all_goals first | exact hok | exact ok_X_mendBlock (ok_X_mendBlock hok)
def g_X_takeSum (S : z_S) (x0 : Nat) (x1 : Int32) (x2 : Int64) : z_S := (if (f_A_take_15 S x0 x1) = 0 then (g_A_take_15 S x0 x1 x2) else (if (f_A_isComplete_15 (g_A_take_15 S x0 x1 x2) x0) = 0 then (g_A_take_15 S x0 x1 x2) else (if (f_A_areAlike_15 (g_A_take_15 S x0 x1 x2) x0) = 0 then (g_X_sendToAwaited (g_A_take_15 S x0 x1 x2) x0) else (g_X_finish (g_A_take_15 S x0 x1 x2) x0 1))))
set_option maxHeartbeats 4000000 in
set_option maxRecDepth 100000 in
theorem c_X_takeSum (l : Launch) (D : va_G) (C : Nat → ClassId) (ad : Nat → Nat → Nat) (hJ : z_J ad) (S : z_S) (x0 : Nat) (hx0 : x0 < z_n 14) (x1 : Int32) (x2 : Int64) (hok : z_Ok S) (hh : vp_in x1 3) : z_M l y_X_takeSum b_X_takeSum 5 none rm_X_takeSum D C ad [.ref (ad 0 0), .ref (ad 14 x0), .int x1, .long x2] S (z_Qv D C ad (g_X_takeSum S x0 x1 x2)) := by
  refine z_enter (by decide) (Nat.le_of_ble_eq_true rfl) hJ ?_
  intro p e s m below meth c ls hF hr hlk hl hG
  obtain ⟨hx, hb, hml, hown, hts⟩ := hF.1
  have hl : lv_has ls 5 [(0, .ref (ad 0 0)), (1, .ref (ad 14 x0)), (2, .int x1), (3, .long x2)] := hl
  refine lv_aload_n hx hb d_X_takeSum_0 rfl (lv_at hl 1 rfl) ?_
  refine gf_X_156_14 hF hG hx0 d_X_takeSum_1 ?_
  refine lv_iload_n hx hb d_X_takeSum_4 rfl (lv_at hl 2 rfl) ?_
  refine lv_lload_n hx hb d_X_takeSum_5 rfl (lv_at hl 3 rfl) ?_
  refine kc_X_199_15 hF (c_A_take_15 l D C ad hF.2.2 _ _ hx0 _ _ hh) hG hx0 ⟨Nat.le_of_ble_eq_true rfl, Nat.le_of_ble_eq_true rfl⟩ ⟨Nat.zero_le _, Nat.zero_le _⟩ hl.1 (Nat.le_of_ble_eq_true rfl) d_X_takeSum_6 (fun H locs hG => ?_)
  have hok1 : z_Ok (g_A_take_15 S x0 x1 x2) := ok_A_take_15 hok
  refine lv_if_eq (tgt := 22) hx hb d_X_takeSum_9 rfl (fun h9 => ?_) (fun h9 => ?_)
  ·
    exact z_vret hF hr hlk hG (Eq.symm ((if_pos h9).trans rfl)) d_X_takeSum_22
  ·
    refine lv_aload_n hx hb d_X_takeSum_12 rfl (lv_at hl 1 rfl) ?_
    refine gf_X_156_14 hF hG hx0 d_X_takeSum_13 ?_
    refine kc_X_160_15 hF (c_A_isComplete_15 l D C ad hF.2.2 _ _ hx0 ) hG hx0 ⟨Nat.le_of_ble_eq_true rfl, Nat.le_of_ble_eq_true rfl⟩ ⟨Nat.zero_le _, Nat.zero_le _⟩ hl.1 (Nat.le_of_ble_eq_true rfl) d_X_takeSum_16 (fun H locs hG => ?_)
    refine lv_if_ne (tgt := 23) hx hb d_X_takeSum_19 rfl (fun h19 => ?_) (fun h19 => ?_)
    ·
      refine lv_aload_n hx hb d_X_takeSum_23 rfl (lv_at hl 1 rfl) ?_
      refine gf_X_156_14 hF hG hx0 d_X_takeSum_24 ?_
      refine kc_X_203_15 hF (c_A_areAlike_15 l D C ad hF.2.2 _ _ hx0 ) hG hx0 ⟨Nat.le_of_ble_eq_true rfl, Nat.le_of_ble_eq_true rfl⟩ ⟨Nat.zero_le _, Nat.zero_le _⟩ hl.1 (Nat.le_of_ble_eq_true rfl) d_X_takeSum_27 (fun H locs hG => ?_)
      refine lv_if_eq (tgt := 42) hx hb d_X_takeSum_30 rfl (fun h30 => ?_) (fun h30 => ?_)
      ·
        refine lv_aload_n hx hb d_X_takeSum_42 rfl (lv_at hl 0 rfl) ?_
        refine lv_aload_n hx hb d_X_takeSum_43 rfl (lv_at hl 1 rfl) ?_
        refine kc_X_95 hF (c_X_sendToAwaited l D C ad hF.2.2 (g_A_take_15 S x0 x1 x2) _ hx0 hok1) hG ⟨Nat.le_of_ble_eq_true rfl, Nat.le_of_ble_eq_true rfl⟩ ⟨Nat.zero_le _, Nat.zero_le _⟩ hl.1 (Nat.le_of_ble_eq_true rfl) d_X_takeSum_44 (fun H locs hG => ?_)
        refine lv_pop hx hb d_X_takeSum_47 rfl ?_
        exact z_vret hF hr hlk hG (Eq.symm ((if_neg h9).trans ((if_neg h19).trans ((if_pos h30).trans rfl)))) d_X_takeSum_48
      ·
        refine lv_aload_n hx hb d_X_takeSum_33 rfl (lv_at hl 0 rfl) ?_
        refine lv_aload_n hx hb d_X_takeSum_34 rfl (lv_at hl 1 rfl) ?_
        refine lv_iconst (v := 1) hx hb d_X_takeSum_35 z_k1 ?_
        refine kc_X_136 hF (c_X_finish l D C ad hF.2.2 (g_A_take_15 S x0 x1 x2) _ hx0 _ hok1) hG ⟨Nat.le_of_ble_eq_true rfl, Nat.le_of_ble_eq_true rfl⟩ ⟨Nat.zero_le _, Nat.zero_le _⟩ hl.1 (Nat.le_of_ble_eq_true rfl) d_X_takeSum_36 (fun H locs hG => ?_)
        refine lv_goto (tgt := 48) hx hb d_X_takeSum_39 rfl ?_
        exact z_vret hF hr hlk hG (Eq.symm ((if_neg h9).trans ((if_neg h19).trans ((if_neg h30).trans rfl)))) d_X_takeSum_48
    ·
      exact z_vret hF hr hlk hG (Eq.symm ((if_neg h9).trans ((if_pos h19).trans rfl))) d_X_takeSum_22
def g_X_takeCopy (S : z_S) (x0 : Nat) (x1 : Int32) (x2 : Int64) : z_S := (if (f_A_isComplete_15 S x0) = 0 then S else (if (f_A_take_18 S x0 x1) = 0 then (g_A_take_18 S x0 x1 x2) else (if (f_A_isComplete_18 (g_A_take_18 S x0 x1 x2) x0) = 0 then (g_A_take_18 S x0 x1 x2) else (g_X_finish (g_X_decide (g_A_take_18 S x0 x1 x2) x0) x0 (f_X_decide (g_A_take_18 S x0 x1 x2) x0)))))
set_option maxHeartbeats 4000000 in
set_option maxRecDepth 100000 in
theorem c_X_takeCopy (l : Launch) (D : va_G) (C : Nat → ClassId) (ad : Nat → Nat → Nat) (hJ : z_J ad) (S : z_S) (x0 : Nat) (hx0 : x0 < z_n 14) (x1 : Int32) (x2 : Int64) (hok : z_Ok S) (hh : vp_in x1 3) : z_M l y_X_takeCopy b_X_takeCopy 5 none rm_X_takeCopy D C ad [.ref (ad 0 0), .ref (ad 14 x0), .int x1, .long x2] S (z_Qv D C ad (g_X_takeCopy S x0 x1 x2)) := by
  refine z_enter (by decide) (Nat.le_of_ble_eq_true rfl) hJ ?_
  intro p e s m below meth c ls hF hr hlk hl hG
  obtain ⟨hx, hb, hml, hown, hts⟩ := hF.1
  have hl : lv_has ls 5 [(0, .ref (ad 0 0)), (1, .ref (ad 14 x0)), (2, .int x1), (3, .long x2)] := hl
  refine lv_aload_n hx hb d_X_takeCopy_0 rfl (lv_at hl 1 rfl) ?_
  refine gf_X_156_14 hF hG hx0 d_X_takeCopy_1 ?_
  refine kc_X_160_15 hF (c_A_isComplete_15 l D C ad hF.2.2 _ _ hx0 ) hG hx0 ⟨Nat.le_of_ble_eq_true rfl, Nat.le_of_ble_eq_true rfl⟩ ⟨Nat.zero_le _, Nat.zero_le _⟩ hl.1 (Nat.le_of_ble_eq_true rfl) d_X_takeCopy_4 (fun H locs hG => ?_)
  refine lv_if_eq (tgt := 42) hx hb d_X_takeCopy_7 rfl (fun h7 => ?_) (fun h7 => ?_)
  ·
    exact z_vret hF hr hlk hG (Eq.symm ((if_pos h7).trans rfl)) d_X_takeCopy_42
  ·
    refine lv_aload_n hx hb d_X_takeCopy_10 rfl (lv_at hl 1 rfl) ?_
    refine gf_X_165_14 hF hG hx0 d_X_takeCopy_11 ?_
    refine lv_iload_n hx hb d_X_takeCopy_14 rfl (lv_at hl 2 rfl) ?_
    refine lv_lload_n hx hb d_X_takeCopy_15 rfl (lv_at hl 3 rfl) ?_
    refine kc_X_199_18 hF (c_A_take_18 l D C ad hF.2.2 _ _ hx0 _ _ hh) hG hx0 ⟨Nat.le_of_ble_eq_true rfl, Nat.le_of_ble_eq_true rfl⟩ ⟨Nat.zero_le _, Nat.zero_le _⟩ hl.1 (Nat.le_of_ble_eq_true rfl) d_X_takeCopy_16 (fun H locs hG => ?_)
    have hok1 : z_Ok (g_A_take_18 S x0 x1 x2) := ok_A_take_18 hok
    refine lv_if_eq (tgt := 42) hx hb d_X_takeCopy_19 rfl (fun h19 => ?_) (fun h19 => ?_)
    ·
      exact z_vret hF hr hlk hG (Eq.symm ((if_neg h7).trans ((if_pos h19).trans rfl))) d_X_takeCopy_42
    ·
      refine lv_aload_n hx hb d_X_takeCopy_22 rfl (lv_at hl 1 rfl) ?_
      refine gf_X_165_14 hF hG hx0 d_X_takeCopy_23 ?_
      refine kc_X_160_18 hF (c_A_isComplete_18 l D C ad hF.2.2 _ _ hx0 ) hG hx0 ⟨Nat.le_of_ble_eq_true rfl, Nat.le_of_ble_eq_true rfl⟩ ⟨Nat.zero_le _, Nat.zero_le _⟩ hl.1 (Nat.le_of_ble_eq_true rfl) d_X_takeCopy_26 (fun H locs hG => ?_)
      refine lv_if_eq (tgt := 42) hx hb d_X_takeCopy_29 rfl (fun h29 => ?_) (fun h29 => ?_)
      ·
        exact z_vret hF hr hlk hG (Eq.symm ((if_neg h7).trans ((if_neg h19).trans ((if_pos h29).trans rfl)))) d_X_takeCopy_42
      ·
        refine lv_aload_n hx hb d_X_takeCopy_32 rfl (lv_at hl 0 rfl) ?_
        refine lv_aload_n hx hb d_X_takeCopy_33 rfl (lv_at hl 1 rfl) ?_
        refine lv_aload_n hx hb d_X_takeCopy_34 rfl (lv_at hl 0 rfl) ?_
        refine lv_aload_n hx hb d_X_takeCopy_35 rfl (lv_at hl 1 rfl) ?_
        refine kc_X_206 hF (c_X_decide l D C ad hF.2.2 (g_A_take_18 S x0 x1 x2) _ hx0 hok1) hG ⟨Nat.le_of_ble_eq_true rfl, Nat.le_of_ble_eq_true rfl⟩ ⟨Nat.zero_le _, Nat.zero_le _⟩ hl.1 (Nat.le_of_ble_eq_true rfl) d_X_takeCopy_36 (fun H locs hG => ?_)
        have hok2 : z_Ok (g_X_decide (g_A_take_18 S x0 x1 x2) x0) := ok_X_decide hok1
        refine kc_X_136 hF (c_X_finish l D C ad hF.2.2 (g_X_decide (g_A_take_18 S x0 x1 x2) x0) _ hx0 _ hok2) hG ⟨Nat.le_of_ble_eq_true rfl, Nat.le_of_ble_eq_true rfl⟩ ⟨Nat.zero_le _, Nat.zero_le _⟩ hl.1 (Nat.le_of_ble_eq_true rfl) d_X_takeCopy_39 (fun H locs hG => ?_)
        exact z_vret hF hr hlk hG (Eq.symm ((if_neg h7).trans ((if_neg h19).trans ((if_neg h29).trans rfl)))) d_X_takeCopy_42
def g_X_arrive (S : z_S) (x0 : Nat) (x1 : Int32) (x2 : Int32) (x3 : Int64) : z_S := (if x1 = 1 then (g_X_answerAsk S x0 x2) else (if x1 = 2 then (g_X_takeSum S x0 x2 x3) else (if x1 = 3 then (g_X_answerFetch S x0 x2) else (if x1 = 4 then (g_X_takeCopy S x0 x2 x3) else S))))
set_option maxHeartbeats 4000000 in
set_option maxRecDepth 100000 in
theorem c_X_arrive (l : Launch) (D : va_G) (C : Nat → ClassId) (ad : Nat → Nat → Nat) (hJ : z_J ad) (S : z_S) (x0 : Nat) (hx0 : x0 < z_n 14) (x1 : Int32) (x2 : Int32) (x3 : Int64) (hok : z_Ok S) (hh : vp_in x2 3) : z_M l y_X_arrive b_X_arrive 6 none rm_X_arrive D C ad [.ref (ad 0 0), .ref (ad 14 x0), .int x1, .int x2, .long x3] S (z_Qv D C ad (g_X_arrive S x0 x1 x2 x3)) := by
  refine z_enter (by decide) (Nat.le_of_ble_eq_true rfl) hJ ?_
  intro p e s m below meth c ls hF hr hlk hl hG
  obtain ⟨hx, hb, hml, hown, hts⟩ := hF.1
  have hl : lv_has ls 6 [(0, .ref (ad 0 0)), (1, .ref (ad 14 x0)), (2, .int x1), (3, .int x2), (4, .long x3)] := hl
  refine lv_iload_n hx hb d_X_arrive_0 rfl (lv_at hl 2 rfl) ?_
  by_cases h1v1 : x1 = 1
  ·
    refine lv_tableIn (tgt := 32) (off := 31) hx hb d_X_arrive_1 (by rw [h1v1]; decide) (by rw [h1v1]; decide) (by rw [h1v1]; rfl) rfl ?_
    refine lv_aload_n hx hb d_X_arrive_32 rfl (lv_at hl 0 rfl) ?_
    refine lv_aload_n hx hb d_X_arrive_33 rfl (lv_at hl 1 rfl) ?_
    refine lv_iload_n hx hb d_X_arrive_34 rfl (lv_at hl 3 rfl) ?_
    refine kc_X_172 hF (c_X_answerAsk l D C ad hF.2.2 _ _ hx0 _ hok hh) hG ⟨Nat.le_of_ble_eq_true rfl, Nat.le_of_ble_eq_true rfl⟩ ⟨Nat.zero_le _, Nat.zero_le _⟩ hl.1 (Nat.le_of_ble_eq_true rfl) d_X_arrive_35 (fun H locs hG => ?_)
    refine lv_goto (tgt := 72) hx hb d_X_arrive_38 rfl ?_
    exact z_vret hF hr hlk hG (Eq.symm ((if_pos h1v1).trans rfl)) d_X_arrive_72
  by_cases h1v2 : x1 = 2
  ·
    refine lv_tableIn (tgt := 41) (off := 40) hx hb d_X_arrive_1 (by rw [h1v2]; decide) (by rw [h1v2]; decide) (by rw [h1v2]; rfl) rfl ?_
    refine lv_aload_n hx hb d_X_arrive_41 rfl (lv_at hl 0 rfl) ?_
    refine lv_aload_n hx hb d_X_arrive_42 rfl (lv_at hl 1 rfl) ?_
    refine lv_iload_n hx hb d_X_arrive_43 rfl (lv_at hl 3 rfl) ?_
    refine lv_lload hx hb d_X_arrive_44 (lv_at hl 4 rfl) ?_
    refine kc_X_175 hF (c_X_takeSum l D C ad hF.2.2 _ _ hx0 _ _ hok hh) hG ⟨Nat.le_of_ble_eq_true rfl, Nat.le_of_ble_eq_true rfl⟩ ⟨Nat.zero_le _, Nat.zero_le _⟩ hl.1 (Nat.le_of_ble_eq_true rfl) d_X_arrive_46 (fun H locs hG => ?_)
    refine lv_goto (tgt := 72) hx hb d_X_arrive_49 rfl ?_
    exact z_vret hF hr hlk hG (Eq.symm ((if_neg h1v1).trans ((if_pos h1v2).trans rfl))) d_X_arrive_72
  by_cases h1v3 : x1 = 3
  ·
    refine lv_tableIn (tgt := 52) (off := 51) hx hb d_X_arrive_1 (by rw [h1v3]; decide) (by rw [h1v3]; decide) (by rw [h1v3]; rfl) rfl ?_
    refine lv_aload_n hx hb d_X_arrive_52 rfl (lv_at hl 0 rfl) ?_
    refine lv_aload_n hx hb d_X_arrive_53 rfl (lv_at hl 1 rfl) ?_
    refine lv_iload_n hx hb d_X_arrive_54 rfl (lv_at hl 3 rfl) ?_
    refine kc_X_179 hF (c_X_answerFetch l D C ad hF.2.2 _ _ hx0 _ hok hh) hG ⟨Nat.le_of_ble_eq_true rfl, Nat.le_of_ble_eq_true rfl⟩ ⟨Nat.zero_le _, Nat.zero_le _⟩ hl.1 (Nat.le_of_ble_eq_true rfl) d_X_arrive_55 (fun H locs hG => ?_)
    refine lv_goto (tgt := 72) hx hb d_X_arrive_58 rfl ?_
    exact z_vret hF hr hlk hG (Eq.symm ((if_neg h1v1).trans ((if_neg h1v2).trans ((if_pos h1v3).trans rfl)))) d_X_arrive_72
  by_cases h1v4 : x1 = 4
  ·
    refine lv_tableIn (tgt := 61) (off := 60) hx hb d_X_arrive_1 (by rw [h1v4]; decide) (by rw [h1v4]; decide) (by rw [h1v4]; rfl) rfl ?_
    refine lv_aload_n hx hb d_X_arrive_61 rfl (lv_at hl 0 rfl) ?_
    refine lv_aload_n hx hb d_X_arrive_62 rfl (lv_at hl 1 rfl) ?_
    refine lv_iload_n hx hb d_X_arrive_63 rfl (lv_at hl 3 rfl) ?_
    refine lv_lload hx hb d_X_arrive_64 (lv_at hl 4 rfl) ?_
    refine kc_X_182 hF (c_X_takeCopy l D C ad hF.2.2 _ _ hx0 _ _ hok hh) hG ⟨Nat.le_of_ble_eq_true rfl, Nat.le_of_ble_eq_true rfl⟩ ⟨Nat.zero_le _, Nat.zero_le _⟩ hl.1 (Nat.le_of_ble_eq_true rfl) d_X_arrive_66 (fun H locs hG => ?_)
    refine lv_goto (tgt := 72) hx hb d_X_arrive_69 rfl ?_
    exact z_vret hF hr hlk hG (Eq.symm ((if_neg h1v1).trans ((if_neg h1v2).trans ((if_neg h1v3).trans ((if_pos h1v4).trans rfl))))) d_X_arrive_72
  refine lv_tableOut (tgt := 72) hx hb d_X_arrive_1 (z_tab1_4 h1v1 h1v2 h1v3 h1v4) rfl ?_
  exact z_vret hF hr hlk hG (Eq.symm ((if_neg h1v1).trans ((if_neg h1v2).trans ((if_neg h1v3).trans ((if_neg h1v4).trans rfl))))) d_X_arrive_72
