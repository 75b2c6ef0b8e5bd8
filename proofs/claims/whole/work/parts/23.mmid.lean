def rg_M_placeOf_10_t0 (S : z_S) (v1 : Int32) (v2 : Int32) (v3 : Int32) : Int32 := (if v1 ≤ 0 then v2 else (if (S.1 26 0 v3.toNatClampNeg) = v1 then v3 else v2))
set_option maxHeartbeats 4000000 in
set_option maxRecDepth 100000 in
theorem rg_M_placeOf_10 {D : va_G} {C : Nat → ClassId} {ad : Nat → Nat → Nat} {S : z_S} {p : Program} {l : Launch} {e : Env} {s : State} {m : MethodId} {args : Array Value} {below : List Frame} {meth : Method} {c : Code} {H H0 : Heap} {locs : List Loc} {Q : State → Prop} {ls : Array Slot} {v1 : Int32} {v2 : Int32} {v3 : Int32}  (hF : z_F D C ad p m c b_M_placeOf 4 s args R_M)  (hv : vp_in v3 6) (hG : z_G D C ad H0 S H locs) (hl : lv_has ls 4 [(0, .ref (ad 21 0)), (1, .int v1), (2, .int v2), (3, .int v3)]) (kk : ∀ (H : Heap) (locs : List Loc) (ls : Array Slot) (t0 : Int32), z_G D C ad H0 S H locs → lv_has ls 4 [(0, .ref (ad 21 0)), (1, .int v1), (2, .int v2), (3, .int v3)] → rg_M_placeOf_10_t0 S v1 v2 v3 = t0 → W p l e rm_M_placeOf s m args below meth c H locs 0 0 Q (F0 m 29 ls [.int t0])) : W p l e rm_M_placeOf s m args below meth c H locs 0 0 Q (F0 m 10 ls []) := by
  obtain ⟨hx, hb, hml, hown, hts⟩ := hF.1
  refine lv_iload_n hx hb d_M_placeOf_10 rfl (lv_at hl 1 rfl) ?_
  refine lv_if_le (tgt := 28) hx hb d_M_placeOf_11 rfl (fun h11 => ?_) (fun h11 => ?_)
  ·
    refine lv_iload_n hx hb d_M_placeOf_28 rfl (lv_at hl 2 rfl) ?_
    exact kk _ _ _ _ hG (lv_sub hl [0, 1, 2, 3] rfl) ((if_pos h11).trans rfl)
  ·
    refine lv_aload_n hx hb d_M_placeOf_14 rfl (lv_at hl 0 rfl) ?_
    refine gf_M_23_21 hF hG d_M_placeOf_15 ?_
    refine lv_iload_n hx hb d_M_placeOf_18 rfl (lv_at hl 3 rfl) ?_
    refine z_iald (n := 6) (j := v3.toNatClampNeg) (v := (S.1 26 0 v3.toNatClampNeg)) hF hG z_o26 (z_c26 C ad _ _ _) rfl hv rfl d_M_placeOf_19 ?_
    refine lv_iload_n hx hb d_M_placeOf_20 rfl (lv_at hl 1 rfl) ?_
    refine lv_icmp_ne (tgt := 28) hx hb d_M_placeOf_21 rfl (fun h21 => ?_) (fun h21 => ?_)
    ·
      refine lv_iload_n hx hb d_M_placeOf_28 rfl (lv_at hl 2 rfl) ?_
      exact kk _ _ _ _ hG (lv_sub hl [0, 1, 2, 3] rfl) ((if_neg h11).trans ((if_neg h21).trans rfl))
    ·
      refine lv_iload_n hx hb d_M_placeOf_24 rfl (lv_at hl 3 rfl) ?_
      refine lv_goto (tgt := 29) hx hb d_M_placeOf_25 rfl ?_
      exact kk _ _ _ _ hG (lv_sub hl [0, 1, 2, 3] rfl) ((if_neg h11).trans ((if_pos h21).trans rfl))
theorem z_pmo {S : z_S} {v1 v2 v3 : Int32} (h : z_mi v2) (h3 : vp_in v3 6) : z_mi (rg_M_placeOf_10_t0 S v1 v2 v3) := by
  unfold rg_M_placeOf_10_t0
  repeat' split
  all_goals first | exact h | exact Or.inr h3
def f_M_placeOf (S : z_S) (x0 : Int32) : Int32 := (rg_M_placeOf_10_t0 S x0 (rg_M_placeOf_10_t0 S x0 (rg_M_placeOf_10_t0 S x0 (rg_M_placeOf_10_t0 S x0 (rg_M_placeOf_10_t0 S x0 (rg_M_placeOf_10_t0 S x0 (-1) 0) 1) 2) 3) 4) 5)
set_option maxHeartbeats 4000000 in
set_option maxRecDepth 100000 in
theorem c_M_placeOf (l : Launch) (D : va_G) (C : Nat → ClassId) (ad : Nat → Nat → Nat) (hJ : z_J ad) (S : z_S) (x0 : Int32)  : z_M l y_M_placeOf b_M_placeOf 4 (some .int) rm_M_placeOf D C ad [.ref (ad 21 0), .int x0] S (z_Qi D C ad (f_M_placeOf S x0) S) := by
  refine z_enter (by decide) (Nat.le_of_ble_eq_true rfl) hJ ?_
  intro p e s m below meth c ls hF hr hlk hl hG
  obtain ⟨hx, hb, hml, hown, hts⟩ := hF.1
  have hl : lv_has ls 4 [(0, .ref (ad 21 0)), (1, .int x0)] := hl
  refine lv_iconst (v := (-1)) hx hb d_M_placeOf_0 z_km1 ?_
  refine lv_istore_n (lv' := [(2, .int (-1)), (0, .ref (ad 21 0)), (1, .int x0)]) hx hb d_M_placeOf_1 rfl hl (Nat.le_of_ble_eq_true rfl) rfl (fun ls hl => ?_)
  refine lv_iconst (v := 0) hx hb d_M_placeOf_2 z_k0 ?_
  refine lv_istore_n (lv' := [(3, .int 0), (2, .int (-1)), (0, .ref (ad 21 0)), (1, .int x0)]) hx hb d_M_placeOf_3 rfl hl (Nat.le_of_ble_eq_true rfl) rfl (fun ls hl => ?_)
  refine lv_iload_n hx hb d_M_placeOf_4 rfl (lv_at hl 0 rfl) ?_
  refine lv_bipush (v := 6) hx hb d_M_placeOf_5 z_bi6 ?_
  refine lv_icmp_ge (tgt := 36) hx hb d_M_placeOf_7 rfl (fun h => absurd h (by decide)) (fun _ => ?_)
  refine rg_M_placeOf_10 hF  z_in0_6 hG (lv_sub hl [2, 3, 1, 0] rfl) (fun H locs ls t0 hG hl e_t0 => ?_)
  subst e_t0
  refine lv_istore_n (lv' := [(2, .int (rg_M_placeOf_10_t0 S x0 (-1) 0)), (0, .ref (ad 21 0)), (1, .int x0), (3, .int 0)]) hx hb d_M_placeOf_29 rfl hl (Nat.le_of_ble_eq_true rfl) rfl (fun ls hl => ?_)
  refine lv_iinc (k := 3) (v := 1) (lv' := [(3, .int 1), (2, .int (rg_M_placeOf_10_t0 S x0 (-1) 0)), (0, .ref (ad 21 0)), (1, .int x0)]) hx hb d_M_placeOf_30 hl rfl (by decide) (Nat.le_of_ble_eq_true rfl) rfl (fun ls hl => ?_)
  refine lv_goto (tgt := 4) hx hb d_M_placeOf_33 rfl ?_
  refine lv_iload_n hx hb d_M_placeOf_4 rfl (lv_at hl 0 rfl) ?_
  refine lv_bipush (v := 6) hx hb d_M_placeOf_5 z_bi6 ?_
  refine lv_icmp_ge (tgt := 36) hx hb d_M_placeOf_7 rfl (fun h => absurd h (by decide)) (fun _ => ?_)
  refine rg_M_placeOf_10 hF  z_in1_6 hG (lv_sub hl [2, 3, 1, 0] rfl) (fun H locs ls t0 hG hl e_t0 => ?_)
  subst e_t0
  refine lv_istore_n (lv' := [(2, .int (rg_M_placeOf_10_t0 S x0 (rg_M_placeOf_10_t0 S x0 (-1) 0) 1)), (0, .ref (ad 21 0)), (1, .int x0), (3, .int 1)]) hx hb d_M_placeOf_29 rfl hl (Nat.le_of_ble_eq_true rfl) rfl (fun ls hl => ?_)
  refine lv_iinc (k := 3) (v := 2) (lv' := [(3, .int 2), (2, .int (rg_M_placeOf_10_t0 S x0 (rg_M_placeOf_10_t0 S x0 (-1) 0) 1)), (0, .ref (ad 21 0)), (1, .int x0)]) hx hb d_M_placeOf_30 hl rfl (by decide) (Nat.le_of_ble_eq_true rfl) rfl (fun ls hl => ?_)
  refine lv_goto (tgt := 4) hx hb d_M_placeOf_33 rfl ?_
  refine lv_iload_n hx hb d_M_placeOf_4 rfl (lv_at hl 0 rfl) ?_
  refine lv_bipush (v := 6) hx hb d_M_placeOf_5 z_bi6 ?_
  refine lv_icmp_ge (tgt := 36) hx hb d_M_placeOf_7 rfl (fun h => absurd h (by decide)) (fun _ => ?_)
  refine rg_M_placeOf_10 hF  z_in2_6 hG (lv_sub hl [2, 3, 1, 0] rfl) (fun H locs ls t0 hG hl e_t0 => ?_)
  subst e_t0
  refine lv_istore_n (lv' := [(2, .int (rg_M_placeOf_10_t0 S x0 (rg_M_placeOf_10_t0 S x0 (rg_M_placeOf_10_t0 S x0 (-1) 0) 1) 2)), (0, .ref (ad 21 0)), (1, .int x0), (3, .int 2)]) hx hb d_M_placeOf_29 rfl hl (Nat.le_of_ble_eq_true rfl) rfl (fun ls hl => ?_)
  refine lv_iinc (k := 3) (v := 3) (lv' := [(3, .int 3), (2, .int (rg_M_placeOf_10_t0 S x0 (rg_M_placeOf_10_t0 S x0 (rg_M_placeOf_10_t0 S x0 (-1) 0) 1) 2)), (0, .ref (ad 21 0)), (1, .int x0)]) hx hb d_M_placeOf_30 hl rfl (by decide) (Nat.le_of_ble_eq_true rfl) rfl (fun ls hl => ?_)
  refine lv_goto (tgt := 4) hx hb d_M_placeOf_33 rfl ?_
  refine lv_iload_n hx hb d_M_placeOf_4 rfl (lv_at hl 0 rfl) ?_
  refine lv_bipush (v := 6) hx hb d_M_placeOf_5 z_bi6 ?_
  refine lv_icmp_ge (tgt := 36) hx hb d_M_placeOf_7 rfl (fun h => absurd h (by decide)) (fun _ => ?_)
  refine rg_M_placeOf_10 hF  z_in3_6 hG (lv_sub hl [2, 3, 1, 0] rfl) (fun H locs ls t0 hG hl e_t0 => ?_)
  subst e_t0
  refine lv_istore_n (lv' := [(2, .int (rg_M_placeOf_10_t0 S x0 (rg_M_placeOf_10_t0 S x0 (rg_M_placeOf_10_t0 S x0 (rg_M_placeOf_10_t0 S x0 (-1) 0) 1) 2) 3)), (0, .ref (ad 21 0)), (1, .int x0), (3, .int 3)]) hx hb d_M_placeOf_29 rfl hl (Nat.le_of_ble_eq_true rfl) rfl (fun ls hl => ?_)
  refine lv_iinc (k := 3) (v := 4) (lv' := [(3, .int 4), (2, .int (rg_M_placeOf_10_t0 S x0 (rg_M_placeOf_10_t0 S x0 (rg_M_placeOf_10_t0 S x0 (rg_M_placeOf_10_t0 S x0 (-1) 0) 1) 2) 3)), (0, .ref (ad 21 0)), (1, .int x0)]) hx hb d_M_placeOf_30 hl rfl (by decide) (Nat.le_of_ble_eq_true rfl) rfl (fun ls hl => ?_)
  refine lv_goto (tgt := 4) hx hb d_M_placeOf_33 rfl ?_
  refine lv_iload_n hx hb d_M_placeOf_4 rfl (lv_at hl 0 rfl) ?_
  refine lv_bipush (v := 6) hx hb d_M_placeOf_5 z_bi6 ?_
  refine lv_icmp_ge (tgt := 36) hx hb d_M_placeOf_7 rfl (fun h => absurd h (by decide)) (fun _ => ?_)
  refine rg_M_placeOf_10 hF  z_in4_6 hG (lv_sub hl [2, 3, 1, 0] rfl) (fun H locs ls t0 hG hl e_t0 => ?_)
  subst e_t0
  refine lv_istore_n (lv' := [(2, .int (rg_M_placeOf_10_t0 S x0 (rg_M_placeOf_10_t0 S x0 (rg_M_placeOf_10_t0 S x0 (rg_M_placeOf_10_t0 S x0 (rg_M_placeOf_10_t0 S x0 (-1) 0) 1) 2) 3) 4)), (0, .ref (ad 21 0)), (1, .int x0), (3, .int 4)]) hx hb d_M_placeOf_29 rfl hl (Nat.le_of_ble_eq_true rfl) rfl (fun ls hl => ?_)
  refine lv_iinc (k := 3) (v := 5) (lv' := [(3, .int 5), (2, .int (rg_M_placeOf_10_t0 S x0 (rg_M_placeOf_10_t0 S x0 (rg_M_placeOf_10_t0 S x0 (rg_M_placeOf_10_t0 S x0 (rg_M_placeOf_10_t0 S x0 (-1) 0) 1) 2) 3) 4)), (0, .ref (ad 21 0)), (1, .int x0)]) hx hb d_M_placeOf_30 hl rfl (by decide) (Nat.le_of_ble_eq_true rfl) rfl (fun ls hl => ?_)
  refine lv_goto (tgt := 4) hx hb d_M_placeOf_33 rfl ?_
  refine lv_iload_n hx hb d_M_placeOf_4 rfl (lv_at hl 0 rfl) ?_
  refine lv_bipush (v := 6) hx hb d_M_placeOf_5 z_bi6 ?_
  refine lv_icmp_ge (tgt := 36) hx hb d_M_placeOf_7 rfl (fun h => absurd h (by decide)) (fun _ => ?_)
  refine rg_M_placeOf_10 hF  z_in5_6 hG (lv_sub hl [2, 3, 1, 0] rfl) (fun H locs ls t0 hG hl e_t0 => ?_)
  subst e_t0
  refine lv_istore_n (lv' := [(2, .int (rg_M_placeOf_10_t0 S x0 (rg_M_placeOf_10_t0 S x0 (rg_M_placeOf_10_t0 S x0 (rg_M_placeOf_10_t0 S x0 (rg_M_placeOf_10_t0 S x0 (rg_M_placeOf_10_t0 S x0 (-1) 0) 1) 2) 3) 4) 5)), (0, .ref (ad 21 0)), (1, .int x0), (3, .int 5)]) hx hb d_M_placeOf_29 rfl hl (Nat.le_of_ble_eq_true rfl) rfl (fun ls hl => ?_)
  refine lv_iinc (k := 3) (v := 6) (lv' := [(3, .int 6), (2, .int (rg_M_placeOf_10_t0 S x0 (rg_M_placeOf_10_t0 S x0 (rg_M_placeOf_10_t0 S x0 (rg_M_placeOf_10_t0 S x0 (rg_M_placeOf_10_t0 S x0 (rg_M_placeOf_10_t0 S x0 (-1) 0) 1) 2) 3) 4) 5)), (0, .ref (ad 21 0)), (1, .int x0)]) hx hb d_M_placeOf_30 hl rfl (by decide) (Nat.le_of_ble_eq_true rfl) rfl (fun ls hl => ?_)
  refine lv_goto (tgt := 4) hx hb d_M_placeOf_33 rfl ?_
  refine lv_iload_n hx hb d_M_placeOf_4 rfl (lv_at hl 0 rfl) ?_
  refine lv_bipush (v := 6) hx hb d_M_placeOf_5 z_bi6 ?_
  refine lv_icmp_ge (tgt := 36) hx hb d_M_placeOf_7 rfl (fun _ => ?_) (fun h => absurd h (by decide))
  refine lv_iload_n hx hb d_M_placeOf_36 rfl (lv_at hl 1 rfl) ?_
  exact z_iret hF hr hlk hG rfl rfl d_M_placeOf_37
theorem pl_M_placeOf {S : z_S} {x0 : Int32} : z_mi (f_M_placeOf S x0) := (z_pmo (z_pmo (z_pmo (z_pmo (z_pmo (z_pmo (Or.inl rfl) z_in0_6) z_in1_6) z_in2_6) z_in3_6) z_in4_6) z_in5_6)
def rg_M_poll_44_t0 (S : z_S) (v5 : Int32) (v6 : Int32) : Int32 := (if (S.1 26 0 v6.toNatClampNeg) = 0 then v6 else v5)
set_option maxHeartbeats 4000000 in
set_option maxRecDepth 100000 in
theorem rg_M_poll_44 {D : va_G} {C : Nat → ClassId} {ad : Nat → Nat → Nat} {S : z_S} {p : Program} {l : Launch} {e : Env} {s : State} {m : MethodId} {args : Array Value} {below : List Frame} {meth : Method} {c : Code} {H H0 : Heap} {locs : List Loc} {Q : State → Prop} {ls : Array Slot} {v1 : Int32} {v2 : Int32} {v3 : Int64} {v5 : Int32} {v6 : Int32}  (hF : z_F D C ad p m c b_M_poll 7 s args R_M)  (hv : vp_in v6 6) (hG : z_G D C ad H0 S H locs) (hl : lv_has ls 7 [(0, .ref (ad 21 0)), (1, .int v1), (2, .int v2), (3, .long v3), (5, .int v5), (6, .int v6)]) (kk : ∀ (H : Heap) (locs : List Loc) (ls : Array Slot) (t0 : Int32), z_G D C ad H0 S H locs → lv_has ls 7 [(0, .ref (ad 21 0)), (1, .int v1), (2, .int v2), (3, .long v3), (5, .int v5), (6, .int v6)] → rg_M_poll_44_t0 S v5 v6 = t0 → W p l e rm_M_poll s m args below meth c H locs 0 0 Q (F0 m 61 ls [.int t0])) : W p l e rm_M_poll s m args below meth c H locs 0 0 Q (F0 m 44 ls []) := by
  obtain ⟨hx, hb, hml, hown, hts⟩ := hF.1
  refine lv_aload_n hx hb d_M_poll_44 rfl (lv_at hl 0 rfl) ?_
  refine gf_M_23_21 hF hG d_M_poll_45 ?_
  refine lv_iload hx hb d_M_poll_48 (lv_at hl 5 rfl) ?_
  refine z_iald (n := 6) (j := v6.toNatClampNeg) (v := (S.1 26 0 v6.toNatClampNeg)) hF hG z_o26 (z_c26 C ad _ _ _) rfl hv rfl d_M_poll_50 ?_
  refine lv_if_ne (tgt := 59) hx hb d_M_poll_51 rfl (fun h51 => ?_) (fun h51 => ?_)
  ·
    refine lv_iload hx hb d_M_poll_59 (lv_at hl 4 rfl) ?_
    exact kk _ _ _ _ hG (lv_sub hl [0, 1, 2, 3, 4, 5] rfl) ((if_neg h51).trans rfl)
  ·
    refine lv_iload hx hb d_M_poll_54 (lv_at hl 5 rfl) ?_
    refine lv_goto (tgt := 61) hx hb d_M_poll_56 rfl ?_
    exact kk _ _ _ _ hG (lv_sub hl [0, 1, 2, 3, 4, 5] rfl) ((if_pos h51).trans rfl)
theorem z_pmp {S : z_S} {v5 v6 : Int32} (h : z_mi v5) (h3 : vp_in v6 6) : z_mi (rg_M_poll_44_t0 S v5 v6) := by
  unfold rg_M_poll_44_t0
  repeat' split
  all_goals first | exact h | exact Or.inr h3
def f_M_poll (S : z_S) (x0 : Int32) (x1 : Int32) (x2 : Int64) : Int32 := (if x0 < 0 then (-1) else (if 5 < x0 then (-1) else (if x1 < 0 then (-1) else (if x1 ≤ 7 then (if (f_M_sizeOf S x0 x1) = 0 then (-2) else (if 0 ≤ (rg_M_poll_44_t0 S (rg_M_poll_44_t0 S (rg_M_poll_44_t0 S (rg_M_poll_44_t0 S (rg_M_poll_44_t0 S (rg_M_poll_44_t0 S (-1) 5) 4) 3) 2) 1) 0) then ((g_M_come (g_M_come (g_M_come (z_sI (z_sI (z_sI (z_sI (z_sL (z_sI (z_sI (z_sI (z_sI S 21 0 3 ((S.1 21 0 3) + 1)) 26 0 ((rg_M_poll_44_t0 S (rg_M_poll_44_t0 S (rg_M_poll_44_t0 S (rg_M_poll_44_t0 S (rg_M_poll_44_t0 S (rg_M_poll_44_t0 S (-1) 5) 4) 3) 2) 1) 0).toNatClampNeg) ((S.1 21 0 3) + 1)) 27 0 ((rg_M_poll_44_t0 S (rg_M_poll_44_t0 S (rg_M_poll_44_t0 S (rg_M_poll_44_t0 S (rg_M_poll_44_t0 S (rg_M_poll_44_t0 S (-1) 5) 4) 3) 2) 1) 0).toNatClampNeg) x0) 28 0 ((rg_M_poll_44_t0 S (rg_M_poll_44_t0 S (rg_M_poll_44_t0 S (rg_M_poll_44_t0 S (rg_M_poll_44_t0 S (rg_M_poll_44_t0 S (-1) 5) 4) 3) 2) 1) 0).toNatClampNeg) x1) 29 0 ((rg_M_poll_44_t0 S (rg_M_poll_44_t0 S (rg_M_poll_44_t0 S (rg_M_poll_44_t0 S (rg_M_poll_44_t0 S (rg_M_poll_44_t0 S (-1) 5) 4) 3) 2) 1) 0).toNatClampNeg) x2) 30 0 ((rg_M_poll_44_t0 S (rg_M_poll_44_t0 S (rg_M_poll_44_t0 S (rg_M_poll_44_t0 S (rg_M_poll_44_t0 S (rg_M_poll_44_t0 S (-1) 5) 4) 3) 2) 1) 0).toNatClampNeg) (S.1 21 0 20)) 31 0 ((rg_M_poll_44_t0 S (rg_M_poll_44_t0 S (rg_M_poll_44_t0 S (rg_M_poll_44_t0 S (rg_M_poll_44_t0 S (rg_M_poll_44_t0 S (-1) 5) 4) 3) 2) 1) 0).toNatClampNeg) 0) 32 0 ((rg_M_poll_44_t0 S (rg_M_poll_44_t0 S (rg_M_poll_44_t0 S (rg_M_poll_44_t0 S (rg_M_poll_44_t0 S (rg_M_poll_44_t0 S (-1) 5) 4) 3) 2) 1) 0).toNatClampNeg) 0) 25 0 (((S.1 21 0 3) + 1).toNatClampNeg) 0) 1 ((S.1 21 0 3) + 1) 0) 1 ((g_M_come (z_sI (z_sI (z_sI (z_sI (z_sL (z_sI (z_sI (z_sI (z_sI S 21 0 3 ((S.1 21 0 3) + 1)) 26 0 ((rg_M_poll_44_t0 S (rg_M_poll_44_t0 S (rg_M_poll_44_t0 S (rg_M_poll_44_t0 S (rg_M_poll_44_t0 S (rg_M_poll_44_t0 S (-1) 5) 4) 3) 2) 1) 0).toNatClampNeg) ((S.1 21 0 3) + 1)) 27 0 ((rg_M_poll_44_t0 S (rg_M_poll_44_t0 S (rg_M_poll_44_t0 S (rg_M_poll_44_t0 S (rg_M_poll_44_t0 S (rg_M_poll_44_t0 S (-1) 5) 4) 3) 2) 1) 0).toNatClampNeg) x0) 28 0 ((rg_M_poll_44_t0 S (rg_M_poll_44_t0 S (rg_M_poll_44_t0 S (rg_M_poll_44_t0 S (rg_M_poll_44_t0 S (rg_M_poll_44_t0 S (-1) 5) 4) 3) 2) 1) 0).toNatClampNeg) x1) 29 0 ((rg_M_poll_44_t0 S (rg_M_poll_44_t0 S (rg_M_poll_44_t0 S (rg_M_poll_44_t0 S (rg_M_poll_44_t0 S (rg_M_poll_44_t0 S (-1) 5) 4) 3) 2) 1) 0).toNatClampNeg) x2) 30 0 ((rg_M_poll_44_t0 S (rg_M_poll_44_t0 S (rg_M_poll_44_t0 S (rg_M_poll_44_t0 S (rg_M_poll_44_t0 S (rg_M_poll_44_t0 S (-1) 5) 4) 3) 2) 1) 0).toNatClampNeg) (S.1 21 0 20)) 31 0 ((rg_M_poll_44_t0 S (rg_M_poll_44_t0 S (rg_M_poll_44_t0 S (rg_M_poll_44_t0 S (rg_M_poll_44_t0 S (rg_M_poll_44_t0 S (-1) 5) 4) 3) 2) 1) 0).toNatClampNeg) 0) 32 0 ((rg_M_poll_44_t0 S (rg_M_poll_44_t0 S (rg_M_poll_44_t0 S (rg_M_poll_44_t0 S (rg_M_poll_44_t0 S (rg_M_poll_44_t0 S (-1) 5) 4) 3) 2) 1) 0).toNatClampNeg) 0) 25 0 (((S.1 21 0 3) + 1).toNatClampNeg) 0) 1 ((S.1 21 0 3) + 1) 0).1 21 0 3) 1) 1 ((g_M_come (g_M_come (z_sI (z_sI (z_sI (z_sI (z_sL (z_sI (z_sI (z_sI (z_sI S 21 0 3 ((S.1 21 0 3) + 1)) 26 0 ((rg_M_poll_44_t0 S (rg_M_poll_44_t0 S (rg_M_poll_44_t0 S (rg_M_poll_44_t0 S (rg_M_poll_44_t0 S (rg_M_poll_44_t0 S (-1) 5) 4) 3) 2) 1) 0).toNatClampNeg) ((S.1 21 0 3) + 1)) 27 0 ((rg_M_poll_44_t0 S (rg_M_poll_44_t0 S (rg_M_poll_44_t0 S (rg_M_poll_44_t0 S (rg_M_poll_44_t0 S (rg_M_poll_44_t0 S (-1) 5) 4) 3) 2) 1) 0).toNatClampNeg) x0) 28 0 ((rg_M_poll_44_t0 S (rg_M_poll_44_t0 S (rg_M_poll_44_t0 S (rg_M_poll_44_t0 S (rg_M_poll_44_t0 S (rg_M_poll_44_t0 S (-1) 5) 4) 3) 2) 1) 0).toNatClampNeg) x1) 29 0 ((rg_M_poll_44_t0 S (rg_M_poll_44_t0 S (rg_M_poll_44_t0 S (rg_M_poll_44_t0 S (rg_M_poll_44_t0 S (rg_M_poll_44_t0 S (-1) 5) 4) 3) 2) 1) 0).toNatClampNeg) x2) 30 0 ((rg_M_poll_44_t0 S (rg_M_poll_44_t0 S (rg_M_poll_44_t0 S (rg_M_poll_44_t0 S (rg_M_poll_44_t0 S (rg_M_poll_44_t0 S (-1) 5) 4) 3) 2) 1) 0).toNatClampNeg) (S.1 21 0 20)) 31 0 ((rg_M_poll_44_t0 S (rg_M_poll_44_t0 S (rg_M_poll_44_t0 S (rg_M_poll_44_t0 S (rg_M_poll_44_t0 S (rg_M_poll_44_t0 S (-1) 5) 4) 3) 2) 1) 0).toNatClampNeg) 0) 32 0 ((rg_M_poll_44_t0 S (rg_M_poll_44_t0 S (rg_M_poll_44_t0 S (rg_M_poll_44_t0 S (rg_M_poll_44_t0 S (rg_M_poll_44_t0 S (-1) 5) 4) 3) 2) 1) 0).toNatClampNeg) 0) 25 0 (((S.1 21 0 3) + 1).toNatClampNeg) 0) 1 ((S.1 21 0 3) + 1) 0) 1 ((g_M_come (z_sI (z_sI (z_sI (z_sI (z_sL (z_sI (z_sI (z_sI (z_sI S 21 0 3 ((S.1 21 0 3) + 1)) 26 0 ((rg_M_poll_44_t0 S (rg_M_poll_44_t0 S (rg_M_poll_44_t0 S (rg_M_poll_44_t0 S (rg_M_poll_44_t0 S (rg_M_poll_44_t0 S (-1) 5) 4) 3) 2) 1) 0).toNatClampNeg) ((S.1 21 0 3) + 1)) 27 0 ((rg_M_poll_44_t0 S (rg_M_poll_44_t0 S (rg_M_poll_44_t0 S (rg_M_poll_44_t0 S (rg_M_poll_44_t0 S (rg_M_poll_44_t0 S (-1) 5) 4) 3) 2) 1) 0).toNatClampNeg) x0) 28 0 ((rg_M_poll_44_t0 S (rg_M_poll_44_t0 S (rg_M_poll_44_t0 S (rg_M_poll_44_t0 S (rg_M_poll_44_t0 S (rg_M_poll_44_t0 S (-1) 5) 4) 3) 2) 1) 0).toNatClampNeg) x1) 29 0 ((rg_M_poll_44_t0 S (rg_M_poll_44_t0 S (rg_M_poll_44_t0 S (rg_M_poll_44_t0 S (rg_M_poll_44_t0 S (rg_M_poll_44_t0 S (-1) 5) 4) 3) 2) 1) 0).toNatClampNeg) x2) 30 0 ((rg_M_poll_44_t0 S (rg_M_poll_44_t0 S (rg_M_poll_44_t0 S (rg_M_poll_44_t0 S (rg_M_poll_44_t0 S (rg_M_poll_44_t0 S (-1) 5) 4) 3) 2) 1) 0).toNatClampNeg) (S.1 21 0 20)) 31 0 ((rg_M_poll_44_t0 S (rg_M_poll_44_t0 S (rg_M_poll_44_t0 S (rg_M_poll_44_t0 S (rg_M_poll_44_t0 S (rg_M_poll_44_t0 S (-1) 5) 4) 3) 2) 1) 0).toNatClampNeg) 0) 32 0 ((rg_M_poll_44_t0 S (rg_M_poll_44_t0 S (rg_M_poll_44_t0 S (rg_M_poll_44_t0 S (rg_M_poll_44_t0 S (rg_M_poll_44_t0 S (-1) 5) 4) 3) 2) 1) 0).toNatClampNeg) 0) 25 0 (((S.1 21 0 3) + 1).toNatClampNeg) 0) 1 ((S.1 21 0 3) + 1) 0).1 21 0 3) 1).1 21 0 3) 2).1 21 0 3) else (-3))) else (-1)))))
def g_M_poll (S : z_S) (x0 : Int32) (x1 : Int32) (x2 : Int64) : z_S := (if x0 < 0 then S else (if 5 < x0 then S else (if x1 < 0 then S else (if x1 ≤ 7 then (if (f_M_sizeOf S x0 x1) = 0 then S else (if 0 ≤ (rg_M_poll_44_t0 S (rg_M_poll_44_t0 S (rg_M_poll_44_t0 S (rg_M_poll_44_t0 S (rg_M_poll_44_t0 S (rg_M_poll_44_t0 S (-1) 5) 4) 3) 2) 1) 0) then (g_M_come (g_M_come (g_M_come (z_sI (z_sI (z_sI (z_sI (z_sL (z_sI (z_sI (z_sI (z_sI S 21 0 3 ((S.1 21 0 3) + 1)) 26 0 ((rg_M_poll_44_t0 S (rg_M_poll_44_t0 S (rg_M_poll_44_t0 S (rg_M_poll_44_t0 S (rg_M_poll_44_t0 S (rg_M_poll_44_t0 S (-1) 5) 4) 3) 2) 1) 0).toNatClampNeg) ((S.1 21 0 3) + 1)) 27 0 ((rg_M_poll_44_t0 S (rg_M_poll_44_t0 S (rg_M_poll_44_t0 S (rg_M_poll_44_t0 S (rg_M_poll_44_t0 S (rg_M_poll_44_t0 S (-1) 5) 4) 3) 2) 1) 0).toNatClampNeg) x0) 28 0 ((rg_M_poll_44_t0 S (rg_M_poll_44_t0 S (rg_M_poll_44_t0 S (rg_M_poll_44_t0 S (rg_M_poll_44_t0 S (rg_M_poll_44_t0 S (-1) 5) 4) 3) 2) 1) 0).toNatClampNeg) x1) 29 0 ((rg_M_poll_44_t0 S (rg_M_poll_44_t0 S (rg_M_poll_44_t0 S (rg_M_poll_44_t0 S (rg_M_poll_44_t0 S (rg_M_poll_44_t0 S (-1) 5) 4) 3) 2) 1) 0).toNatClampNeg) x2) 30 0 ((rg_M_poll_44_t0 S (rg_M_poll_44_t0 S (rg_M_poll_44_t0 S (rg_M_poll_44_t0 S (rg_M_poll_44_t0 S (rg_M_poll_44_t0 S (-1) 5) 4) 3) 2) 1) 0).toNatClampNeg) (S.1 21 0 20)) 31 0 ((rg_M_poll_44_t0 S (rg_M_poll_44_t0 S (rg_M_poll_44_t0 S (rg_M_poll_44_t0 S (rg_M_poll_44_t0 S (rg_M_poll_44_t0 S (-1) 5) 4) 3) 2) 1) 0).toNatClampNeg) 0) 32 0 ((rg_M_poll_44_t0 S (rg_M_poll_44_t0 S (rg_M_poll_44_t0 S (rg_M_poll_44_t0 S (rg_M_poll_44_t0 S (rg_M_poll_44_t0 S (-1) 5) 4) 3) 2) 1) 0).toNatClampNeg) 0) 25 0 (((S.1 21 0 3) + 1).toNatClampNeg) 0) 1 ((S.1 21 0 3) + 1) 0) 1 ((g_M_come (z_sI (z_sI (z_sI (z_sI (z_sL (z_sI (z_sI (z_sI (z_sI S 21 0 3 ((S.1 21 0 3) + 1)) 26 0 ((rg_M_poll_44_t0 S (rg_M_poll_44_t0 S (rg_M_poll_44_t0 S (rg_M_poll_44_t0 S (rg_M_poll_44_t0 S (rg_M_poll_44_t0 S (-1) 5) 4) 3) 2) 1) 0).toNatClampNeg) ((S.1 21 0 3) + 1)) 27 0 ((rg_M_poll_44_t0 S (rg_M_poll_44_t0 S (rg_M_poll_44_t0 S (rg_M_poll_44_t0 S (rg_M_poll_44_t0 S (rg_M_poll_44_t0 S (-1) 5) 4) 3) 2) 1) 0).toNatClampNeg) x0) 28 0 ((rg_M_poll_44_t0 S (rg_M_poll_44_t0 S (rg_M_poll_44_t0 S (rg_M_poll_44_t0 S (rg_M_poll_44_t0 S (rg_M_poll_44_t0 S (-1) 5) 4) 3) 2) 1) 0).toNatClampNeg) x1) 29 0 ((rg_M_poll_44_t0 S (rg_M_poll_44_t0 S (rg_M_poll_44_t0 S (rg_M_poll_44_t0 S (rg_M_poll_44_t0 S (rg_M_poll_44_t0 S (-1) 5) 4) 3) 2) 1) 0).toNatClampNeg) x2) 30 0 ((rg_M_poll_44_t0 S (rg_M_poll_44_t0 S (rg_M_poll_44_t0 S (rg_M_poll_44_t0 S (rg_M_poll_44_t0 S (rg_M_poll_44_t0 S (-1) 5) 4) 3) 2) 1) 0).toNatClampNeg) (S.1 21 0 20)) 31 0 ((rg_M_poll_44_t0 S (rg_M_poll_44_t0 S (rg_M_poll_44_t0 S (rg_M_poll_44_t0 S (rg_M_poll_44_t0 S (rg_M_poll_44_t0 S (-1) 5) 4) 3) 2) 1) 0).toNatClampNeg) 0) 32 0 ((rg_M_poll_44_t0 S (rg_M_poll_44_t0 S (rg_M_poll_44_t0 S (rg_M_poll_44_t0 S (rg_M_poll_44_t0 S (rg_M_poll_44_t0 S (-1) 5) 4) 3) 2) 1) 0).toNatClampNeg) 0) 25 0 (((S.1 21 0 3) + 1).toNatClampNeg) 0) 1 ((S.1 21 0 3) + 1) 0).1 21 0 3) 1) 1 ((g_M_come (g_M_come (z_sI (z_sI (z_sI (z_sI (z_sL (z_sI (z_sI (z_sI (z_sI S 21 0 3 ((S.1 21 0 3) + 1)) 26 0 ((rg_M_poll_44_t0 S (rg_M_poll_44_t0 S (rg_M_poll_44_t0 S (rg_M_poll_44_t0 S (rg_M_poll_44_t0 S (rg_M_poll_44_t0 S (-1) 5) 4) 3) 2) 1) 0).toNatClampNeg) ((S.1 21 0 3) + 1)) 27 0 ((rg_M_poll_44_t0 S (rg_M_poll_44_t0 S (rg_M_poll_44_t0 S (rg_M_poll_44_t0 S (rg_M_poll_44_t0 S (rg_M_poll_44_t0 S (-1) 5) 4) 3) 2) 1) 0).toNatClampNeg) x0) 28 0 ((rg_M_poll_44_t0 S (rg_M_poll_44_t0 S (rg_M_poll_44_t0 S (rg_M_poll_44_t0 S (rg_M_poll_44_t0 S (rg_M_poll_44_t0 S (-1) 5) 4) 3) 2) 1) 0).toNatClampNeg) x1) 29 0 ((rg_M_poll_44_t0 S (rg_M_poll_44_t0 S (rg_M_poll_44_t0 S (rg_M_poll_44_t0 S (rg_M_poll_44_t0 S (rg_M_poll_44_t0 S (-1) 5) 4) 3) 2) 1) 0).toNatClampNeg) x2) 30 0 ((rg_M_poll_44_t0 S (rg_M_poll_44_t0 S (rg_M_poll_44_t0 S (rg_M_poll_44_t0 S (rg_M_poll_44_t0 S (rg_M_poll_44_t0 S (-1) 5) 4) 3) 2) 1) 0).toNatClampNeg) (S.1 21 0 20)) 31 0 ((rg_M_poll_44_t0 S (rg_M_poll_44_t0 S (rg_M_poll_44_t0 S (rg_M_poll_44_t0 S (rg_M_poll_44_t0 S (rg_M_poll_44_t0 S (-1) 5) 4) 3) 2) 1) 0).toNatClampNeg) 0) 32 0 ((rg_M_poll_44_t0 S (rg_M_poll_44_t0 S (rg_M_poll_44_t0 S (rg_M_poll_44_t0 S (rg_M_poll_44_t0 S (rg_M_poll_44_t0 S (-1) 5) 4) 3) 2) 1) 0).toNatClampNeg) 0) 25 0 (((S.1 21 0 3) + 1).toNatClampNeg) 0) 1 ((S.1 21 0 3) + 1) 0) 1 ((g_M_come (z_sI (z_sI (z_sI (z_sI (z_sL (z_sI (z_sI (z_sI (z_sI S 21 0 3 ((S.1 21 0 3) + 1)) 26 0 ((rg_M_poll_44_t0 S (rg_M_poll_44_t0 S (rg_M_poll_44_t0 S (rg_M_poll_44_t0 S (rg_M_poll_44_t0 S (rg_M_poll_44_t0 S (-1) 5) 4) 3) 2) 1) 0).toNatClampNeg) ((S.1 21 0 3) + 1)) 27 0 ((rg_M_poll_44_t0 S (rg_M_poll_44_t0 S (rg_M_poll_44_t0 S (rg_M_poll_44_t0 S (rg_M_poll_44_t0 S (rg_M_poll_44_t0 S (-1) 5) 4) 3) 2) 1) 0).toNatClampNeg) x0) 28 0 ((rg_M_poll_44_t0 S (rg_M_poll_44_t0 S (rg_M_poll_44_t0 S (rg_M_poll_44_t0 S (rg_M_poll_44_t0 S (rg_M_poll_44_t0 S (-1) 5) 4) 3) 2) 1) 0).toNatClampNeg) x1) 29 0 ((rg_M_poll_44_t0 S (rg_M_poll_44_t0 S (rg_M_poll_44_t0 S (rg_M_poll_44_t0 S (rg_M_poll_44_t0 S (rg_M_poll_44_t0 S (-1) 5) 4) 3) 2) 1) 0).toNatClampNeg) x2) 30 0 ((rg_M_poll_44_t0 S (rg_M_poll_44_t0 S (rg_M_poll_44_t0 S (rg_M_poll_44_t0 S (rg_M_poll_44_t0 S (rg_M_poll_44_t0 S (-1) 5) 4) 3) 2) 1) 0).toNatClampNeg) (S.1 21 0 20)) 31 0 ((rg_M_poll_44_t0 S (rg_M_poll_44_t0 S (rg_M_poll_44_t0 S (rg_M_poll_44_t0 S (rg_M_poll_44_t0 S (rg_M_poll_44_t0 S (-1) 5) 4) 3) 2) 1) 0).toNatClampNeg) 0) 32 0 ((rg_M_poll_44_t0 S (rg_M_poll_44_t0 S (rg_M_poll_44_t0 S (rg_M_poll_44_t0 S (rg_M_poll_44_t0 S (rg_M_poll_44_t0 S (-1) 5) 4) 3) 2) 1) 0).toNatClampNeg) 0) 25 0 (((S.1 21 0 3) + 1).toNatClampNeg) 0) 1 ((S.1 21 0 3) + 1) 0).1 21 0 3) 1).1 21 0 3) 2) else S)) else S))))
set_option maxHeartbeats 4000000 in
set_option maxRecDepth 100000 in
theorem c_M_poll (l : Launch) (D : va_G) (C : Nat → ClassId) (ad : Nat → Nat → Nat) (hJ : z_J ad) (S : z_S) (x0 : Int32) (x1 : Int32) (x2 : Int64) (hom : z_Om S) : z_M l y_M_poll b_M_poll 7 (some .int) rm_M_poll D C ad [.ref (ad 21 0), .int x0, .int x1, .long x2] S (z_Qi D C ad (f_M_poll S x0 x1 x2) (g_M_poll S x0 x1 x2)) := by
  refine z_enter (by decide) (Nat.le_of_ble_eq_true rfl) hJ ?_
  intro p e s m below meth c ls hF hr hlk hl hG
  obtain ⟨hx, hb, hml, hown, hts⟩ := hF.1
  have hl : lv_has ls 7 [(0, .ref (ad 21 0)), (1, .int x0), (2, .int x1), (3, .long x2)] := hl
  refine lv_iload_n hx hb d_M_poll_0 rfl (lv_at hl 1 rfl) ?_
  refine lv_if_lt (tgt := 19) hx hb d_M_poll_1 rfl (fun h1 => ?_) (fun h1 => ?_)
  ·
    refine lv_iconst (v := (-1)) hx hb d_M_poll_19 z_km1 ?_
    exact z_iret hF hr hlk hG (Eq.symm ((if_pos h1).trans rfl)) (Eq.symm ((if_pos h1).trans rfl)) d_M_poll_20
  ·
    refine lv_iload_n hx hb d_M_poll_4 rfl (lv_at hl 1 rfl) ?_
    refine lv_iconst (v := 5) hx hb d_M_poll_5 z_k5 ?_
    refine lv_icmp_gt (tgt := 19) hx hb d_M_poll_6 rfl (fun h6 => ?_) (fun h6 => ?_)
    ·
      refine lv_iconst (v := (-1)) hx hb d_M_poll_19 z_km1 ?_
      exact z_iret hF hr hlk hG (Eq.symm ((if_neg h1).trans ((if_pos h6).trans rfl))) (Eq.symm ((if_neg h1).trans ((if_pos h6).trans rfl))) d_M_poll_20
    ·
      refine lv_iload_n hx hb d_M_poll_9 rfl (lv_at hl 2 rfl) ?_
      refine lv_if_lt (tgt := 19) hx hb d_M_poll_10 rfl (fun h10 => ?_) (fun h10 => ?_)
      ·
        refine lv_iconst (v := (-1)) hx hb d_M_poll_19 z_km1 ?_
        exact z_iret hF hr hlk hG (Eq.symm ((if_neg h1).trans ((if_neg h6).trans ((if_pos h10).trans rfl)))) (Eq.symm ((if_neg h1).trans ((if_neg h6).trans ((if_pos h10).trans rfl)))) d_M_poll_20
      ·
        refine lv_iload_n hx hb d_M_poll_13 rfl (lv_at hl 2 rfl) ?_
        refine lv_bipush (v := 7) hx hb d_M_poll_14 z_bi7 ?_
        refine lv_icmp_le (tgt := 21) hx hb d_M_poll_16 rfl (fun h16 => ?_) (fun h16 => ?_)
        ·
          refine lv_aload_n hx hb d_M_poll_21 rfl (lv_at hl 0 rfl) ?_
          refine lv_iload_n hx hb d_M_poll_22 rfl (lv_at hl 1 rfl) ?_
          refine lv_iload_n hx hb d_M_poll_23 rfl (lv_at hl 2 rfl) ?_
          refine kc_M_90 hF (c_M_sizeOf l D C ad hF.2.2 _ _ _ ) hG ⟨Nat.le_of_ble_eq_true rfl, Nat.le_of_ble_eq_true rfl⟩ ⟨Nat.zero_le _, Nat.zero_le _⟩ hl.1 (Nat.le_of_ble_eq_true rfl) d_M_poll_24 (fun H locs hG => ?_)
          refine lv_if_ne (tgt := 33) hx hb d_M_poll_27 rfl (fun h27 => ?_) (fun h27 => ?_)
          ·
            refine lv_iconst (v := (-1)) hx hb d_M_poll_33 z_km1 ?_
            refine lv_istore (lv' := [(5, .int (-1)), (0, .ref (ad 21 0)), (1, .int x0), (2, .int x1), (3, .long x2)]) hx hb d_M_poll_34 hl (Nat.le_of_ble_eq_true rfl) rfl (fun ls hl => ?_)
            refine lv_iconst (v := 5) hx hb d_M_poll_36 z_k5 ?_
            refine lv_istore (lv' := [(6, .int 5), (5, .int (-1)), (0, .ref (ad 21 0)), (1, .int x0), (2, .int x1), (3, .long x2)]) hx hb d_M_poll_37 hl (Nat.le_of_ble_eq_true rfl) rfl (fun ls hl => ?_)
            refine lv_iload hx hb d_M_poll_39 (lv_at hl 0 rfl) ?_
            refine lv_if_lt (tgt := 69) hx hb d_M_poll_41 rfl (fun h => absurd h (by decide)) (fun _ => ?_)
            refine rg_M_poll_44 hF  z_in5_6 hG (lv_sub hl [2, 3, 4, 5, 1, 0] rfl) (fun H locs ls t0 hG hl e_t0 => ?_)
            subst e_t0
            refine lv_istore (lv' := [(5, .int (rg_M_poll_44_t0 S (-1) 5)), (0, .ref (ad 21 0)), (1, .int x0), (2, .int x1), (3, .long x2), (6, .int 5)]) hx hb d_M_poll_61 hl (Nat.le_of_ble_eq_true rfl) rfl (fun ls hl => ?_)
            refine lv_iinc (k := 5) (v := 4) (lv' := [(6, .int 4), (5, .int (rg_M_poll_44_t0 S (-1) 5)), (0, .ref (ad 21 0)), (1, .int x0), (2, .int x1), (3, .long x2)]) hx hb d_M_poll_63 hl rfl (by decide) (Nat.le_of_ble_eq_true rfl) rfl (fun ls hl => ?_)
            refine lv_goto (tgt := 39) hx hb d_M_poll_66 rfl ?_
            refine lv_iload hx hb d_M_poll_39 (lv_at hl 0 rfl) ?_
            refine lv_if_lt (tgt := 69) hx hb d_M_poll_41 rfl (fun h => absurd h (by decide)) (fun _ => ?_)
            refine rg_M_poll_44 hF  z_in4_6 hG (lv_sub hl [2, 3, 4, 5, 1, 0] rfl) (fun H locs ls t0 hG hl e_t0 => ?_)
            subst e_t0
            refine lv_istore (lv' := [(5, .int (rg_M_poll_44_t0 S (rg_M_poll_44_t0 S (-1) 5) 4)), (0, .ref (ad 21 0)), (1, .int x0), (2, .int x1), (3, .long x2), (6, .int 4)]) hx hb d_M_poll_61 hl (Nat.le_of_ble_eq_true rfl) rfl (fun ls hl => ?_)
            refine lv_iinc (k := 5) (v := 3) (lv' := [(6, .int 3), (5, .int (rg_M_poll_44_t0 S (rg_M_poll_44_t0 S (-1) 5) 4)), (0, .ref (ad 21 0)), (1, .int x0), (2, .int x1), (3, .long x2)]) hx hb d_M_poll_63 hl rfl (by decide) (Nat.le_of_ble_eq_true rfl) rfl (fun ls hl => ?_)
            refine lv_goto (tgt := 39) hx hb d_M_poll_66 rfl ?_
            refine lv_iload hx hb d_M_poll_39 (lv_at hl 0 rfl) ?_
            refine lv_if_lt (tgt := 69) hx hb d_M_poll_41 rfl (fun h => absurd h (by decide)) (fun _ => ?_)
            refine rg_M_poll_44 hF  z_in3_6 hG (lv_sub hl [2, 3, 4, 5, 1, 0] rfl) (fun H locs ls t0 hG hl e_t0 => ?_)
            subst e_t0
            refine lv_istore (lv' := [(5, .int (rg_M_poll_44_t0 S (rg_M_poll_44_t0 S (rg_M_poll_44_t0 S (-1) 5) 4) 3)), (0, .ref (ad 21 0)), (1, .int x0), (2, .int x1), (3, .long x2), (6, .int 3)]) hx hb d_M_poll_61 hl (Nat.le_of_ble_eq_true rfl) rfl (fun ls hl => ?_)
            refine lv_iinc (k := 5) (v := 2) (lv' := [(6, .int 2), (5, .int (rg_M_poll_44_t0 S (rg_M_poll_44_t0 S (rg_M_poll_44_t0 S (-1) 5) 4) 3)), (0, .ref (ad 21 0)), (1, .int x0), (2, .int x1), (3, .long x2)]) hx hb d_M_poll_63 hl rfl (by decide) (Nat.le_of_ble_eq_true rfl) rfl (fun ls hl => ?_)
            refine lv_goto (tgt := 39) hx hb d_M_poll_66 rfl ?_
            refine lv_iload hx hb d_M_poll_39 (lv_at hl 0 rfl) ?_
            refine lv_if_lt (tgt := 69) hx hb d_M_poll_41 rfl (fun h => absurd h (by decide)) (fun _ => ?_)
            refine rg_M_poll_44 hF  z_in2_6 hG (lv_sub hl [2, 3, 4, 5, 1, 0] rfl) (fun H locs ls t0 hG hl e_t0 => ?_)
            subst e_t0
            refine lv_istore (lv' := [(5, .int (rg_M_poll_44_t0 S (rg_M_poll_44_t0 S (rg_M_poll_44_t0 S (rg_M_poll_44_t0 S (-1) 5) 4) 3) 2)), (0, .ref (ad 21 0)), (1, .int x0), (2, .int x1), (3, .long x2), (6, .int 2)]) hx hb d_M_poll_61 hl (Nat.le_of_ble_eq_true rfl) rfl (fun ls hl => ?_)
            refine lv_iinc (k := 5) (v := 1) (lv' := [(6, .int 1), (5, .int (rg_M_poll_44_t0 S (rg_M_poll_44_t0 S (rg_M_poll_44_t0 S (rg_M_poll_44_t0 S (-1) 5) 4) 3) 2)), (0, .ref (ad 21 0)), (1, .int x0), (2, .int x1), (3, .long x2)]) hx hb d_M_poll_63 hl rfl (by decide) (Nat.le_of_ble_eq_true rfl) rfl (fun ls hl => ?_)
            refine lv_goto (tgt := 39) hx hb d_M_poll_66 rfl ?_
            refine lv_iload hx hb d_M_poll_39 (lv_at hl 0 rfl) ?_
            refine lv_if_lt (tgt := 69) hx hb d_M_poll_41 rfl (fun h => absurd h (by decide)) (fun _ => ?_)
            refine rg_M_poll_44 hF  z_in1_6 hG (lv_sub hl [2, 3, 4, 5, 1, 0] rfl) (fun H locs ls t0 hG hl e_t0 => ?_)
            subst e_t0
            refine lv_istore (lv' := [(5, .int (rg_M_poll_44_t0 S (rg_M_poll_44_t0 S (rg_M_poll_44_t0 S (rg_M_poll_44_t0 S (rg_M_poll_44_t0 S (-1) 5) 4) 3) 2) 1)), (0, .ref (ad 21 0)), (1, .int x0), (2, .int x1), (3, .long x2), (6, .int 1)]) hx hb d_M_poll_61 hl (Nat.le_of_ble_eq_true rfl) rfl (fun ls hl => ?_)
            refine lv_iinc (k := 5) (v := 0) (lv' := [(6, .int 0), (5, .int (rg_M_poll_44_t0 S (rg_M_poll_44_t0 S (rg_M_poll_44_t0 S (rg_M_poll_44_t0 S (rg_M_poll_44_t0 S (-1) 5) 4) 3) 2) 1)), (0, .ref (ad 21 0)), (1, .int x0), (2, .int x1), (3, .long x2)]) hx hb d_M_poll_63 hl rfl (by decide) (Nat.le_of_ble_eq_true rfl) rfl (fun ls hl => ?_)
            refine lv_goto (tgt := 39) hx hb d_M_poll_66 rfl ?_
            refine lv_iload hx hb d_M_poll_39 (lv_at hl 0 rfl) ?_
            refine lv_if_lt (tgt := 69) hx hb d_M_poll_41 rfl (fun h => absurd h (by decide)) (fun _ => ?_)
            refine rg_M_poll_44 hF  z_in0_6 hG (lv_sub hl [2, 3, 4, 5, 1, 0] rfl) (fun H locs ls t0 hG hl e_t0 => ?_)
            subst e_t0
            refine lv_istore (lv' := [(5, .int (rg_M_poll_44_t0 S (rg_M_poll_44_t0 S (rg_M_poll_44_t0 S (rg_M_poll_44_t0 S (rg_M_poll_44_t0 S (rg_M_poll_44_t0 S (-1) 5) 4) 3) 2) 1) 0)), (0, .ref (ad 21 0)), (1, .int x0), (2, .int x1), (3, .long x2), (6, .int 0)]) hx hb d_M_poll_61 hl (Nat.le_of_ble_eq_true rfl) rfl (fun ls hl => ?_)
            refine lv_iinc (k := 5) (v := (-1)) (lv' := [(6, .int (-1)), (5, .int (rg_M_poll_44_t0 S (rg_M_poll_44_t0 S (rg_M_poll_44_t0 S (rg_M_poll_44_t0 S (rg_M_poll_44_t0 S (rg_M_poll_44_t0 S (-1) 5) 4) 3) 2) 1) 0)), (0, .ref (ad 21 0)), (1, .int x0), (2, .int x1), (3, .long x2)]) hx hb d_M_poll_63 hl rfl (by decide) (Nat.le_of_ble_eq_true rfl) rfl (fun ls hl => ?_)
            refine lv_goto (tgt := 39) hx hb d_M_poll_66 rfl ?_
            refine lv_iload hx hb d_M_poll_39 (lv_at hl 0 rfl) ?_
            refine lv_if_lt (tgt := 69) hx hb d_M_poll_41 rfl (fun _ => ?_) (fun h => absurd h (by decide))
            refine lv_iload hx hb d_M_poll_69 (lv_at hl 1 rfl) ?_
            refine lv_if_ge (tgt := 77) hx hb d_M_poll_71 rfl (fun h71 => ?_) (fun h71 => ?_)
            ·
              have hpl : vp_in (rg_M_poll_44_t0 S (rg_M_poll_44_t0 S (rg_M_poll_44_t0 S (rg_M_poll_44_t0 S (rg_M_poll_44_t0 S (rg_M_poll_44_t0 S (-1) 5) 4) 3) 2) 1) 0) 6 := z_mi_pos (z_pmp (z_pmp (z_pmp (z_pmp (z_pmp (z_pmp (Or.inl rfl) z_in5_6) z_in4_6) z_in3_6) z_in2_6) z_in1_6) z_in0_6) h71
              have hm := z_mmy hom
              refine lv_aload_n hx hb d_M_poll_77 rfl (lv_at hl 2 rfl) ?_
              refine lv_dup hx hb d_M_poll_78 rfl ?_
              refine gf_M_112_21 hF hG (v := (S.1 21 0 3)) rfl d_M_poll_79 ?_
              refine lv_iconst (v := 1) hx hb d_M_poll_82 z_k1 ?_
              refine lv_iadd hx hb d_M_poll_83 ?_
              refine pf_M_112_21 hF hG d_M_poll_84 (fun H locs hG => ?_)
              refine lv_aload_n hx hb d_M_poll_87 rfl (lv_at hl 2 rfl) ?_
              refine gf_M_23_21 hF hG d_M_poll_88 ?_
              refine lv_iload hx hb d_M_poll_91 (lv_at hl 1 rfl) ?_
              refine lv_aload_n hx hb d_M_poll_93 rfl (lv_at hl 2 rfl) ?_
              refine gf_M_112_21 hF hG (v := ((S.1 21 0 3) + 1)) rfl d_M_poll_94 ?_
              refine z_iast (n := 6) (j := (rg_M_poll_44_t0 S (rg_M_poll_44_t0 S (rg_M_poll_44_t0 S (rg_M_poll_44_t0 S (rg_M_poll_44_t0 S (rg_M_poll_44_t0 S (-1) 5) 4) 3) 2) 1) 0).toNatClampNeg) hF hG z_o26 (fun f g => z_c26 C ad f g _) rfl hpl d_M_poll_97 (fun H locs hG => ?_)
              refine lv_aload_n hx hb d_M_poll_98 rfl (lv_at hl 2 rfl) ?_
              refine gf_M_26_21 hF hG d_M_poll_99 ?_
              refine lv_iload hx hb d_M_poll_102 (lv_at hl 1 rfl) ?_
              refine lv_iload_n hx hb d_M_poll_104 rfl (lv_at hl 3 rfl) ?_
              refine z_iast (n := 6) (j := (rg_M_poll_44_t0 S (rg_M_poll_44_t0 S (rg_M_poll_44_t0 S (rg_M_poll_44_t0 S (rg_M_poll_44_t0 S (rg_M_poll_44_t0 S (-1) 5) 4) 3) 2) 1) 0).toNatClampNeg) hF hG z_o27 (fun f g => z_c27 C ad f g _) rfl hpl d_M_poll_105 (fun H locs hG => ?_)
              refine lv_aload_n hx hb d_M_poll_106 rfl (lv_at hl 2 rfl) ?_
              refine gf_M_29_21 hF hG d_M_poll_107 ?_
              refine lv_iload hx hb d_M_poll_110 (lv_at hl 1 rfl) ?_
              refine lv_iload_n hx hb d_M_poll_112 rfl (lv_at hl 4 rfl) ?_
              refine z_iast (n := 6) (j := (rg_M_poll_44_t0 S (rg_M_poll_44_t0 S (rg_M_poll_44_t0 S (rg_M_poll_44_t0 S (rg_M_poll_44_t0 S (rg_M_poll_44_t0 S (-1) 5) 4) 3) 2) 1) 0).toNatClampNeg) hF hG z_o28 (fun f g => z_c28 C ad f g _) rfl hpl d_M_poll_113 (fun H locs hG => ?_)
              refine lv_aload_n hx hb d_M_poll_114 rfl (lv_at hl 2 rfl) ?_
              refine gf_M_32_21 hF hG d_M_poll_115 ?_
              refine lv_iload hx hb d_M_poll_118 (lv_at hl 1 rfl) ?_
              refine lv_lload_n hx hb d_M_poll_120 rfl (lv_at hl 5 rfl) ?_
              refine z_last (n := 6) (j := (rg_M_poll_44_t0 S (rg_M_poll_44_t0 S (rg_M_poll_44_t0 S (rg_M_poll_44_t0 S (rg_M_poll_44_t0 S (rg_M_poll_44_t0 S (-1) 5) 4) 3) 2) 1) 0).toNatClampNeg) hF hG z_o29 (fun f g => z_c29 C ad f g _) rfl hpl d_M_poll_121 (fun H locs hG => ?_)
              refine lv_aload_n hx hb d_M_poll_122 rfl (lv_at hl 2 rfl) ?_
              refine gf_M_36_21 hF hG d_M_poll_123 ?_
              refine lv_iload hx hb d_M_poll_126 (lv_at hl 1 rfl) ?_
              refine lv_aload_n hx hb d_M_poll_128 rfl (lv_at hl 2 rfl) ?_
              refine gf_M_66_21 hF hG (v := (S.1 21 0 20)) rfl d_M_poll_129 ?_
              refine z_iast (n := 6) (j := (rg_M_poll_44_t0 S (rg_M_poll_44_t0 S (rg_M_poll_44_t0 S (rg_M_poll_44_t0 S (rg_M_poll_44_t0 S (rg_M_poll_44_t0 S (-1) 5) 4) 3) 2) 1) 0).toNatClampNeg) hF hG z_o30 (fun f g => z_c30 C ad f g _) rfl hpl d_M_poll_132 (fun H locs hG => ?_)
              refine lv_aload_n hx hb d_M_poll_133 rfl (lv_at hl 2 rfl) ?_
              refine gf_M_39_21 hF hG d_M_poll_134 ?_
              refine lv_iload hx hb d_M_poll_137 (lv_at hl 1 rfl) ?_
              refine lv_iconst (v := 0) hx hb d_M_poll_139 z_k0 ?_
              refine z_iast (n := 6) (j := (rg_M_poll_44_t0 S (rg_M_poll_44_t0 S (rg_M_poll_44_t0 S (rg_M_poll_44_t0 S (rg_M_poll_44_t0 S (rg_M_poll_44_t0 S (-1) 5) 4) 3) 2) 1) 0).toNatClampNeg) hF hG z_o31 (fun f g => z_c31 C ad f g _) rfl hpl d_M_poll_140 (fun H locs hG => ?_)
              refine lv_aload_n hx hb d_M_poll_141 rfl (lv_at hl 2 rfl) ?_
              refine gf_M_42_21 hF hG d_M_poll_142 ?_
              refine lv_iload hx hb d_M_poll_145 (lv_at hl 1 rfl) ?_
              refine lv_iconst (v := 0) hx hb d_M_poll_147 z_k0 ?_
              refine z_iast (n := 6) (j := (rg_M_poll_44_t0 S (rg_M_poll_44_t0 S (rg_M_poll_44_t0 S (rg_M_poll_44_t0 S (rg_M_poll_44_t0 S (rg_M_poll_44_t0 S (-1) 5) 4) 3) 2) 1) 0).toNatClampNeg) hF hG z_o32 (fun f g => z_c32 C ad f g _) rfl hpl d_M_poll_148 (fun H locs hG => ?_)
              refine lv_aload_n hx hb d_M_poll_149 rfl (lv_at hl 2 rfl) ?_
              refine gf_M_20_21 hF hG d_M_poll_150 ?_
              refine lv_aload_n hx hb d_M_poll_153 rfl (lv_at hl 2 rfl) ?_
              refine gf_M_112_21 hF hG (v := ((S.1 21 0 3) + 1)) rfl d_M_poll_154 ?_
              refine lv_iconst (v := 0) hx hb d_M_poll_157 z_k0 ?_
              refine z_iast (n := 600) (j := ((S.1 21 0 3) + 1).toNatClampNeg) hF hG z_o25 (fun f g => z_c25 C ad f g _) rfl (z_mpo hom) d_M_poll_158 (fun H locs hG => ?_)
              refine lv_iconst (v := 0) hx hb d_M_poll_159 z_k0 ?_
              refine lv_istore (lv' := [(6, .int 0), (5, .int (rg_M_poll_44_t0 S (rg_M_poll_44_t0 S (rg_M_poll_44_t0 S (rg_M_poll_44_t0 S (rg_M_poll_44_t0 S (rg_M_poll_44_t0 S (-1) 5) 4) 3) 2) 1) 0)), (0, .ref (ad 21 0)), (1, .int x0), (2, .int x1), (3, .long x2)]) hx hb d_M_poll_160 hl (Nat.le_of_ble_eq_true rfl) rfl (fun ls hl => ?_)
              refine lv_iload hx hb d_M_poll_162 (lv_at hl 0 rfl) ?_
              refine lv_iconst (v := 3) hx hb d_M_poll_164 z_k3 ?_
              refine lv_icmp_ge (tgt := 186) hx hb d_M_poll_165 rfl (fun h => absurd h (by decide)) (fun _ => ?_)
              refine lv_aload_n hx hb d_M_poll_168 rfl (lv_at hl 2 rfl) ?_
              refine lv_iconst (v := 1) hx hb d_M_poll_169 z_k1 ?_
              refine lv_aload_n hx hb d_M_poll_170 rfl (lv_at hl 2 rfl) ?_
              refine gf_M_112_21 hF hG (v := ((S.1 21 0 3) + 1)) rfl d_M_poll_171 ?_
              refine lv_iload hx hb d_M_poll_174 (lv_at hl 0 rfl) ?_
              refine kc_M_115 hF (c_M_come l D C ad hF.2.2 (z_sI (z_sI (z_sI (z_sI (z_sL (z_sI (z_sI (z_sI (z_sI S 21 0 3 ((S.1 21 0 3) + 1)) 26 0 ((rg_M_poll_44_t0 S (rg_M_poll_44_t0 S (rg_M_poll_44_t0 S (rg_M_poll_44_t0 S (rg_M_poll_44_t0 S (rg_M_poll_44_t0 S (-1) 5) 4) 3) 2) 1) 0).toNatClampNeg) ((S.1 21 0 3) + 1)) 27 0 ((rg_M_poll_44_t0 S (rg_M_poll_44_t0 S (rg_M_poll_44_t0 S (rg_M_poll_44_t0 S (rg_M_poll_44_t0 S (rg_M_poll_44_t0 S (-1) 5) 4) 3) 2) 1) 0).toNatClampNeg) x0) 28 0 ((rg_M_poll_44_t0 S (rg_M_poll_44_t0 S (rg_M_poll_44_t0 S (rg_M_poll_44_t0 S (rg_M_poll_44_t0 S (rg_M_poll_44_t0 S (-1) 5) 4) 3) 2) 1) 0).toNatClampNeg) x1) 29 0 ((rg_M_poll_44_t0 S (rg_M_poll_44_t0 S (rg_M_poll_44_t0 S (rg_M_poll_44_t0 S (rg_M_poll_44_t0 S (rg_M_poll_44_t0 S (-1) 5) 4) 3) 2) 1) 0).toNatClampNeg) x2) 30 0 ((rg_M_poll_44_t0 S (rg_M_poll_44_t0 S (rg_M_poll_44_t0 S (rg_M_poll_44_t0 S (rg_M_poll_44_t0 S (rg_M_poll_44_t0 S (-1) 5) 4) 3) 2) 1) 0).toNatClampNeg) (S.1 21 0 20)) 31 0 ((rg_M_poll_44_t0 S (rg_M_poll_44_t0 S (rg_M_poll_44_t0 S (rg_M_poll_44_t0 S (rg_M_poll_44_t0 S (rg_M_poll_44_t0 S (-1) 5) 4) 3) 2) 1) 0).toNatClampNeg) 0) 32 0 ((rg_M_poll_44_t0 S (rg_M_poll_44_t0 S (rg_M_poll_44_t0 S (rg_M_poll_44_t0 S (rg_M_poll_44_t0 S (rg_M_poll_44_t0 S (-1) 5) 4) 3) 2) 1) 0).toNatClampNeg) 0) 25 0 (((S.1 21 0 3) + 1).toNatClampNeg) 0) _ _ _ hm) hG ⟨Nat.le_of_ble_eq_true rfl, Nat.le_of_ble_eq_true rfl⟩ ⟨Nat.zero_le _, Nat.zero_le _⟩ hl.1 (Nat.le_of_ble_eq_true rfl) d_M_poll_176 (fun H locs hG => ?_)
              have hm : vp_in ((g_M_come (z_sI (z_sI (z_sI (z_sI (z_sL (z_sI (z_sI (z_sI (z_sI S 21 0 3 ((S.1 21 0 3) + 1)) 26 0 ((rg_M_poll_44_t0 S (rg_M_poll_44_t0 S (rg_M_poll_44_t0 S (rg_M_poll_44_t0 S (rg_M_poll_44_t0 S (rg_M_poll_44_t0 S (-1) 5) 4) 3) 2) 1) 0).toNatClampNeg) ((S.1 21 0 3) + 1)) 27 0 ((rg_M_poll_44_t0 S (rg_M_poll_44_t0 S (rg_M_poll_44_t0 S (rg_M_poll_44_t0 S (rg_M_poll_44_t0 S (rg_M_poll_44_t0 S (-1) 5) 4) 3) 2) 1) 0).toNatClampNeg) x0) 28 0 ((rg_M_poll_44_t0 S (rg_M_poll_44_t0 S (rg_M_poll_44_t0 S (rg_M_poll_44_t0 S (rg_M_poll_44_t0 S (rg_M_poll_44_t0 S (-1) 5) 4) 3) 2) 1) 0).toNatClampNeg) x1) 29 0 ((rg_M_poll_44_t0 S (rg_M_poll_44_t0 S (rg_M_poll_44_t0 S (rg_M_poll_44_t0 S (rg_M_poll_44_t0 S (rg_M_poll_44_t0 S (-1) 5) 4) 3) 2) 1) 0).toNatClampNeg) x2) 30 0 ((rg_M_poll_44_t0 S (rg_M_poll_44_t0 S (rg_M_poll_44_t0 S (rg_M_poll_44_t0 S (rg_M_poll_44_t0 S (rg_M_poll_44_t0 S (-1) 5) 4) 3) 2) 1) 0).toNatClampNeg) (S.1 21 0 20)) 31 0 ((rg_M_poll_44_t0 S (rg_M_poll_44_t0 S (rg_M_poll_44_t0 S (rg_M_poll_44_t0 S (rg_M_poll_44_t0 S (rg_M_poll_44_t0 S (-1) 5) 4) 3) 2) 1) 0).toNatClampNeg) 0) 32 0 ((rg_M_poll_44_t0 S (rg_M_poll_44_t0 S (rg_M_poll_44_t0 S (rg_M_poll_44_t0 S (rg_M_poll_44_t0 S (rg_M_poll_44_t0 S (-1) 5) 4) 3) 2) 1) 0).toNatClampNeg) 0) 25 0 (((S.1 21 0 3) + 1).toNatClampNeg) 0) 1 ((S.1 21 0 3) + 1) 0).1 21 0 14) 25 := z_cme hm
              refine lv_pop hx hb d_M_poll_179 rfl ?_
              refine lv_iinc (k := 0) (v := 1) (lv' := [(6, .int 1), (5, .int (rg_M_poll_44_t0 S (rg_M_poll_44_t0 S (rg_M_poll_44_t0 S (rg_M_poll_44_t0 S (rg_M_poll_44_t0 S (rg_M_poll_44_t0 S (-1) 5) 4) 3) 2) 1) 0)), (0, .ref (ad 21 0)), (1, .int x0), (2, .int x1), (3, .long x2)]) hx hb d_M_poll_180 hl rfl (by decide) (Nat.le_of_ble_eq_true rfl) rfl (fun ls hl => ?_)
              refine lv_goto (tgt := 162) hx hb d_M_poll_183 rfl ?_
              refine lv_iload hx hb d_M_poll_162 (lv_at hl 0 rfl) ?_
              refine lv_iconst (v := 3) hx hb d_M_poll_164 z_k3 ?_
              refine lv_icmp_ge (tgt := 186) hx hb d_M_poll_165 rfl (fun h => absurd h (by decide)) (fun _ => ?_)
              refine lv_aload_n hx hb d_M_poll_168 rfl (lv_at hl 2 rfl) ?_
              refine lv_iconst (v := 1) hx hb d_M_poll_169 z_k1 ?_
              refine lv_aload_n hx hb d_M_poll_170 rfl (lv_at hl 2 rfl) ?_
              refine gf_M_112_21 hF hG (v := ((g_M_come (z_sI (z_sI (z_sI (z_sI (z_sL (z_sI (z_sI (z_sI (z_sI S 21 0 3 ((S.1 21 0 3) + 1)) 26 0 ((rg_M_poll_44_t0 S (rg_M_poll_44_t0 S (rg_M_poll_44_t0 S (rg_M_poll_44_t0 S (rg_M_poll_44_t0 S (rg_M_poll_44_t0 S (-1) 5) 4) 3) 2) 1) 0).toNatClampNeg) ((S.1 21 0 3) + 1)) 27 0 ((rg_M_poll_44_t0 S (rg_M_poll_44_t0 S (rg_M_poll_44_t0 S (rg_M_poll_44_t0 S (rg_M_poll_44_t0 S (rg_M_poll_44_t0 S (-1) 5) 4) 3) 2) 1) 0).toNatClampNeg) x0) 28 0 ((rg_M_poll_44_t0 S (rg_M_poll_44_t0 S (rg_M_poll_44_t0 S (rg_M_poll_44_t0 S (rg_M_poll_44_t0 S (rg_M_poll_44_t0 S (-1) 5) 4) 3) 2) 1) 0).toNatClampNeg) x1) 29 0 ((rg_M_poll_44_t0 S (rg_M_poll_44_t0 S (rg_M_poll_44_t0 S (rg_M_poll_44_t0 S (rg_M_poll_44_t0 S (rg_M_poll_44_t0 S (-1) 5) 4) 3) 2) 1) 0).toNatClampNeg) x2) 30 0 ((rg_M_poll_44_t0 S (rg_M_poll_44_t0 S (rg_M_poll_44_t0 S (rg_M_poll_44_t0 S (rg_M_poll_44_t0 S (rg_M_poll_44_t0 S (-1) 5) 4) 3) 2) 1) 0).toNatClampNeg) (S.1 21 0 20)) 31 0 ((rg_M_poll_44_t0 S (rg_M_poll_44_t0 S (rg_M_poll_44_t0 S (rg_M_poll_44_t0 S (rg_M_poll_44_t0 S (rg_M_poll_44_t0 S (-1) 5) 4) 3) 2) 1) 0).toNatClampNeg) 0) 32 0 ((rg_M_poll_44_t0 S (rg_M_poll_44_t0 S (rg_M_poll_44_t0 S (rg_M_poll_44_t0 S (rg_M_poll_44_t0 S (rg_M_poll_44_t0 S (-1) 5) 4) 3) 2) 1) 0).toNatClampNeg) 0) 25 0 (((S.1 21 0 3) + 1).toNatClampNeg) 0) 1 ((S.1 21 0 3) + 1) 0).1 21 0 3)) rfl d_M_poll_171 ?_
              refine lv_iload hx hb d_M_poll_174 (lv_at hl 0 rfl) ?_
              refine kc_M_115 hF (c_M_come l D C ad hF.2.2 (g_M_come (z_sI (z_sI (z_sI (z_sI (z_sL (z_sI (z_sI (z_sI (z_sI S 21 0 3 ((S.1 21 0 3) + 1)) 26 0 ((rg_M_poll_44_t0 S (rg_M_poll_44_t0 S (rg_M_poll_44_t0 S (rg_M_poll_44_t0 S (rg_M_poll_44_t0 S (rg_M_poll_44_t0 S (-1) 5) 4) 3) 2) 1) 0).toNatClampNeg) ((S.1 21 0 3) + 1)) 27 0 ((rg_M_poll_44_t0 S (rg_M_poll_44_t0 S (rg_M_poll_44_t0 S (rg_M_poll_44_t0 S (rg_M_poll_44_t0 S (rg_M_poll_44_t0 S (-1) 5) 4) 3) 2) 1) 0).toNatClampNeg) x0) 28 0 ((rg_M_poll_44_t0 S (rg_M_poll_44_t0 S (rg_M_poll_44_t0 S (rg_M_poll_44_t0 S (rg_M_poll_44_t0 S (rg_M_poll_44_t0 S (-1) 5) 4) 3) 2) 1) 0).toNatClampNeg) x1) 29 0 ((rg_M_poll_44_t0 S (rg_M_poll_44_t0 S (rg_M_poll_44_t0 S (rg_M_poll_44_t0 S (rg_M_poll_44_t0 S (rg_M_poll_44_t0 S (-1) 5) 4) 3) 2) 1) 0).toNatClampNeg) x2) 30 0 ((rg_M_poll_44_t0 S (rg_M_poll_44_t0 S (rg_M_poll_44_t0 S (rg_M_poll_44_t0 S (rg_M_poll_44_t0 S (rg_M_poll_44_t0 S (-1) 5) 4) 3) 2) 1) 0).toNatClampNeg) (S.1 21 0 20)) 31 0 ((rg_M_poll_44_t0 S (rg_M_poll_44_t0 S (rg_M_poll_44_t0 S (rg_M_poll_44_t0 S (rg_M_poll_44_t0 S (rg_M_poll_44_t0 S (-1) 5) 4) 3) 2) 1) 0).toNatClampNeg) 0) 32 0 ((rg_M_poll_44_t0 S (rg_M_poll_44_t0 S (rg_M_poll_44_t0 S (rg_M_poll_44_t0 S (rg_M_poll_44_t0 S (rg_M_poll_44_t0 S (-1) 5) 4) 3) 2) 1) 0).toNatClampNeg) 0) 25 0 (((S.1 21 0 3) + 1).toNatClampNeg) 0) 1 ((S.1 21 0 3) + 1) 0) _ _ _ hm) hG ⟨Nat.le_of_ble_eq_true rfl, Nat.le_of_ble_eq_true rfl⟩ ⟨Nat.zero_le _, Nat.zero_le _⟩ hl.1 (Nat.le_of_ble_eq_true rfl) d_M_poll_176 (fun H locs hG => ?_)
              have hm : vp_in ((g_M_come (g_M_come (z_sI (z_sI (z_sI (z_sI (z_sL (z_sI (z_sI (z_sI (z_sI S 21 0 3 ((S.1 21 0 3) + 1)) 26 0 ((rg_M_poll_44_t0 S (rg_M_poll_44_t0 S (rg_M_poll_44_t0 S (rg_M_poll_44_t0 S (rg_M_poll_44_t0 S (rg_M_poll_44_t0 S (-1) 5) 4) 3) 2) 1) 0).toNatClampNeg) ((S.1 21 0 3) + 1)) 27 0 ((rg_M_poll_44_t0 S (rg_M_poll_44_t0 S (rg_M_poll_44_t0 S (rg_M_poll_44_t0 S (rg_M_poll_44_t0 S (rg_M_poll_44_t0 S (-1) 5) 4) 3) 2) 1) 0).toNatClampNeg) x0) 28 0 ((rg_M_poll_44_t0 S (rg_M_poll_44_t0 S (rg_M_poll_44_t0 S (rg_M_poll_44_t0 S (rg_M_poll_44_t0 S (rg_M_poll_44_t0 S (-1) 5) 4) 3) 2) 1) 0).toNatClampNeg) x1) 29 0 ((rg_M_poll_44_t0 S (rg_M_poll_44_t0 S (rg_M_poll_44_t0 S (rg_M_poll_44_t0 S (rg_M_poll_44_t0 S (rg_M_poll_44_t0 S (-1) 5) 4) 3) 2) 1) 0).toNatClampNeg) x2) 30 0 ((rg_M_poll_44_t0 S (rg_M_poll_44_t0 S (rg_M_poll_44_t0 S (rg_M_poll_44_t0 S (rg_M_poll_44_t0 S (rg_M_poll_44_t0 S (-1) 5) 4) 3) 2) 1) 0).toNatClampNeg) (S.1 21 0 20)) 31 0 ((rg_M_poll_44_t0 S (rg_M_poll_44_t0 S (rg_M_poll_44_t0 S (rg_M_poll_44_t0 S (rg_M_poll_44_t0 S (rg_M_poll_44_t0 S (-1) 5) 4) 3) 2) 1) 0).toNatClampNeg) 0) 32 0 ((rg_M_poll_44_t0 S (rg_M_poll_44_t0 S (rg_M_poll_44_t0 S (rg_M_poll_44_t0 S (rg_M_poll_44_t0 S (rg_M_poll_44_t0 S (-1) 5) 4) 3) 2) 1) 0).toNatClampNeg) 0) 25 0 (((S.1 21 0 3) + 1).toNatClampNeg) 0) 1 ((S.1 21 0 3) + 1) 0) 1 ((g_M_come (z_sI (z_sI (z_sI (z_sI (z_sL (z_sI (z_sI (z_sI (z_sI S 21 0 3 ((S.1 21 0 3) + 1)) 26 0 ((rg_M_poll_44_t0 S (rg_M_poll_44_t0 S (rg_M_poll_44_t0 S (rg_M_poll_44_t0 S (rg_M_poll_44_t0 S (rg_M_poll_44_t0 S (-1) 5) 4) 3) 2) 1) 0).toNatClampNeg) ((S.1 21 0 3) + 1)) 27 0 ((rg_M_poll_44_t0 S (rg_M_poll_44_t0 S (rg_M_poll_44_t0 S (rg_M_poll_44_t0 S (rg_M_poll_44_t0 S (rg_M_poll_44_t0 S (-1) 5) 4) 3) 2) 1) 0).toNatClampNeg) x0) 28 0 ((rg_M_poll_44_t0 S (rg_M_poll_44_t0 S (rg_M_poll_44_t0 S (rg_M_poll_44_t0 S (rg_M_poll_44_t0 S (rg_M_poll_44_t0 S (-1) 5) 4) 3) 2) 1) 0).toNatClampNeg) x1) 29 0 ((rg_M_poll_44_t0 S (rg_M_poll_44_t0 S (rg_M_poll_44_t0 S (rg_M_poll_44_t0 S (rg_M_poll_44_t0 S (rg_M_poll_44_t0 S (-1) 5) 4) 3) 2) 1) 0).toNatClampNeg) x2) 30 0 ((rg_M_poll_44_t0 S (rg_M_poll_44_t0 S (rg_M_poll_44_t0 S (rg_M_poll_44_t0 S (rg_M_poll_44_t0 S (rg_M_poll_44_t0 S (-1) 5) 4) 3) 2) 1) 0).toNatClampNeg) (S.1 21 0 20)) 31 0 ((rg_M_poll_44_t0 S (rg_M_poll_44_t0 S (rg_M_poll_44_t0 S (rg_M_poll_44_t0 S (rg_M_poll_44_t0 S (rg_M_poll_44_t0 S (-1) 5) 4) 3) 2) 1) 0).toNatClampNeg) 0) 32 0 ((rg_M_poll_44_t0 S (rg_M_poll_44_t0 S (rg_M_poll_44_t0 S (rg_M_poll_44_t0 S (rg_M_poll_44_t0 S (rg_M_poll_44_t0 S (-1) 5) 4) 3) 2) 1) 0).toNatClampNeg) 0) 25 0 (((S.1 21 0 3) + 1).toNatClampNeg) 0) 1 ((S.1 21 0 3) + 1) 0).1 21 0 3) 1).1 21 0 14) 25 := z_cme hm
              refine lv_pop hx hb d_M_poll_179 rfl ?_
              refine lv_iinc (k := 0) (v := 2) (lv' := [(6, .int 2), (5, .int (rg_M_poll_44_t0 S (rg_M_poll_44_t0 S (rg_M_poll_44_t0 S (rg_M_poll_44_t0 S (rg_M_poll_44_t0 S (rg_M_poll_44_t0 S (-1) 5) 4) 3) 2) 1) 0)), (0, .ref (ad 21 0)), (1, .int x0), (2, .int x1), (3, .long x2)]) hx hb d_M_poll_180 hl rfl (by decide) (Nat.le_of_ble_eq_true rfl) rfl (fun ls hl => ?_)
              refine lv_goto (tgt := 162) hx hb d_M_poll_183 rfl ?_
              refine lv_iload hx hb d_M_poll_162 (lv_at hl 0 rfl) ?_
              refine lv_iconst (v := 3) hx hb d_M_poll_164 z_k3 ?_
              refine lv_icmp_ge (tgt := 186) hx hb d_M_poll_165 rfl (fun h => absurd h (by decide)) (fun _ => ?_)
              refine lv_aload_n hx hb d_M_poll_168 rfl (lv_at hl 2 rfl) ?_
              refine lv_iconst (v := 1) hx hb d_M_poll_169 z_k1 ?_
              refine lv_aload_n hx hb d_M_poll_170 rfl (lv_at hl 2 rfl) ?_
              refine gf_M_112_21 hF hG (v := ((g_M_come (g_M_come (z_sI (z_sI (z_sI (z_sI (z_sL (z_sI (z_sI (z_sI (z_sI S 21 0 3 ((S.1 21 0 3) + 1)) 26 0 ((rg_M_poll_44_t0 S (rg_M_poll_44_t0 S (rg_M_poll_44_t0 S (rg_M_poll_44_t0 S (rg_M_poll_44_t0 S (rg_M_poll_44_t0 S (-1) 5) 4) 3) 2) 1) 0).toNatClampNeg) ((S.1 21 0 3) + 1)) 27 0 ((rg_M_poll_44_t0 S (rg_M_poll_44_t0 S (rg_M_poll_44_t0 S (rg_M_poll_44_t0 S (rg_M_poll_44_t0 S (rg_M_poll_44_t0 S (-1) 5) 4) 3) 2) 1) 0).toNatClampNeg) x0) 28 0 ((rg_M_poll_44_t0 S (rg_M_poll_44_t0 S (rg_M_poll_44_t0 S (rg_M_poll_44_t0 S (rg_M_poll_44_t0 S (rg_M_poll_44_t0 S (-1) 5) 4) 3) 2) 1) 0).toNatClampNeg) x1) 29 0 ((rg_M_poll_44_t0 S (rg_M_poll_44_t0 S (rg_M_poll_44_t0 S (rg_M_poll_44_t0 S (rg_M_poll_44_t0 S (rg_M_poll_44_t0 S (-1) 5) 4) 3) 2) 1) 0).toNatClampNeg) x2) 30 0 ((rg_M_poll_44_t0 S (rg_M_poll_44_t0 S (rg_M_poll_44_t0 S (rg_M_poll_44_t0 S (rg_M_poll_44_t0 S (rg_M_poll_44_t0 S (-1) 5) 4) 3) 2) 1) 0).toNatClampNeg) (S.1 21 0 20)) 31 0 ((rg_M_poll_44_t0 S (rg_M_poll_44_t0 S (rg_M_poll_44_t0 S (rg_M_poll_44_t0 S (rg_M_poll_44_t0 S (rg_M_poll_44_t0 S (-1) 5) 4) 3) 2) 1) 0).toNatClampNeg) 0) 32 0 ((rg_M_poll_44_t0 S (rg_M_poll_44_t0 S (rg_M_poll_44_t0 S (rg_M_poll_44_t0 S (rg_M_poll_44_t0 S (rg_M_poll_44_t0 S (-1) 5) 4) 3) 2) 1) 0).toNatClampNeg) 0) 25 0 (((S.1 21 0 3) + 1).toNatClampNeg) 0) 1 ((S.1 21 0 3) + 1) 0) 1 ((g_M_come (z_sI (z_sI (z_sI (z_sI (z_sL (z_sI (z_sI (z_sI (z_sI S 21 0 3 ((S.1 21 0 3) + 1)) 26 0 ((rg_M_poll_44_t0 S (rg_M_poll_44_t0 S (rg_M_poll_44_t0 S (rg_M_poll_44_t0 S (rg_M_poll_44_t0 S (rg_M_poll_44_t0 S (-1) 5) 4) 3) 2) 1) 0).toNatClampNeg) ((S.1 21 0 3) + 1)) 27 0 ((rg_M_poll_44_t0 S (rg_M_poll_44_t0 S (rg_M_poll_44_t0 S (rg_M_poll_44_t0 S (rg_M_poll_44_t0 S (rg_M_poll_44_t0 S (-1) 5) 4) 3) 2) 1) 0).toNatClampNeg) x0) 28 0 ((rg_M_poll_44_t0 S (rg_M_poll_44_t0 S (rg_M_poll_44_t0 S (rg_M_poll_44_t0 S (rg_M_poll_44_t0 S (rg_M_poll_44_t0 S (-1) 5) 4) 3) 2) 1) 0).toNatClampNeg) x1) 29 0 ((rg_M_poll_44_t0 S (rg_M_poll_44_t0 S (rg_M_poll_44_t0 S (rg_M_poll_44_t0 S (rg_M_poll_44_t0 S (rg_M_poll_44_t0 S (-1) 5) 4) 3) 2) 1) 0).toNatClampNeg) x2) 30 0 ((rg_M_poll_44_t0 S (rg_M_poll_44_t0 S (rg_M_poll_44_t0 S (rg_M_poll_44_t0 S (rg_M_poll_44_t0 S (rg_M_poll_44_t0 S (-1) 5) 4) 3) 2) 1) 0).toNatClampNeg) (S.1 21 0 20)) 31 0 ((rg_M_poll_44_t0 S (rg_M_poll_44_t0 S (rg_M_poll_44_t0 S (rg_M_poll_44_t0 S (rg_M_poll_44_t0 S (rg_M_poll_44_t0 S (-1) 5) 4) 3) 2) 1) 0).toNatClampNeg) 0) 32 0 ((rg_M_poll_44_t0 S (rg_M_poll_44_t0 S (rg_M_poll_44_t0 S (rg_M_poll_44_t0 S (rg_M_poll_44_t0 S (rg_M_poll_44_t0 S (-1) 5) 4) 3) 2) 1) 0).toNatClampNeg) 0) 25 0 (((S.1 21 0 3) + 1).toNatClampNeg) 0) 1 ((S.1 21 0 3) + 1) 0).1 21 0 3) 1).1 21 0 3)) rfl d_M_poll_171 ?_
              refine lv_iload hx hb d_M_poll_174 (lv_at hl 0 rfl) ?_
              refine kc_M_115 hF (c_M_come l D C ad hF.2.2 (g_M_come (g_M_come (z_sI (z_sI (z_sI (z_sI (z_sL (z_sI (z_sI (z_sI (z_sI S 21 0 3 ((S.1 21 0 3) + 1)) 26 0 ((rg_M_poll_44_t0 S (rg_M_poll_44_t0 S (rg_M_poll_44_t0 S (rg_M_poll_44_t0 S (rg_M_poll_44_t0 S (rg_M_poll_44_t0 S (-1) 5) 4) 3) 2) 1) 0).toNatClampNeg) ((S.1 21 0 3) + 1)) 27 0 ((rg_M_poll_44_t0 S (rg_M_poll_44_t0 S (rg_M_poll_44_t0 S (rg_M_poll_44_t0 S (rg_M_poll_44_t0 S (rg_M_poll_44_t0 S (-1) 5) 4) 3) 2) 1) 0).toNatClampNeg) x0) 28 0 ((rg_M_poll_44_t0 S (rg_M_poll_44_t0 S (rg_M_poll_44_t0 S (rg_M_poll_44_t0 S (rg_M_poll_44_t0 S (rg_M_poll_44_t0 S (-1) 5) 4) 3) 2) 1) 0).toNatClampNeg) x1) 29 0 ((rg_M_poll_44_t0 S (rg_M_poll_44_t0 S (rg_M_poll_44_t0 S (rg_M_poll_44_t0 S (rg_M_poll_44_t0 S (rg_M_poll_44_t0 S (-1) 5) 4) 3) 2) 1) 0).toNatClampNeg) x2) 30 0 ((rg_M_poll_44_t0 S (rg_M_poll_44_t0 S (rg_M_poll_44_t0 S (rg_M_poll_44_t0 S (rg_M_poll_44_t0 S (rg_M_poll_44_t0 S (-1) 5) 4) 3) 2) 1) 0).toNatClampNeg) (S.1 21 0 20)) 31 0 ((rg_M_poll_44_t0 S (rg_M_poll_44_t0 S (rg_M_poll_44_t0 S (rg_M_poll_44_t0 S (rg_M_poll_44_t0 S (rg_M_poll_44_t0 S (-1) 5) 4) 3) 2) 1) 0).toNatClampNeg) 0) 32 0 ((rg_M_poll_44_t0 S (rg_M_poll_44_t0 S (rg_M_poll_44_t0 S (rg_M_poll_44_t0 S (rg_M_poll_44_t0 S (rg_M_poll_44_t0 S (-1) 5) 4) 3) 2) 1) 0).toNatClampNeg) 0) 25 0 (((S.1 21 0 3) + 1).toNatClampNeg) 0) 1 ((S.1 21 0 3) + 1) 0) 1 ((g_M_come (z_sI (z_sI (z_sI (z_sI (z_sL (z_sI (z_sI (z_sI (z_sI S 21 0 3 ((S.1 21 0 3) + 1)) 26 0 ((rg_M_poll_44_t0 S (rg_M_poll_44_t0 S (rg_M_poll_44_t0 S (rg_M_poll_44_t0 S (rg_M_poll_44_t0 S (rg_M_poll_44_t0 S (-1) 5) 4) 3) 2) 1) 0).toNatClampNeg) ((S.1 21 0 3) + 1)) 27 0 ((rg_M_poll_44_t0 S (rg_M_poll_44_t0 S (rg_M_poll_44_t0 S (rg_M_poll_44_t0 S (rg_M_poll_44_t0 S (rg_M_poll_44_t0 S (-1) 5) 4) 3) 2) 1) 0).toNatClampNeg) x0) 28 0 ((rg_M_poll_44_t0 S (rg_M_poll_44_t0 S (rg_M_poll_44_t0 S (rg_M_poll_44_t0 S (rg_M_poll_44_t0 S (rg_M_poll_44_t0 S (-1) 5) 4) 3) 2) 1) 0).toNatClampNeg) x1) 29 0 ((rg_M_poll_44_t0 S (rg_M_poll_44_t0 S (rg_M_poll_44_t0 S (rg_M_poll_44_t0 S (rg_M_poll_44_t0 S (rg_M_poll_44_t0 S (-1) 5) 4) 3) 2) 1) 0).toNatClampNeg) x2) 30 0 ((rg_M_poll_44_t0 S (rg_M_poll_44_t0 S (rg_M_poll_44_t0 S (rg_M_poll_44_t0 S (rg_M_poll_44_t0 S (rg_M_poll_44_t0 S (-1) 5) 4) 3) 2) 1) 0).toNatClampNeg) (S.1 21 0 20)) 31 0 ((rg_M_poll_44_t0 S (rg_M_poll_44_t0 S (rg_M_poll_44_t0 S (rg_M_poll_44_t0 S (rg_M_poll_44_t0 S (rg_M_poll_44_t0 S (-1) 5) 4) 3) 2) 1) 0).toNatClampNeg) 0) 32 0 ((rg_M_poll_44_t0 S (rg_M_poll_44_t0 S (rg_M_poll_44_t0 S (rg_M_poll_44_t0 S (rg_M_poll_44_t0 S (rg_M_poll_44_t0 S (-1) 5) 4) 3) 2) 1) 0).toNatClampNeg) 0) 25 0 (((S.1 21 0 3) + 1).toNatClampNeg) 0) 1 ((S.1 21 0 3) + 1) 0).1 21 0 3) 1) _ _ _ hm) hG ⟨Nat.le_of_ble_eq_true rfl, Nat.le_of_ble_eq_true rfl⟩ ⟨Nat.zero_le _, Nat.zero_le _⟩ hl.1 (Nat.le_of_ble_eq_true rfl) d_M_poll_176 (fun H locs hG => ?_)
              have hm : vp_in ((g_M_come (g_M_come (g_M_come (z_sI (z_sI (z_sI (z_sI (z_sL (z_sI (z_sI (z_sI (z_sI S 21 0 3 ((S.1 21 0 3) + 1)) 26 0 ((rg_M_poll_44_t0 S (rg_M_poll_44_t0 S (rg_M_poll_44_t0 S (rg_M_poll_44_t0 S (rg_M_poll_44_t0 S (rg_M_poll_44_t0 S (-1) 5) 4) 3) 2) 1) 0).toNatClampNeg) ((S.1 21 0 3) + 1)) 27 0 ((rg_M_poll_44_t0 S (rg_M_poll_44_t0 S (rg_M_poll_44_t0 S (rg_M_poll_44_t0 S (rg_M_poll_44_t0 S (rg_M_poll_44_t0 S (-1) 5) 4) 3) 2) 1) 0).toNatClampNeg) x0) 28 0 ((rg_M_poll_44_t0 S (rg_M_poll_44_t0 S (rg_M_poll_44_t0 S (rg_M_poll_44_t0 S (rg_M_poll_44_t0 S (rg_M_poll_44_t0 S (-1) 5) 4) 3) 2) 1) 0).toNatClampNeg) x1) 29 0 ((rg_M_poll_44_t0 S (rg_M_poll_44_t0 S (rg_M_poll_44_t0 S (rg_M_poll_44_t0 S (rg_M_poll_44_t0 S (rg_M_poll_44_t0 S (-1) 5) 4) 3) 2) 1) 0).toNatClampNeg) x2) 30 0 ((rg_M_poll_44_t0 S (rg_M_poll_44_t0 S (rg_M_poll_44_t0 S (rg_M_poll_44_t0 S (rg_M_poll_44_t0 S (rg_M_poll_44_t0 S (-1) 5) 4) 3) 2) 1) 0).toNatClampNeg) (S.1 21 0 20)) 31 0 ((rg_M_poll_44_t0 S (rg_M_poll_44_t0 S (rg_M_poll_44_t0 S (rg_M_poll_44_t0 S (rg_M_poll_44_t0 S (rg_M_poll_44_t0 S (-1) 5) 4) 3) 2) 1) 0).toNatClampNeg) 0) 32 0 ((rg_M_poll_44_t0 S (rg_M_poll_44_t0 S (rg_M_poll_44_t0 S (rg_M_poll_44_t0 S (rg_M_poll_44_t0 S (rg_M_poll_44_t0 S (-1) 5) 4) 3) 2) 1) 0).toNatClampNeg) 0) 25 0 (((S.1 21 0 3) + 1).toNatClampNeg) 0) 1 ((S.1 21 0 3) + 1) 0) 1 ((g_M_come (z_sI (z_sI (z_sI (z_sI (z_sL (z_sI (z_sI (z_sI (z_sI S 21 0 3 ((S.1 21 0 3) + 1)) 26 0 ((rg_M_poll_44_t0 S (rg_M_poll_44_t0 S (rg_M_poll_44_t0 S (rg_M_poll_44_t0 S (rg_M_poll_44_t0 S (rg_M_poll_44_t0 S (-1) 5) 4) 3) 2) 1) 0).toNatClampNeg) ((S.1 21 0 3) + 1)) 27 0 ((rg_M_poll_44_t0 S (rg_M_poll_44_t0 S (rg_M_poll_44_t0 S (rg_M_poll_44_t0 S (rg_M_poll_44_t0 S (rg_M_poll_44_t0 S (-1) 5) 4) 3) 2) 1) 0).toNatClampNeg) x0) 28 0 ((rg_M_poll_44_t0 S (rg_M_poll_44_t0 S (rg_M_poll_44_t0 S (rg_M_poll_44_t0 S (rg_M_poll_44_t0 S (rg_M_poll_44_t0 S (-1) 5) 4) 3) 2) 1) 0).toNatClampNeg) x1) 29 0 ((rg_M_poll_44_t0 S (rg_M_poll_44_t0 S (rg_M_poll_44_t0 S (rg_M_poll_44_t0 S (rg_M_poll_44_t0 S (rg_M_poll_44_t0 S (-1) 5) 4) 3) 2) 1) 0).toNatClampNeg) x2) 30 0 ((rg_M_poll_44_t0 S (rg_M_poll_44_t0 S (rg_M_poll_44_t0 S (rg_M_poll_44_t0 S (rg_M_poll_44_t0 S (rg_M_poll_44_t0 S (-1) 5) 4) 3) 2) 1) 0).toNatClampNeg) (S.1 21 0 20)) 31 0 ((rg_M_poll_44_t0 S (rg_M_poll_44_t0 S (rg_M_poll_44_t0 S (rg_M_poll_44_t0 S (rg_M_poll_44_t0 S (rg_M_poll_44_t0 S (-1) 5) 4) 3) 2) 1) 0).toNatClampNeg) 0) 32 0 ((rg_M_poll_44_t0 S (rg_M_poll_44_t0 S (rg_M_poll_44_t0 S (rg_M_poll_44_t0 S (rg_M_poll_44_t0 S (rg_M_poll_44_t0 S (-1) 5) 4) 3) 2) 1) 0).toNatClampNeg) 0) 25 0 (((S.1 21 0 3) + 1).toNatClampNeg) 0) 1 ((S.1 21 0 3) + 1) 0).1 21 0 3) 1) 1 ((g_M_come (g_M_come (z_sI (z_sI (z_sI (z_sI (z_sL (z_sI (z_sI (z_sI (z_sI S 21 0 3 ((S.1 21 0 3) + 1)) 26 0 ((rg_M_poll_44_t0 S (rg_M_poll_44_t0 S (rg_M_poll_44_t0 S (rg_M_poll_44_t0 S (rg_M_poll_44_t0 S (rg_M_poll_44_t0 S (-1) 5) 4) 3) 2) 1) 0).toNatClampNeg) ((S.1 21 0 3) + 1)) 27 0 ((rg_M_poll_44_t0 S (rg_M_poll_44_t0 S (rg_M_poll_44_t0 S (rg_M_poll_44_t0 S (rg_M_poll_44_t0 S (rg_M_poll_44_t0 S (-1) 5) 4) 3) 2) 1) 0).toNatClampNeg) x0) 28 0 ((rg_M_poll_44_t0 S (rg_M_poll_44_t0 S (rg_M_poll_44_t0 S (rg_M_poll_44_t0 S (rg_M_poll_44_t0 S (rg_M_poll_44_t0 S (-1) 5) 4) 3) 2) 1) 0).toNatClampNeg) x1) 29 0 ((rg_M_poll_44_t0 S (rg_M_poll_44_t0 S (rg_M_poll_44_t0 S (rg_M_poll_44_t0 S (rg_M_poll_44_t0 S (rg_M_poll_44_t0 S (-1) 5) 4) 3) 2) 1) 0).toNatClampNeg) x2) 30 0 ((rg_M_poll_44_t0 S (rg_M_poll_44_t0 S (rg_M_poll_44_t0 S (rg_M_poll_44_t0 S (rg_M_poll_44_t0 S (rg_M_poll_44_t0 S (-1) 5) 4) 3) 2) 1) 0).toNatClampNeg) (S.1 21 0 20)) 31 0 ((rg_M_poll_44_t0 S (rg_M_poll_44_t0 S (rg_M_poll_44_t0 S (rg_M_poll_44_t0 S (rg_M_poll_44_t0 S (rg_M_poll_44_t0 S (-1) 5) 4) 3) 2) 1) 0).toNatClampNeg) 0) 32 0 ((rg_M_poll_44_t0 S (rg_M_poll_44_t0 S (rg_M_poll_44_t0 S (rg_M_poll_44_t0 S (rg_M_poll_44_t0 S (rg_M_poll_44_t0 S (-1) 5) 4) 3) 2) 1) 0).toNatClampNeg) 0) 25 0 (((S.1 21 0 3) + 1).toNatClampNeg) 0) 1 ((S.1 21 0 3) + 1) 0) 1 ((g_M_come (z_sI (z_sI (z_sI (z_sI (z_sL (z_sI (z_sI (z_sI (z_sI S 21 0 3 ((S.1 21 0 3) + 1)) 26 0 ((rg_M_poll_44_t0 S (rg_M_poll_44_t0 S (rg_M_poll_44_t0 S (rg_M_poll_44_t0 S (rg_M_poll_44_t0 S (rg_M_poll_44_t0 S (-1) 5) 4) 3) 2) 1) 0).toNatClampNeg) ((S.1 21 0 3) + 1)) 27 0 ((rg_M_poll_44_t0 S (rg_M_poll_44_t0 S (rg_M_poll_44_t0 S (rg_M_poll_44_t0 S (rg_M_poll_44_t0 S (rg_M_poll_44_t0 S (-1) 5) 4) 3) 2) 1) 0).toNatClampNeg) x0) 28 0 ((rg_M_poll_44_t0 S (rg_M_poll_44_t0 S (rg_M_poll_44_t0 S (rg_M_poll_44_t0 S (rg_M_poll_44_t0 S (rg_M_poll_44_t0 S (-1) 5) 4) 3) 2) 1) 0).toNatClampNeg) x1) 29 0 ((rg_M_poll_44_t0 S (rg_M_poll_44_t0 S (rg_M_poll_44_t0 S (rg_M_poll_44_t0 S (rg_M_poll_44_t0 S (rg_M_poll_44_t0 S (-1) 5) 4) 3) 2) 1) 0).toNatClampNeg) x2) 30 0 ((rg_M_poll_44_t0 S (rg_M_poll_44_t0 S (rg_M_poll_44_t0 S (rg_M_poll_44_t0 S (rg_M_poll_44_t0 S (rg_M_poll_44_t0 S (-1) 5) 4) 3) 2) 1) 0).toNatClampNeg) (S.1 21 0 20)) 31 0 ((rg_M_poll_44_t0 S (rg_M_poll_44_t0 S (rg_M_poll_44_t0 S (rg_M_poll_44_t0 S (rg_M_poll_44_t0 S (rg_M_poll_44_t0 S (-1) 5) 4) 3) 2) 1) 0).toNatClampNeg) 0) 32 0 ((rg_M_poll_44_t0 S (rg_M_poll_44_t0 S (rg_M_poll_44_t0 S (rg_M_poll_44_t0 S (rg_M_poll_44_t0 S (rg_M_poll_44_t0 S (-1) 5) 4) 3) 2) 1) 0).toNatClampNeg) 0) 25 0 (((S.1 21 0 3) + 1).toNatClampNeg) 0) 1 ((S.1 21 0 3) + 1) 0).1 21 0 3) 1).1 21 0 3) 2).1 21 0 14) 25 := z_cme hm
              refine lv_pop hx hb d_M_poll_179 rfl ?_
              refine lv_iinc (k := 0) (v := 3) (lv' := [(6, .int 3), (5, .int (rg_M_poll_44_t0 S (rg_M_poll_44_t0 S (rg_M_poll_44_t0 S (rg_M_poll_44_t0 S (rg_M_poll_44_t0 S (rg_M_poll_44_t0 S (-1) 5) 4) 3) 2) 1) 0)), (0, .ref (ad 21 0)), (1, .int x0), (2, .int x1), (3, .long x2)]) hx hb d_M_poll_180 hl rfl (by decide) (Nat.le_of_ble_eq_true rfl) rfl (fun ls hl => ?_)
              refine lv_goto (tgt := 162) hx hb d_M_poll_183 rfl ?_
              refine lv_iload hx hb d_M_poll_162 (lv_at hl 0 rfl) ?_
              refine lv_iconst (v := 3) hx hb d_M_poll_164 z_k3 ?_
              refine lv_icmp_ge (tgt := 186) hx hb d_M_poll_165 rfl (fun _ => ?_) (fun h => absurd h (by decide))
              refine lv_aload_n hx hb d_M_poll_186 rfl (lv_at hl 2 rfl) ?_
              refine gf_M_112_21 hF hG (v := ((g_M_come (g_M_come (g_M_come (z_sI (z_sI (z_sI (z_sI (z_sL (z_sI (z_sI (z_sI (z_sI S 21 0 3 ((S.1 21 0 3) + 1)) 26 0 ((rg_M_poll_44_t0 S (rg_M_poll_44_t0 S (rg_M_poll_44_t0 S (rg_M_poll_44_t0 S (rg_M_poll_44_t0 S (rg_M_poll_44_t0 S (-1) 5) 4) 3) 2) 1) 0).toNatClampNeg) ((S.1 21 0 3) + 1)) 27 0 ((rg_M_poll_44_t0 S (rg_M_poll_44_t0 S (rg_M_poll_44_t0 S (rg_M_poll_44_t0 S (rg_M_poll_44_t0 S (rg_M_poll_44_t0 S (-1) 5) 4) 3) 2) 1) 0).toNatClampNeg) x0) 28 0 ((rg_M_poll_44_t0 S (rg_M_poll_44_t0 S (rg_M_poll_44_t0 S (rg_M_poll_44_t0 S (rg_M_poll_44_t0 S (rg_M_poll_44_t0 S (-1) 5) 4) 3) 2) 1) 0).toNatClampNeg) x1) 29 0 ((rg_M_poll_44_t0 S (rg_M_poll_44_t0 S (rg_M_poll_44_t0 S (rg_M_poll_44_t0 S (rg_M_poll_44_t0 S (rg_M_poll_44_t0 S (-1) 5) 4) 3) 2) 1) 0).toNatClampNeg) x2) 30 0 ((rg_M_poll_44_t0 S (rg_M_poll_44_t0 S (rg_M_poll_44_t0 S (rg_M_poll_44_t0 S (rg_M_poll_44_t0 S (rg_M_poll_44_t0 S (-1) 5) 4) 3) 2) 1) 0).toNatClampNeg) (S.1 21 0 20)) 31 0 ((rg_M_poll_44_t0 S (rg_M_poll_44_t0 S (rg_M_poll_44_t0 S (rg_M_poll_44_t0 S (rg_M_poll_44_t0 S (rg_M_poll_44_t0 S (-1) 5) 4) 3) 2) 1) 0).toNatClampNeg) 0) 32 0 ((rg_M_poll_44_t0 S (rg_M_poll_44_t0 S (rg_M_poll_44_t0 S (rg_M_poll_44_t0 S (rg_M_poll_44_t0 S (rg_M_poll_44_t0 S (-1) 5) 4) 3) 2) 1) 0).toNatClampNeg) 0) 25 0 (((S.1 21 0 3) + 1).toNatClampNeg) 0) 1 ((S.1 21 0 3) + 1) 0) 1 ((g_M_come (z_sI (z_sI (z_sI (z_sI (z_sL (z_sI (z_sI (z_sI (z_sI S 21 0 3 ((S.1 21 0 3) + 1)) 26 0 ((rg_M_poll_44_t0 S (rg_M_poll_44_t0 S (rg_M_poll_44_t0 S (rg_M_poll_44_t0 S (rg_M_poll_44_t0 S (rg_M_poll_44_t0 S (-1) 5) 4) 3) 2) 1) 0).toNatClampNeg) ((S.1 21 0 3) + 1)) 27 0 ((rg_M_poll_44_t0 S (rg_M_poll_44_t0 S (rg_M_poll_44_t0 S (rg_M_poll_44_t0 S (rg_M_poll_44_t0 S (rg_M_poll_44_t0 S (-1) 5) 4) 3) 2) 1) 0).toNatClampNeg) x0) 28 0 ((rg_M_poll_44_t0 S (rg_M_poll_44_t0 S (rg_M_poll_44_t0 S (rg_M_poll_44_t0 S (rg_M_poll_44_t0 S (rg_M_poll_44_t0 S (-1) 5) 4) 3) 2) 1) 0).toNatClampNeg) x1) 29 0 ((rg_M_poll_44_t0 S (rg_M_poll_44_t0 S (rg_M_poll_44_t0 S (rg_M_poll_44_t0 S (rg_M_poll_44_t0 S (rg_M_poll_44_t0 S (-1) 5) 4) 3) 2) 1) 0).toNatClampNeg) x2) 30 0 ((rg_M_poll_44_t0 S (rg_M_poll_44_t0 S (rg_M_poll_44_t0 S (rg_M_poll_44_t0 S (rg_M_poll_44_t0 S (rg_M_poll_44_t0 S (-1) 5) 4) 3) 2) 1) 0).toNatClampNeg) (S.1 21 0 20)) 31 0 ((rg_M_poll_44_t0 S (rg_M_poll_44_t0 S (rg_M_poll_44_t0 S (rg_M_poll_44_t0 S (rg_M_poll_44_t0 S (rg_M_poll_44_t0 S (-1) 5) 4) 3) 2) 1) 0).toNatClampNeg) 0) 32 0 ((rg_M_poll_44_t0 S (rg_M_poll_44_t0 S (rg_M_poll_44_t0 S (rg_M_poll_44_t0 S (rg_M_poll_44_t0 S (rg_M_poll_44_t0 S (-1) 5) 4) 3) 2) 1) 0).toNatClampNeg) 0) 25 0 (((S.1 21 0 3) + 1).toNatClampNeg) 0) 1 ((S.1 21 0 3) + 1) 0).1 21 0 3) 1) 1 ((g_M_come (g_M_come (z_sI (z_sI (z_sI (z_sI (z_sL (z_sI (z_sI (z_sI (z_sI S 21 0 3 ((S.1 21 0 3) + 1)) 26 0 ((rg_M_poll_44_t0 S (rg_M_poll_44_t0 S (rg_M_poll_44_t0 S (rg_M_poll_44_t0 S (rg_M_poll_44_t0 S (rg_M_poll_44_t0 S (-1) 5) 4) 3) 2) 1) 0).toNatClampNeg) ((S.1 21 0 3) + 1)) 27 0 ((rg_M_poll_44_t0 S (rg_M_poll_44_t0 S (rg_M_poll_44_t0 S (rg_M_poll_44_t0 S (rg_M_poll_44_t0 S (rg_M_poll_44_t0 S (-1) 5) 4) 3) 2) 1) 0).toNatClampNeg) x0) 28 0 ((rg_M_poll_44_t0 S (rg_M_poll_44_t0 S (rg_M_poll_44_t0 S (rg_M_poll_44_t0 S (rg_M_poll_44_t0 S (rg_M_poll_44_t0 S (-1) 5) 4) 3) 2) 1) 0).toNatClampNeg) x1) 29 0 ((rg_M_poll_44_t0 S (rg_M_poll_44_t0 S (rg_M_poll_44_t0 S (rg_M_poll_44_t0 S (rg_M_poll_44_t0 S (rg_M_poll_44_t0 S (-1) 5) 4) 3) 2) 1) 0).toNatClampNeg) x2) 30 0 ((rg_M_poll_44_t0 S (rg_M_poll_44_t0 S (rg_M_poll_44_t0 S (rg_M_poll_44_t0 S (rg_M_poll_44_t0 S (rg_M_poll_44_t0 S (-1) 5) 4) 3) 2) 1) 0).toNatClampNeg) (S.1 21 0 20)) 31 0 ((rg_M_poll_44_t0 S (rg_M_poll_44_t0 S (rg_M_poll_44_t0 S (rg_M_poll_44_t0 S (rg_M_poll_44_t0 S (rg_M_poll_44_t0 S (-1) 5) 4) 3) 2) 1) 0).toNatClampNeg) 0) 32 0 ((rg_M_poll_44_t0 S (rg_M_poll_44_t0 S (rg_M_poll_44_t0 S (rg_M_poll_44_t0 S (rg_M_poll_44_t0 S (rg_M_poll_44_t0 S (-1) 5) 4) 3) 2) 1) 0).toNatClampNeg) 0) 25 0 (((S.1 21 0 3) + 1).toNatClampNeg) 0) 1 ((S.1 21 0 3) + 1) 0) 1 ((g_M_come (z_sI (z_sI (z_sI (z_sI (z_sL (z_sI (z_sI (z_sI (z_sI S 21 0 3 ((S.1 21 0 3) + 1)) 26 0 ((rg_M_poll_44_t0 S (rg_M_poll_44_t0 S (rg_M_poll_44_t0 S (rg_M_poll_44_t0 S (rg_M_poll_44_t0 S (rg_M_poll_44_t0 S (-1) 5) 4) 3) 2) 1) 0).toNatClampNeg) ((S.1 21 0 3) + 1)) 27 0 ((rg_M_poll_44_t0 S (rg_M_poll_44_t0 S (rg_M_poll_44_t0 S (rg_M_poll_44_t0 S (rg_M_poll_44_t0 S (rg_M_poll_44_t0 S (-1) 5) 4) 3) 2) 1) 0).toNatClampNeg) x0) 28 0 ((rg_M_poll_44_t0 S (rg_M_poll_44_t0 S (rg_M_poll_44_t0 S (rg_M_poll_44_t0 S (rg_M_poll_44_t0 S (rg_M_poll_44_t0 S (-1) 5) 4) 3) 2) 1) 0).toNatClampNeg) x1) 29 0 ((rg_M_poll_44_t0 S (rg_M_poll_44_t0 S (rg_M_poll_44_t0 S (rg_M_poll_44_t0 S (rg_M_poll_44_t0 S (rg_M_poll_44_t0 S (-1) 5) 4) 3) 2) 1) 0).toNatClampNeg) x2) 30 0 ((rg_M_poll_44_t0 S (rg_M_poll_44_t0 S (rg_M_poll_44_t0 S (rg_M_poll_44_t0 S (rg_M_poll_44_t0 S (rg_M_poll_44_t0 S (-1) 5) 4) 3) 2) 1) 0).toNatClampNeg) (S.1 21 0 20)) 31 0 ((rg_M_poll_44_t0 S (rg_M_poll_44_t0 S (rg_M_poll_44_t0 S (rg_M_poll_44_t0 S (rg_M_poll_44_t0 S (rg_M_poll_44_t0 S (-1) 5) 4) 3) 2) 1) 0).toNatClampNeg) 0) 32 0 ((rg_M_poll_44_t0 S (rg_M_poll_44_t0 S (rg_M_poll_44_t0 S (rg_M_poll_44_t0 S (rg_M_poll_44_t0 S (rg_M_poll_44_t0 S (-1) 5) 4) 3) 2) 1) 0).toNatClampNeg) 0) 25 0 (((S.1 21 0 3) + 1).toNatClampNeg) 0) 1 ((S.1 21 0 3) + 1) 0).1 21 0 3) 1).1 21 0 3) 2).1 21 0 3)) rfl d_M_poll_187 ?_
              exact z_iret hF hr hlk hG (Eq.symm ((if_neg h1).trans ((if_neg h6).trans ((if_neg h10).trans ((if_pos h16).trans ((if_neg h27).trans ((if_pos h71).trans rfl))))))) (Eq.symm ((if_neg h1).trans ((if_neg h6).trans ((if_neg h10).trans ((if_pos h16).trans ((if_neg h27).trans ((if_pos h71).trans rfl))))))) d_M_poll_190
            ·
              refine lv_bipush (v := (-3)) hx hb d_M_poll_74 z_bim3 ?_
              exact z_iret hF hr hlk hG (Eq.symm ((if_neg h1).trans ((if_neg h6).trans ((if_neg h10).trans ((if_pos h16).trans ((if_neg h27).trans ((if_neg h71).trans rfl))))))) (Eq.symm ((if_neg h1).trans ((if_neg h6).trans ((if_neg h10).trans ((if_pos h16).trans ((if_neg h27).trans ((if_neg h71).trans rfl))))))) d_M_poll_76
          ·
            refine lv_bipush (v := (-2)) hx hb d_M_poll_30 z_bim2 ?_
            exact z_iret hF hr hlk hG (Eq.symm ((if_neg h1).trans ((if_neg h6).trans ((if_neg h10).trans ((if_pos h16).trans ((if_pos h27).trans rfl)))))) (Eq.symm ((if_neg h1).trans ((if_neg h6).trans ((if_neg h10).trans ((if_pos h16).trans ((if_pos h27).trans rfl)))))) d_M_poll_32
        ·
          refine lv_iconst (v := (-1)) hx hb d_M_poll_19 z_km1 ?_
          exact z_iret hF hr hlk hG (Eq.symm ((if_neg h1).trans ((if_neg h6).trans ((if_neg h10).trans ((if_neg h16).trans rfl))))) (Eq.symm ((if_neg h1).trans ((if_neg h6).trans ((if_neg h10).trans ((if_neg h16).trans rfl))))) d_M_poll_20
def rg_M_again_85_S1 (S : z_S) (v1 : Int32) (v3 : Int32) (v4 : Int32) (v6 : Int32) : z_S := (if ((v4 >>> (v6 &&& 31)) &&& 1) = 0 then (g_M_come S v3 v1 v6) else S)
def rg_M_again_85_u5 (v4 : Int32) (v5 : Int32) (v6 : Int32) : Int32 := (if ((v4 >>> (v6 &&& 31)) &&& 1) = 0 then (v5 + 1) else v5)
set_option maxHeartbeats 4000000 in
set_option maxRecDepth 100000 in
theorem rg_M_again_85 {D : va_G} {C : Nat → ClassId} {ad : Nat → Nat → Nat} {S : z_S} {p : Program} {l : Launch} {e : Env} {s : State} {m : MethodId} {args : Array Value} {below : List Frame} {meth : Method} {c : Code} {H H0 : Heap} {locs : List Loc} {Q : State → Prop} {ls : Array Slot} {v1 : Int32} {v2 : Int32} {v3 : Int32} {v4 : Int32} {v5 : Int32} {v6 : Int32}  (hF : z_F D C ad p m c b_M_again 7 s args R_M)  (hm : vp_in (S.1 21 0 14) 25) (hG : z_G D C ad H0 S H locs) (hl : lv_has ls 7 [(0, .ref (ad 21 0)), (1, .int v1), (2, .int v2), (3, .int v3), (4, .int v4), (5, .int v5), (6, .int v6)]) (kk : ∀ (H : Heap) (locs : List Loc) (ls : Array Slot) (S1 : z_S) (u5 : Int32), z_G D C ad H0 S1 H locs → lv_has ls 7 [(0, .ref (ad 21 0)), (1, .int v1), (2, .int v2), (3, .int v3), (4, .int v4), (5, .int u5), (6, .int v6)] → rg_M_again_85_S1 S v1 v3 v4 v6 = S1 → rg_M_again_85_u5 v4 v5 v6 = u5 → W p l e rm_M_again s m args below meth c H locs 0 0 Q (F0 m 107 ls [])) : W p l e rm_M_again s m args below meth c H locs 0 0 Q (F0 m 85 ls []) := by
  obtain ⟨hx, hb, hml, hown, hts⟩ := hF.1
  refine lv_iload hx hb d_M_again_85 (lv_at hl 4 rfl) ?_
  refine lv_iload hx hb d_M_again_87 (lv_at hl 6 rfl) ?_
  refine lv_ishr hx hb d_M_again_89 ?_
  refine lv_iconst (v := 1) hx hb d_M_again_90 z_k1 ?_
  refine lv_iand hx hb d_M_again_91 ?_
  refine lv_if_ne (tgt := 107) hx hb d_M_again_92 rfl (fun h92 => ?_) (fun h92 => ?_)
  ·
    exact kk _ _ _ _ _ hG (lv_sub hl [0, 1, 2, 3, 4, 5, 6] rfl) ((if_neg h92).trans rfl) ((if_neg h92).trans rfl)
  ·
    refine lv_aload_n hx hb d_M_again_95 rfl (lv_at hl 0 rfl) ?_
    refine lv_iload_n hx hb d_M_again_96 rfl (lv_at hl 3 rfl) ?_
    refine lv_iload_n hx hb d_M_again_97 rfl (lv_at hl 1 rfl) ?_
    refine lv_iload hx hb d_M_again_98 (lv_at hl 6 rfl) ?_
    refine kc_M_115 hF (c_M_come l D C ad hF.2.2 _ _ _ _ hm) hG ⟨Nat.le_of_ble_eq_true rfl, Nat.le_of_ble_eq_true rfl⟩ ⟨Nat.zero_le _, Nat.zero_le _⟩ hl.1 (Nat.le_of_ble_eq_true rfl) d_M_again_100 (fun H locs hG => ?_)
    refine lv_pop hx hb d_M_again_103 rfl ?_
    refine lv_iinc (k := 5) (v := (v5 + 1)) (lv' := [(5, .int (v5 + 1)), (0, .ref (ad 21 0)), (1, .int v1), (2, .int v2), (3, .int v3), (4, .int v4), (6, .int v6)]) hx hb d_M_again_104 hl rfl (by rw [z_k1]) (Nat.le_of_ble_eq_true rfl) rfl (fun ls hl => ?_)
    exact kk _ _ _ _ _ hG (lv_sub hl [1, 2, 3, 4, 5, 0, 6] rfl) ((if_pos h92).trans rfl) ((if_pos h92).trans rfl)
theorem z_cma {S : z_S} {v1 v3 v4 v6 : Int32} (h : vp_in (S.1 21 0 14) 25) : vp_in ((rg_M_again_85_S1 S v1 v3 v4 v6).1 21 0 14) 25 := by
  unfold rg_M_again_85_S1
  split
  · exact z_cme h
  · exact h
def f_M_again (S : z_S) (x0 : Int32) : Int32 := (if x0 < 1 then (-1) else (if x0 ≤ (S.1 21 0 3) then (if 0 ≤ (f_M_placeOf S x0) then (if (S.1 31 0 ((f_M_placeOf S x0).toNatClampNeg)) = 7 then (rg_M_again_85_u5 (S.1 32 0 ((f_M_placeOf S x0).toNatClampNeg)) (rg_M_again_85_u5 (S.1 32 0 ((f_M_placeOf S x0).toNatClampNeg)) (rg_M_again_85_u5 (S.1 32 0 ((f_M_placeOf S x0).toNatClampNeg)) 0 0) 1) 2) else (rg_M_again_85_u5 (S.1 31 0 ((f_M_placeOf S x0).toNatClampNeg)) (rg_M_again_85_u5 (S.1 31 0 ((f_M_placeOf S x0).toNatClampNeg)) (rg_M_again_85_u5 (S.1 31 0 ((f_M_placeOf S x0).toNatClampNeg)) 0 0) 1) 2)) else (-2)) else (-1)))
def g_M_again (S : z_S) (x0 : Int32) : z_S := (if x0 < 1 then S else (if x0 ≤ (S.1 21 0 3) then (if 0 ≤ (f_M_placeOf S x0) then (if (S.1 31 0 ((f_M_placeOf S x0).toNatClampNeg)) = 7 then (rg_M_again_85_S1 (rg_M_again_85_S1 (rg_M_again_85_S1 S x0 3 (S.1 32 0 ((f_M_placeOf S x0).toNatClampNeg)) 0) x0 3 (S.1 32 0 ((f_M_placeOf S x0).toNatClampNeg)) 1) x0 3 (S.1 32 0 ((f_M_placeOf S x0).toNatClampNeg)) 2) else (rg_M_again_85_S1 (rg_M_again_85_S1 (rg_M_again_85_S1 S x0 1 (S.1 31 0 ((f_M_placeOf S x0).toNatClampNeg)) 0) x0 1 (S.1 31 0 ((f_M_placeOf S x0).toNatClampNeg)) 1) x0 1 (S.1 31 0 ((f_M_placeOf S x0).toNatClampNeg)) 2)) else S) else S))
set_option maxHeartbeats 4000000 in
set_option maxRecDepth 100000 in
theorem c_M_again (l : Launch) (D : va_G) (C : Nat → ClassId) (ad : Nat → Nat → Nat) (hJ : z_J ad) (S : z_S) (x0 : Int32) (hom : z_Om S) : z_M l y_M_again b_M_again 7 (some .int) rm_M_again D C ad [.ref (ad 21 0), .int x0] S (z_Qi D C ad (f_M_again S x0) (g_M_again S x0)) := by
  refine z_enter (by decide) (Nat.le_of_ble_eq_true rfl) hJ ?_
  intro p e s m below meth c ls hF hr hlk hl hG
  obtain ⟨hx, hb, hml, hown, hts⟩ := hF.1
  have hl : lv_has ls 7 [(0, .ref (ad 21 0)), (1, .int x0)] := hl
  refine lv_iload_n hx hb d_M_again_0 rfl (lv_at hl 1 rfl) ?_
  refine lv_iconst (v := 1) hx hb d_M_again_1 z_k1 ?_
  refine lv_icmp_lt (tgt := 13) hx hb d_M_again_2 rfl (fun h2 => ?_) (fun h2 => ?_)
  ·
    refine lv_iconst (v := (-1)) hx hb d_M_again_13 z_km1 ?_
    exact z_iret hF hr hlk hG (Eq.symm ((if_pos h2).trans rfl)) (Eq.symm ((if_pos h2).trans rfl)) d_M_again_14
  ·
    refine lv_iload_n hx hb d_M_again_5 rfl (lv_at hl 1 rfl) ?_
    refine lv_aload_n hx hb d_M_again_6 rfl (lv_at hl 0 rfl) ?_
    refine gf_M_112_21 hF hG (v := (S.1 21 0 3)) rfl d_M_again_7 ?_
    refine lv_icmp_le (tgt := 15) hx hb d_M_again_10 rfl (fun h10 => ?_) (fun h10 => ?_)
    ·
      refine lv_aload_n hx hb d_M_again_15 rfl (lv_at hl 0 rfl) ?_
      refine lv_iload_n hx hb d_M_again_16 rfl (lv_at hl 1 rfl) ?_
      refine kc_M_119 hF (c_M_placeOf l D C ad hF.2.2 _ _ ) hG ⟨Nat.le_of_ble_eq_true rfl, Nat.le_of_ble_eq_true rfl⟩ ⟨Nat.zero_le _, Nat.zero_le _⟩ hl.1 (Nat.le_of_ble_eq_true rfl) d_M_again_17 (fun H locs hG => ?_)
      refine lv_istore_n (lv' := [(2, .int (f_M_placeOf S x0)), (0, .ref (ad 21 0)), (1, .int x0)]) hx hb d_M_again_20 rfl hl (Nat.le_of_ble_eq_true rfl) rfl (fun ls hl => ?_)
      refine lv_iload_n hx hb d_M_again_21 rfl (lv_at hl 0 rfl) ?_
      refine lv_if_ge (tgt := 28) hx hb d_M_again_22 rfl (fun h22 => ?_) (fun h22 => ?_)
      ·
        have hm := z_mmy hom
        refine lv_aload_n hx hb d_M_again_28 rfl (lv_at hl 1 rfl) ?_
        refine gf_M_39_21 hF hG d_M_again_29 ?_
        refine lv_iload_n hx hb d_M_again_32 rfl (lv_at hl 0 rfl) ?_
        refine z_iald (n := 6) (j := (f_M_placeOf S x0).toNatClampNeg) (v := (S.1 31 0 ((f_M_placeOf S x0).toNatClampNeg))) hF hG z_o31 (z_c31 C ad _ _ _) rfl (z_mi_pos pl_M_placeOf h22) rfl d_M_again_33 ?_
        refine lv_bipush (v := 7) hx hb d_M_again_34 z_bi7 ?_
        refine lv_icmp_ne (tgt := 43) hx hb d_M_again_36 rfl (fun h36 => ?_) (fun h36 => ?_)
        ·
          refine lv_iconst (v := 1) hx hb d_M_again_43 z_k1 ?_
          refine lv_istore_n (lv' := [(3, .int 1), (2, .int (f_M_placeOf S x0)), (0, .ref (ad 21 0)), (1, .int x0)]) hx hb d_M_again_44 rfl hl (Nat.le_of_ble_eq_true rfl) rfl (fun ls hl => ?_)
          refine lv_aload_n hx hb d_M_again_45 rfl (lv_at hl 2 rfl) ?_
          refine gf_M_39_21 hF hG d_M_again_46 ?_
          refine lv_iload_n hx hb d_M_again_49 rfl (lv_at hl 1 rfl) ?_
          refine z_iald (n := 6) (j := (f_M_placeOf S x0).toNatClampNeg) (v := (S.1 31 0 ((f_M_placeOf S x0).toNatClampNeg))) hF hG z_o31 (z_c31 C ad _ _ _) rfl (z_mi_pos pl_M_placeOf h22) rfl d_M_again_50 ?_
          refine lv_bipush (v := 7) hx hb d_M_again_51 z_bi7 ?_
          refine lv_icmp_ne (tgt := 65) hx hb d_M_again_53 rfl (fun _ => ?_) (fun h => absurd h h36)
          refine lv_aload_n hx hb d_M_again_65 rfl (lv_at hl 2 rfl) ?_
          refine gf_M_39_21 hF hG d_M_again_66 ?_
          refine lv_iload_n hx hb d_M_again_69 rfl (lv_at hl 1 rfl) ?_
          refine z_iald (n := 6) (j := (f_M_placeOf S x0).toNatClampNeg) (v := (S.1 31 0 ((f_M_placeOf S x0).toNatClampNeg))) hF hG z_o31 (z_c31 C ad _ _ _) rfl (z_mi_pos pl_M_placeOf h22) rfl d_M_again_70 ?_
          refine lv_istore (lv' := [(4, .int (S.1 31 0 ((f_M_placeOf S x0).toNatClampNeg))), (3, .int 1), (2, .int (f_M_placeOf S x0)), (0, .ref (ad 21 0)), (1, .int x0)]) hx hb d_M_again_71 hl (Nat.le_of_ble_eq_true rfl) rfl (fun ls hl => ?_)
          refine lv_iconst (v := 0) hx hb d_M_again_73 z_k0 ?_
          refine lv_istore (lv' := [(5, .int 0), (4, .int (S.1 31 0 ((f_M_placeOf S x0).toNatClampNeg))), (3, .int 1), (2, .int (f_M_placeOf S x0)), (0, .ref (ad 21 0)), (1, .int x0)]) hx hb d_M_again_74 hl (Nat.le_of_ble_eq_true rfl) rfl (fun ls hl => ?_)
          refine lv_iconst (v := 0) hx hb d_M_again_76 z_k0 ?_
          refine lv_istore (lv' := [(6, .int 0), (5, .int 0), (4, .int (S.1 31 0 ((f_M_placeOf S x0).toNatClampNeg))), (3, .int 1), (2, .int (f_M_placeOf S x0)), (0, .ref (ad 21 0)), (1, .int x0)]) hx hb d_M_again_77 hl (Nat.le_of_ble_eq_true rfl) rfl (fun ls hl => ?_)
          refine lv_iload hx hb d_M_again_79 (lv_at hl 0 rfl) ?_
          refine lv_iconst (v := 3) hx hb d_M_again_81 z_k3 ?_
          refine lv_icmp_ge (tgt := 113) hx hb d_M_again_82 rfl (fun h => absurd h (by decide)) (fun _ => ?_)
          refine rg_M_again_85 hF  hm hG (lv_sub hl [5, 6, 4, 3, 2, 1, 0] rfl) (fun H locs ls S1 u5 hG hl e_S1 e_u5 => ?_)
          subst e_S1
          subst e_u5
          have hm : vp_in ((rg_M_again_85_S1 S x0 1 (S.1 31 0 ((f_M_placeOf S x0).toNatClampNeg)) 0).1 21 0 14) 25 := z_cma hm
          refine lv_iinc (k := 6) (v := 1) (lv' := [(6, .int 1), (0, .ref (ad 21 0)), (1, .int x0), (2, .int (f_M_placeOf S x0)), (3, .int 1), (4, .int (S.1 31 0 ((f_M_placeOf S x0).toNatClampNeg))), (5, .int (rg_M_again_85_u5 (S.1 31 0 ((f_M_placeOf S x0).toNatClampNeg)) 0 0))]) hx hb d_M_again_107 hl rfl (by decide) (Nat.le_of_ble_eq_true rfl) rfl (fun ls hl => ?_)
          refine lv_goto (tgt := 79) hx hb d_M_again_110 rfl ?_
          refine lv_iload hx hb d_M_again_79 (lv_at hl 0 rfl) ?_
          refine lv_iconst (v := 3) hx hb d_M_again_81 z_k3 ?_
          refine lv_icmp_ge (tgt := 113) hx hb d_M_again_82 rfl (fun h => absurd h (by decide)) (fun _ => ?_)
          refine rg_M_again_85 hF  hm hG (lv_sub hl [1, 2, 3, 4, 5, 6, 0] rfl) (fun H locs ls S1 u5 hG hl e_S1 e_u5 => ?_)
          subst e_S1
          subst e_u5
          have hm : vp_in ((rg_M_again_85_S1 (rg_M_again_85_S1 S x0 1 (S.1 31 0 ((f_M_placeOf S x0).toNatClampNeg)) 0) x0 1 (S.1 31 0 ((f_M_placeOf S x0).toNatClampNeg)) 1).1 21 0 14) 25 := z_cma hm
          refine lv_iinc (k := 6) (v := 2) (lv' := [(6, .int 2), (0, .ref (ad 21 0)), (1, .int x0), (2, .int (f_M_placeOf S x0)), (3, .int 1), (4, .int (S.1 31 0 ((f_M_placeOf S x0).toNatClampNeg))), (5, .int (rg_M_again_85_u5 (S.1 31 0 ((f_M_placeOf S x0).toNatClampNeg)) (rg_M_again_85_u5 (S.1 31 0 ((f_M_placeOf S x0).toNatClampNeg)) 0 0) 1))]) hx hb d_M_again_107 hl rfl (by decide) (Nat.le_of_ble_eq_true rfl) rfl (fun ls hl => ?_)
          refine lv_goto (tgt := 79) hx hb d_M_again_110 rfl ?_
          refine lv_iload hx hb d_M_again_79 (lv_at hl 0 rfl) ?_
          refine lv_iconst (v := 3) hx hb d_M_again_81 z_k3 ?_
          refine lv_icmp_ge (tgt := 113) hx hb d_M_again_82 rfl (fun h => absurd h (by decide)) (fun _ => ?_)
          refine rg_M_again_85 hF  hm hG (lv_sub hl [1, 2, 3, 4, 5, 6, 0] rfl) (fun H locs ls S1 u5 hG hl e_S1 e_u5 => ?_)
          subst e_S1
          subst e_u5
          have hm : vp_in ((rg_M_again_85_S1 (rg_M_again_85_S1 (rg_M_again_85_S1 S x0 1 (S.1 31 0 ((f_M_placeOf S x0).toNatClampNeg)) 0) x0 1 (S.1 31 0 ((f_M_placeOf S x0).toNatClampNeg)) 1) x0 1 (S.1 31 0 ((f_M_placeOf S x0).toNatClampNeg)) 2).1 21 0 14) 25 := z_cma hm
          refine lv_iinc (k := 6) (v := 3) (lv' := [(6, .int 3), (0, .ref (ad 21 0)), (1, .int x0), (2, .int (f_M_placeOf S x0)), (3, .int 1), (4, .int (S.1 31 0 ((f_M_placeOf S x0).toNatClampNeg))), (5, .int (rg_M_again_85_u5 (S.1 31 0 ((f_M_placeOf S x0).toNatClampNeg)) (rg_M_again_85_u5 (S.1 31 0 ((f_M_placeOf S x0).toNatClampNeg)) (rg_M_again_85_u5 (S.1 31 0 ((f_M_placeOf S x0).toNatClampNeg)) 0 0) 1) 2))]) hx hb d_M_again_107 hl rfl (by decide) (Nat.le_of_ble_eq_true rfl) rfl (fun ls hl => ?_)
          refine lv_goto (tgt := 79) hx hb d_M_again_110 rfl ?_
          refine lv_iload hx hb d_M_again_79 (lv_at hl 0 rfl) ?_
          refine lv_iconst (v := 3) hx hb d_M_again_81 z_k3 ?_
          refine lv_icmp_ge (tgt := 113) hx hb d_M_again_82 rfl (fun _ => ?_) (fun h => absurd h (by decide))
          refine lv_iload hx hb d_M_again_113 (lv_at hl 6 rfl) ?_
          exact z_iret hF hr hlk hG (Eq.symm ((if_neg h2).trans ((if_pos h10).trans ((if_pos h22).trans ((if_neg h36).trans rfl))))) (Eq.symm ((if_neg h2).trans ((if_pos h10).trans ((if_pos h22).trans ((if_neg h36).trans rfl))))) d_M_again_115
        ·
          refine lv_iconst (v := 3) hx hb d_M_again_39 z_k3 ?_
          refine lv_goto (tgt := 44) hx hb d_M_again_40 rfl ?_
          refine lv_istore_n (lv' := [(3, .int 3), (2, .int (f_M_placeOf S x0)), (0, .ref (ad 21 0)), (1, .int x0)]) hx hb d_M_again_44 rfl hl (Nat.le_of_ble_eq_true rfl) rfl (fun ls hl => ?_)
          refine lv_aload_n hx hb d_M_again_45 rfl (lv_at hl 2 rfl) ?_
          refine gf_M_39_21 hF hG d_M_again_46 ?_
          refine lv_iload_n hx hb d_M_again_49 rfl (lv_at hl 1 rfl) ?_
          refine z_iald (n := 6) (j := (f_M_placeOf S x0).toNatClampNeg) (v := (S.1 31 0 ((f_M_placeOf S x0).toNatClampNeg))) hF hG z_o31 (z_c31 C ad _ _ _) rfl (z_mi_pos pl_M_placeOf h22) rfl d_M_again_50 ?_
          refine lv_bipush (v := 7) hx hb d_M_again_51 z_bi7 ?_
          refine lv_icmp_ne (tgt := 65) hx hb d_M_again_53 rfl (fun h => absurd h36 h) (fun _ => ?_)
          refine lv_aload_n hx hb d_M_again_56 rfl (lv_at hl 2 rfl) ?_
          refine gf_M_42_21 hF hG d_M_again_57 ?_
          refine lv_iload_n hx hb d_M_again_60 rfl (lv_at hl 1 rfl) ?_
          refine z_iald (n := 6) (j := (f_M_placeOf S x0).toNatClampNeg) (v := (S.1 32 0 ((f_M_placeOf S x0).toNatClampNeg))) hF hG z_o32 (z_c32 C ad _ _ _) rfl (z_mi_pos pl_M_placeOf h22) rfl d_M_again_61 ?_
          refine lv_goto (tgt := 71) hx hb d_M_again_62 rfl ?_
          refine lv_istore (lv' := [(4, .int (S.1 32 0 ((f_M_placeOf S x0).toNatClampNeg))), (3, .int 3), (2, .int (f_M_placeOf S x0)), (0, .ref (ad 21 0)), (1, .int x0)]) hx hb d_M_again_71 hl (Nat.le_of_ble_eq_true rfl) rfl (fun ls hl => ?_)
          refine lv_iconst (v := 0) hx hb d_M_again_73 z_k0 ?_
          refine lv_istore (lv' := [(5, .int 0), (4, .int (S.1 32 0 ((f_M_placeOf S x0).toNatClampNeg))), (3, .int 3), (2, .int (f_M_placeOf S x0)), (0, .ref (ad 21 0)), (1, .int x0)]) hx hb d_M_again_74 hl (Nat.le_of_ble_eq_true rfl) rfl (fun ls hl => ?_)
          refine lv_iconst (v := 0) hx hb d_M_again_76 z_k0 ?_
          refine lv_istore (lv' := [(6, .int 0), (5, .int 0), (4, .int (S.1 32 0 ((f_M_placeOf S x0).toNatClampNeg))), (3, .int 3), (2, .int (f_M_placeOf S x0)), (0, .ref (ad 21 0)), (1, .int x0)]) hx hb d_M_again_77 hl (Nat.le_of_ble_eq_true rfl) rfl (fun ls hl => ?_)
          refine lv_iload hx hb d_M_again_79 (lv_at hl 0 rfl) ?_
          refine lv_iconst (v := 3) hx hb d_M_again_81 z_k3 ?_
          refine lv_icmp_ge (tgt := 113) hx hb d_M_again_82 rfl (fun h => absurd h (by decide)) (fun _ => ?_)
          refine rg_M_again_85 hF  hm hG (lv_sub hl [5, 6, 4, 3, 2, 1, 0] rfl) (fun H locs ls S1 u5 hG hl e_S1 e_u5 => ?_)
          subst e_S1
          subst e_u5
          have hm : vp_in ((rg_M_again_85_S1 S x0 3 (S.1 32 0 ((f_M_placeOf S x0).toNatClampNeg)) 0).1 21 0 14) 25 := z_cma hm
          refine lv_iinc (k := 6) (v := 1) (lv' := [(6, .int 1), (0, .ref (ad 21 0)), (1, .int x0), (2, .int (f_M_placeOf S x0)), (3, .int 3), (4, .int (S.1 32 0 ((f_M_placeOf S x0).toNatClampNeg))), (5, .int (rg_M_again_85_u5 (S.1 32 0 ((f_M_placeOf S x0).toNatClampNeg)) 0 0))]) hx hb d_M_again_107 hl rfl (by decide) (Nat.le_of_ble_eq_true rfl) rfl (fun ls hl => ?_)
          refine lv_goto (tgt := 79) hx hb d_M_again_110 rfl ?_
          refine lv_iload hx hb d_M_again_79 (lv_at hl 0 rfl) ?_
          refine lv_iconst (v := 3) hx hb d_M_again_81 z_k3 ?_
          refine lv_icmp_ge (tgt := 113) hx hb d_M_again_82 rfl (fun h => absurd h (by decide)) (fun _ => ?_)
          refine rg_M_again_85 hF  hm hG (lv_sub hl [1, 2, 3, 4, 5, 6, 0] rfl) (fun H locs ls S1 u5 hG hl e_S1 e_u5 => ?_)
          subst e_S1
          subst e_u5
          have hm : vp_in ((rg_M_again_85_S1 (rg_M_again_85_S1 S x0 3 (S.1 32 0 ((f_M_placeOf S x0).toNatClampNeg)) 0) x0 3 (S.1 32 0 ((f_M_placeOf S x0).toNatClampNeg)) 1).1 21 0 14) 25 := z_cma hm
          refine lv_iinc (k := 6) (v := 2) (lv' := [(6, .int 2), (0, .ref (ad 21 0)), (1, .int x0), (2, .int (f_M_placeOf S x0)), (3, .int 3), (4, .int (S.1 32 0 ((f_M_placeOf S x0).toNatClampNeg))), (5, .int (rg_M_again_85_u5 (S.1 32 0 ((f_M_placeOf S x0).toNatClampNeg)) (rg_M_again_85_u5 (S.1 32 0 ((f_M_placeOf S x0).toNatClampNeg)) 0 0) 1))]) hx hb d_M_again_107 hl rfl (by decide) (Nat.le_of_ble_eq_true rfl) rfl (fun ls hl => ?_)
          refine lv_goto (tgt := 79) hx hb d_M_again_110 rfl ?_
          refine lv_iload hx hb d_M_again_79 (lv_at hl 0 rfl) ?_
          refine lv_iconst (v := 3) hx hb d_M_again_81 z_k3 ?_
          refine lv_icmp_ge (tgt := 113) hx hb d_M_again_82 rfl (fun h => absurd h (by decide)) (fun _ => ?_)
          refine rg_M_again_85 hF  hm hG (lv_sub hl [1, 2, 3, 4, 5, 6, 0] rfl) (fun H locs ls S1 u5 hG hl e_S1 e_u5 => ?_)
          subst e_S1
          subst e_u5
          have hm : vp_in ((rg_M_again_85_S1 (rg_M_again_85_S1 (rg_M_again_85_S1 S x0 3 (S.1 32 0 ((f_M_placeOf S x0).toNatClampNeg)) 0) x0 3 (S.1 32 0 ((f_M_placeOf S x0).toNatClampNeg)) 1) x0 3 (S.1 32 0 ((f_M_placeOf S x0).toNatClampNeg)) 2).1 21 0 14) 25 := z_cma hm
          refine lv_iinc (k := 6) (v := 3) (lv' := [(6, .int 3), (0, .ref (ad 21 0)), (1, .int x0), (2, .int (f_M_placeOf S x0)), (3, .int 3), (4, .int (S.1 32 0 ((f_M_placeOf S x0).toNatClampNeg))), (5, .int (rg_M_again_85_u5 (S.1 32 0 ((f_M_placeOf S x0).toNatClampNeg)) (rg_M_again_85_u5 (S.1 32 0 ((f_M_placeOf S x0).toNatClampNeg)) (rg_M_again_85_u5 (S.1 32 0 ((f_M_placeOf S x0).toNatClampNeg)) 0 0) 1) 2))]) hx hb d_M_again_107 hl rfl (by decide) (Nat.le_of_ble_eq_true rfl) rfl (fun ls hl => ?_)
          refine lv_goto (tgt := 79) hx hb d_M_again_110 rfl ?_
          refine lv_iload hx hb d_M_again_79 (lv_at hl 0 rfl) ?_
          refine lv_iconst (v := 3) hx hb d_M_again_81 z_k3 ?_
          refine lv_icmp_ge (tgt := 113) hx hb d_M_again_82 rfl (fun _ => ?_) (fun h => absurd h (by decide))
          refine lv_iload hx hb d_M_again_113 (lv_at hl 6 rfl) ?_
          exact z_iret hF hr hlk hG (Eq.symm ((if_neg h2).trans ((if_pos h10).trans ((if_pos h22).trans ((if_pos h36).trans rfl))))) (Eq.symm ((if_neg h2).trans ((if_pos h10).trans ((if_pos h22).trans ((if_pos h36).trans rfl))))) d_M_again_115
      ·
        refine lv_bipush (v := (-2)) hx hb d_M_again_25 z_bim2 ?_
        exact z_iret hF hr hlk hG (Eq.symm ((if_neg h2).trans ((if_pos h10).trans ((if_neg h22).trans rfl)))) (Eq.symm ((if_neg h2).trans ((if_pos h10).trans ((if_neg h22).trans rfl)))) d_M_again_27
    ·
      refine lv_iconst (v := (-1)) hx hb d_M_again_13 z_km1 ?_
      exact z_iret hF hr hlk hG (Eq.symm ((if_neg h2).trans ((if_neg h10).trans rfl))) (Eq.symm ((if_neg h2).trans ((if_neg h10).trans rfl))) d_M_again_14
def rg_M_count_4i_u2 (S : z_S) (v1 : Int32) (v2 : Int32) (k : Nat) : Int32 := (if (f_M_sizeOf S ((nI k) / 8) ((nI k) - (nI k) / 8 * 8)) ≤ 0 then (v2 + 0) else (if v1 = 0 then (v2 + 1) else (if (S.1 40 0 k) = 0 then (v2 + 0) else (v2 + 1))))
set_option maxHeartbeats 4000000 in
set_option maxRecDepth 100000 in
theorem rg_M_count_4i {D : va_G} {C : Nat → ClassId} {ad : Nat → Nat → Nat} {S : z_S} {p : Program} {l : Launch} {e : Env} {s : State} {m : MethodId} {args : Array Value} {below : List Frame} {meth : Method} {c : Code} {H H0 : Heap} {locs : List Loc} {Q : State → Prop} {ls : Array Slot} {v1 : Int32} {v2 : Int32} {k : Nat}  (hF : z_F D C ad p m c b_M_count 4 s args R_M)  (hk : k < 48) (hG : z_G D C ad H0 S H locs) (hl : lv_has ls 4 [(0, .ref (ad 21 0)), (1, .int v1), (2, .int v2), (3, .int (nI k))]) (kk : ∀ (H : Heap) (locs : List Loc) (ls : Array Slot) (u2 : Int32), z_G D C ad H0 S H locs → lv_has ls 4 [(0, .ref (ad 21 0)), (1, .int v1), (2, .int u2), (3, .int (nI (k + 1)))] → rg_M_count_4i_u2 S v1 v2 k = u2 → W p l e rm_M_count s m args below meth c H locs 0 0 Q (F0 m 4 ls [])) : W p l e rm_M_count s m args below meth c H locs 0 0 Q (F0 m 4 ls []) := by
  obtain ⟨hx, hb, hml, hown, hts⟩ := hF.1
  refine lv_iload_n hx hb d_M_count_4 rfl (lv_at hl 3 rfl) ?_
  refine lv_bipush (v := 48) hx hb d_M_count_5 z_bi48 ?_
  refine lv_icmp_ge (tgt := 52) hx hb d_M_count_7 rfl (fun h => absurd h (nI_ge (b := 48) hk (by decide))) (fun _ => ?_)
  refine lv_iload_n hx hb d_M_count_10 rfl (lv_at hl 2 rfl) ?_
  refine lv_aload_n hx hb d_M_count_11 rfl (lv_at hl 0 rfl) ?_
  refine lv_iload_n hx hb d_M_count_12 rfl (lv_at hl 3 rfl) ?_
  refine lv_bipush (v := 8) hx hb d_M_count_13 z_bi8 ?_
  refine lv_idiv hx hb d_M_count_15 (by decide) ?_
  refine lv_iload_n hx hb d_M_count_16 rfl (lv_at hl 3 rfl) ?_
  refine lv_bipush (v := 8) hx hb d_M_count_17 z_bi8 ?_
  refine lv_irem hx hb d_M_count_19 (by decide) ?_
  refine kc_M_90 hF (c_M_sizeOf l D C ad hF.2.2 _ _ _ ) hG ⟨Nat.le_of_ble_eq_true rfl, Nat.le_of_ble_eq_true rfl⟩ ⟨Nat.zero_le _, Nat.zero_le _⟩ hl.1 (Nat.le_of_ble_eq_true rfl) d_M_count_20 (fun H locs hG => ?_)
  refine lv_if_le (tgt := 43) hx hb d_M_count_23 rfl (fun h23 => ?_) (fun h23 => ?_)
  ·
    refine lv_iconst (v := 0) hx hb d_M_count_43 z_k0 ?_
    refine lv_iadd hx hb d_M_count_44 ?_
    refine lv_istore_n (lv' := [(2, .int (v2 + 0)), (0, .ref (ad 21 0)), (1, .int v1), (3, .int (nI k))]) hx hb d_M_count_45 rfl hl (Nat.le_of_ble_eq_true rfl) rfl (fun ls hl => ?_)
    refine lv_iinc (k := 3) (v := (nI (k + 1))) (lv' := [(3, .int (nI (k + 1))), (2, .int (v2 + 0)), (0, .ref (ad 21 0)), (1, .int v1)]) hx hb d_M_count_46 hl rfl (z_incN _) (Nat.le_of_ble_eq_true rfl) rfl (fun ls hl => ?_)
    refine lv_goto (tgt := 4) hx hb d_M_count_49 rfl ?_
    exact kk _ _ _ _ hG (lv_sub hl [2, 3, 1, 0] rfl) ((if_pos h23).trans rfl)
  ·
    refine lv_iload_n hx hb d_M_count_26 rfl (lv_at hl 1 rfl) ?_
    refine lv_if_eq (tgt := 39) hx hb d_M_count_27 rfl (fun h27 => ?_) (fun h27 => ?_)
    ·
      refine lv_iconst (v := 1) hx hb d_M_count_39 z_k1 ?_
      refine lv_goto (tgt := 44) hx hb d_M_count_40 rfl ?_
      refine lv_iadd hx hb d_M_count_44 ?_
      refine lv_istore_n (lv' := [(2, .int (v2 + 1)), (0, .ref (ad 21 0)), (1, .int v1), (3, .int (nI k))]) hx hb d_M_count_45 rfl hl (Nat.le_of_ble_eq_true rfl) rfl (fun ls hl => ?_)
      refine lv_iinc (k := 3) (v := (nI (k + 1))) (lv' := [(3, .int (nI (k + 1))), (2, .int (v2 + 1)), (0, .ref (ad 21 0)), (1, .int v1)]) hx hb d_M_count_46 hl rfl (z_incN _) (Nat.le_of_ble_eq_true rfl) rfl (fun ls hl => ?_)
      refine lv_goto (tgt := 4) hx hb d_M_count_49 rfl ?_
      exact kk _ _ _ _ hG (lv_sub hl [2, 3, 1, 0] rfl) ((if_neg h23).trans ((if_pos h27).trans rfl))
    ·
      refine lv_aload_n hx hb d_M_count_30 rfl (lv_at hl 0 rfl) ?_
      refine gf_M_70_21 hF hG d_M_count_31 ?_
      refine lv_iload_n hx hb d_M_count_34 rfl (lv_at hl 3 rfl) ?_
      refine z_zald (n := 48) (j := k) (v := (S.1 40 0 k)) hF hG z_o40 (z_c40 C ad _ _ _) (nI_clamp (by omega)) (vp_in_nI (by omega) (by decide)) rfl d_M_count_35 ?_
      refine lv_if_eq (tgt := 43) hx hb d_M_count_36 rfl (fun h36 => ?_) (fun h36 => ?_)
      ·
        refine lv_iconst (v := 0) hx hb d_M_count_43 z_k0 ?_
        refine lv_iadd hx hb d_M_count_44 ?_
        refine lv_istore_n (lv' := [(2, .int (v2 + 0)), (0, .ref (ad 21 0)), (1, .int v1), (3, .int (nI k))]) hx hb d_M_count_45 rfl hl (Nat.le_of_ble_eq_true rfl) rfl (fun ls hl => ?_)
        refine lv_iinc (k := 3) (v := (nI (k + 1))) (lv' := [(3, .int (nI (k + 1))), (2, .int (v2 + 0)), (0, .ref (ad 21 0)), (1, .int v1)]) hx hb d_M_count_46 hl rfl (z_incN _) (Nat.le_of_ble_eq_true rfl) rfl (fun ls hl => ?_)
        refine lv_goto (tgt := 4) hx hb d_M_count_49 rfl ?_
        exact kk _ _ _ _ hG (lv_sub hl [2, 3, 1, 0] rfl) ((if_neg h23).trans ((if_neg h27).trans ((if_pos h36).trans rfl)))
      ·
        refine lv_iconst (v := 1) hx hb d_M_count_39 z_k1 ?_
        refine lv_goto (tgt := 44) hx hb d_M_count_40 rfl ?_
        refine lv_iadd hx hb d_M_count_44 ?_
        refine lv_istore_n (lv' := [(2, .int (v2 + 1)), (0, .ref (ad 21 0)), (1, .int v1), (3, .int (nI k))]) hx hb d_M_count_45 rfl hl (Nat.le_of_ble_eq_true rfl) rfl (fun ls hl => ?_)
        refine lv_iinc (k := 3) (v := (nI (k + 1))) (lv' := [(3, .int (nI (k + 1))), (2, .int (v2 + 1)), (0, .ref (ad 21 0)), (1, .int v1)]) hx hb d_M_count_46 hl rfl (z_incN _) (Nat.le_of_ble_eq_true rfl) rfl (fun ls hl => ?_)
        refine lv_goto (tgt := 4) hx hb d_M_count_49 rfl ?_
        exact kk _ _ _ _ hG (lv_sub hl [2, 3, 1, 0] rfl) ((if_neg h23).trans ((if_neg h27).trans ((if_neg h36).trans rfl)))
set_option maxHeartbeats 4000000 in
set_option maxRecDepth 100000 in
theorem rg_M_count_4e {D : va_G} {C : Nat → ClassId} {ad : Nat → Nat → Nat} {S : z_S} {p : Program} {l : Launch} {e : Env} {s : State} {m : MethodId} {args : Array Value} {below : List Frame} {meth : Method} {c : Code} {H H0 : Heap} {locs : List Loc} {Q : State → Prop} {ls : Array Slot} {v1 : Int32} {v2 : Int32} {k : Nat}  (hF : z_F D C ad p m c b_M_count 4 s args R_M)  (hk : k = 48) (hG : z_G D C ad H0 S H locs) (hl : lv_has ls 4 [(0, .ref (ad 21 0)), (1, .int v1), (2, .int v2), (3, .int (nI k))]) (kk : ∀ (H : Heap) (locs : List Loc) (ls : Array Slot) , z_G D C ad H0 S H locs → lv_has ls 4 [(0, .ref (ad 21 0)), (1, .int v1), (2, .int v2), (3, .int (nI k))] → W p l e rm_M_count s m args below meth c H locs 0 0 Q (F0 m 52 ls [])) : W p l e rm_M_count s m args below meth c H locs 0 0 Q (F0 m 4 ls []) := by
  obtain ⟨hx, hb, hml, hown, hts⟩ := hF.1
  refine lv_iload_n hx hb d_M_count_4 rfl (lv_at hl 3 rfl) ?_
  refine lv_bipush (v := 48) hx hb d_M_count_5 z_bi48 ?_
  refine lv_icmp_ge (tgt := 52) hx hb d_M_count_7 rfl (fun _ => ?_) (fun h => absurd h (by rw [hk]; decide))
  exact kk _ _ _  hG (lv_sub hl [0, 1, 2, 3] rfl) 
set_option maxHeartbeats 4000000 in
set_option maxRecDepth 100000 in
theorem lp_M_count_4 {D : va_G} {C : Nat → ClassId} {ad : Nat → Nat → Nat} {S : z_S} {p : Program} {l : Launch} {e : Env} {s : State} {m : MethodId} {args : Array Value} {below : List Frame} {meth : Method} {c : Code} {H0 : Heap} {Q : State → Prop} {v1 : Int32}  (hF : z_F D C ad p m c b_M_count 4 s args R_M)   : ∀ (n k : Nat) (v2 : Int32) (H : Heap) (locs : List Loc) (ls : Array Slot), k + n = 48 → z_G D C ad H0 S H locs → lv_has ls 4 [(0, .ref (ad 21 0)), (1, .int v1), (2, .int v2), (3, .int (nI k))] → (∀ (H : Heap) (locs : List Loc) (ls : Array Slot), z_G D C ad H0 S H locs → lv_has ls 4 [(0, .ref (ad 21 0)), (1, .int v1), (2, .int (z_it (fun (k : Nat) (v2 : Int32) => rg_M_count_4i_u2 S v1 v2 k) k n v2)), (3, .int (nI 48))] → W p l e rm_M_count s m args below meth c H locs 0 0 Q (F0 m 52 ls [])) → W p l e rm_M_count s m args below meth c H locs 0 0 Q (F0 m 4 ls []) := by
  intro n
  induction n with
  | zero =>
    intro k v2 H locs ls hk hG hl kk
    have hk : k = 48 := by omega
    refine rg_M_count_4e hF   hk hG hl (fun H locs ls hG hl => ?_)
    subst hk
    exact kk H locs ls hG hl
  | succ n ih =>
    intro k v2 H locs ls hk hG hl kk
    refine rg_M_count_4i hF   (by omega) hG hl (fun H locs ls u2 hG hl e1 => ?_)
    subst e1
    exact ih (k + 1) (rg_M_count_4i_u2 S v1 v2 k) H locs ls (by omega) hG hl kk
def f_M_count (S : z_S) (x0 : Int32) : Int32 := (z_it (fun (kk9 : Nat) (T9 : Int32) => rg_M_count_4i_u2 S x0 T9 kk9) 0 48 0)
set_option maxHeartbeats 4000000 in
set_option maxRecDepth 100000 in
theorem c_M_count (l : Launch) (D : va_G) (C : Nat → ClassId) (ad : Nat → Nat → Nat) (hJ : z_J ad) (S : z_S) (x0 : Int32)  : z_M l y_M_count b_M_count 4 (some .int) rm_M_count D C ad [.ref (ad 21 0), .int x0] S (z_Qi D C ad (f_M_count S x0) S) := by
  refine z_enter (by decide) (Nat.le_of_ble_eq_true rfl) hJ ?_
  intro p e s m below meth c ls hF hr hlk hl hG
  obtain ⟨hx, hb, hml, hown, hts⟩ := hF.1
  have hl : lv_has ls 4 [(0, .ref (ad 21 0)), (1, .int x0)] := hl
  refine lv_iconst (v := 0) hx hb d_M_count_0 z_k0 ?_
  refine lv_istore_n (lv' := [(2, .int 0), (0, .ref (ad 21 0)), (1, .int x0)]) hx hb d_M_count_1 rfl hl (Nat.le_of_ble_eq_true rfl) rfl (fun ls hl => ?_)
  refine lv_iconst (v := 0) hx hb d_M_count_2 z_k0 ?_
  refine lv_istore_n (lv' := [(3, .int 0), (2, .int 0), (0, .ref (ad 21 0)), (1, .int x0)]) hx hb d_M_count_3 rfl hl (Nat.le_of_ble_eq_true rfl) rfl (fun ls hl => ?_)
  have hl : lv_has ls 4 [(0, .ref (ad 21 0)), (1, .int x0), (2, .int 0), (3, .int (nI 0))] := by
    have h9 := lv_sub hl [2, 3, 1, 0] rfl
    rw [nI_0]; exact h9
  refine lp_M_count_4  hF   48 0 0 _ _ ls rfl hG hl (fun H locs ls hG hl => ?_)
  refine lv_iload_n hx hb d_M_count_52 rfl (lv_at hl 2 rfl) ?_
  exact z_iret hF hr hlk hG rfl rfl d_M_count_53
def rg_M_end_24_t0 (v2 : Int32) : Int32 := (if v2 = 3 then 1 else 0)
set_option maxHeartbeats 4000000 in
set_option maxRecDepth 100000 in
theorem rg_M_end_24 {D : va_G} {C : Nat → ClassId} {ad : Nat → Nat → Nat} {S : z_S} {p : Program} {l : Launch} {e : Env} {s : State} {m : MethodId} {args : Array Value} {below : List Frame} {meth : Method} {c : Code} {H H0 : Heap} {locs : List Loc} {Q : State → Prop} {ls : Array Slot} {v1 : Int32} {v2 : Int32} {s0 : Int32}  (hF : z_F D C ad p m c b_M_end 4 s args R_M)   (hG : z_G D C ad H0 S H locs) (hl : lv_has ls 4 [(0, .ref (ad 21 0)), (1, .int v1), (2, .int v2)]) (kk : ∀ (H : Heap) (locs : List Loc) (ls : Array Slot) (t0 : Int32), z_G D C ad H0 S H locs → lv_has ls 4 [(0, .ref (ad 21 0)), (1, .int v1), (2, .int v2)] → rg_M_end_24_t0 v2 = t0 → W p l e rm_M_end s m args below meth c H locs 0 0 Q (F0 m 34 ls [.int t0, .int s0, .ref (ad 21 0)])) : W p l e rm_M_end s m args below meth c H locs 0 0 Q (F0 m 24 ls [.int s0, .ref (ad 21 0)]) := by
  obtain ⟨hx, hb, hml, hown, hts⟩ := hF.1
  refine lv_iload_n hx hb d_M_end_24 rfl (lv_at hl 2 rfl) ?_
  refine lv_iconst (v := 3) hx hb d_M_end_25 z_k3 ?_
  refine lv_icmp_ne (tgt := 33) hx hb d_M_end_26 rfl (fun h26 => ?_) (fun h26 => ?_)
  ·
    refine lv_iconst (v := 0) hx hb d_M_end_33 z_k0 ?_
    exact kk _ _ _ _ hG (lv_sub hl [0, 1, 2] rfl) ((if_neg h26).trans rfl)
  ·
    refine lv_iconst (v := 1) hx hb d_M_end_29 z_k1 ?_
    refine lv_goto (tgt := 34) hx hb d_M_end_30 rfl ?_
    exact kk _ _ _ _ hG (lv_sub hl [0, 1, 2] rfl) ((if_pos h26).trans rfl)
def rg_M_end_105i_S1 (S : z_S) (k : Nat) : z_S := (z_sI S 40 0 k 0)
set_option maxHeartbeats 4000000 in
set_option maxRecDepth 100000 in
theorem rg_M_end_105i {D : va_G} {C : Nat → ClassId} {ad : Nat → Nat → Nat} {S : z_S} {p : Program} {l : Launch} {e : Env} {s : State} {m : MethodId} {args : Array Value} {below : List Frame} {meth : Method} {c : Code} {H H0 : Heap} {locs : List Loc} {Q : State → Prop} {ls : Array Slot} {v1 : Int32} {v2 : Int32} {k : Nat}  (hF : z_F D C ad p m c b_M_end 4 s args R_M)  (hk : k < 48) (hG : z_G D C ad H0 S H locs) (hl : lv_has ls 4 [(0, .ref (ad 21 0)), (1, .int v1), (2, .int v2), (3, .int (nI k))]) (kk : ∀ (H : Heap) (locs : List Loc) (ls : Array Slot) (S1 : z_S), z_G D C ad H0 S1 H locs → lv_has ls 4 [(0, .ref (ad 21 0)), (1, .int v1), (2, .int v2), (3, .int (nI (k + 1)))] → rg_M_end_105i_S1 S k = S1 → W p l e rm_M_end s m args below meth c H locs 0 0 Q (F0 m 105 ls [])) : W p l e rm_M_end s m args below meth c H locs 0 0 Q (F0 m 105 ls []) := by
  obtain ⟨hx, hb, hml, hown, hts⟩ := hF.1
  refine lv_iload_n hx hb d_M_end_105 rfl (lv_at hl 3 rfl) ?_
  refine lv_bipush (v := 48) hx hb d_M_end_106 z_bi48 ?_
  refine lv_icmp_ge (tgt := 124) hx hb d_M_end_108 rfl (fun h => absurd h (nI_ge (b := 48) hk (by decide))) (fun _ => ?_)
  refine lv_aload_n hx hb d_M_end_111 rfl (lv_at hl 0 rfl) ?_
  refine gf_M_70_21 hF hG d_M_end_112 ?_
  refine lv_iload_n hx hb d_M_end_115 rfl (lv_at hl 3 rfl) ?_
  refine lv_iconst (v := 0) hx hb d_M_end_116 z_k0 ?_
  refine z_zast (n := 48) (j := k) hF hG z_o40 (fun f g => z_c40 C ad f g _) (nI_clamp (by omega)) (vp_in_nI (by omega) (by decide)) rfl d_M_end_117 (fun H locs hG => ?_)
  refine lv_iinc (k := 3) (v := (nI (k + 1))) (lv' := [(3, .int (nI (k + 1))), (0, .ref (ad 21 0)), (1, .int v1), (2, .int v2)]) hx hb d_M_end_118 hl rfl (z_incN _) (Nat.le_of_ble_eq_true rfl) rfl (fun ls hl => ?_)
  refine lv_goto (tgt := 105) hx hb d_M_end_121 rfl ?_
  exact kk _ _ _ _ hG (lv_sub hl [1, 2, 3, 0] rfl) rfl
set_option maxHeartbeats 4000000 in
set_option maxRecDepth 100000 in
theorem rg_M_end_105e {D : va_G} {C : Nat → ClassId} {ad : Nat → Nat → Nat} {S : z_S} {p : Program} {l : Launch} {e : Env} {s : State} {m : MethodId} {args : Array Value} {below : List Frame} {meth : Method} {c : Code} {H H0 : Heap} {locs : List Loc} {Q : State → Prop} {ls : Array Slot} {v1 : Int32} {v2 : Int32} {k : Nat}  (hF : z_F D C ad p m c b_M_end 4 s args R_M)  (hk : k = 48) (hG : z_G D C ad H0 S H locs) (hl : lv_has ls 4 [(0, .ref (ad 21 0)), (1, .int v1), (2, .int v2), (3, .int (nI k))]) (kk : ∀ (H : Heap) (locs : List Loc) (ls : Array Slot) , z_G D C ad H0 S H locs → lv_has ls 4 [(0, .ref (ad 21 0)), (1, .int v1), (2, .int v2), (3, .int (nI k))] → W p l e rm_M_end s m args below meth c H locs 0 0 Q (F0 m 124 ls [])) : W p l e rm_M_end s m args below meth c H locs 0 0 Q (F0 m 105 ls []) := by
  obtain ⟨hx, hb, hml, hown, hts⟩ := hF.1
  refine lv_iload_n hx hb d_M_end_105 rfl (lv_at hl 3 rfl) ?_
  refine lv_bipush (v := 48) hx hb d_M_end_106 z_bi48 ?_
  refine lv_icmp_ge (tgt := 124) hx hb d_M_end_108 rfl (fun _ => ?_) (fun h => absurd h (by rw [hk]; decide))
  exact kk _ _ _  hG (lv_sub hl [0, 1, 2, 3] rfl) 
set_option maxHeartbeats 4000000 in
set_option maxRecDepth 100000 in
theorem lp_M_end_105 {D : va_G} {C : Nat → ClassId} {ad : Nat → Nat → Nat} {p : Program} {l : Launch} {e : Env} {s : State} {m : MethodId} {args : Array Value} {below : List Frame} {meth : Method} {c : Code} {H0 : Heap} {Q : State → Prop} {v1 : Int32} {v2 : Int32}  (hF : z_F D C ad p m c b_M_end 4 s args R_M)   : ∀ (n k : Nat) (S : z_S) (H : Heap) (locs : List Loc) (ls : Array Slot), k + n = 48 → z_G D C ad H0 S H locs → lv_has ls 4 [(0, .ref (ad 21 0)), (1, .int v1), (2, .int v2), (3, .int (nI k))] → (∀ (H : Heap) (locs : List Loc) (ls : Array Slot), z_G D C ad H0 (z_it (fun (k : Nat) (S : z_S) => rg_M_end_105i_S1 S k) k n S) H locs → lv_has ls 4 [(0, .ref (ad 21 0)), (1, .int v1), (2, .int v2), (3, .int (nI 48))] → W p l e rm_M_end s m args below meth c H locs 0 0 Q (F0 m 124 ls [])) → W p l e rm_M_end s m args below meth c H locs 0 0 Q (F0 m 105 ls []) := by
  intro n
  induction n with
  | zero =>
    intro k S H locs ls hk hG hl kk
    have hk : k = 48 := by omega
    refine rg_M_end_105e hF   hk hG hl (fun H locs ls hG hl => ?_)
    subst hk
    exact kk H locs ls hG hl
  | succ n ih =>
    intro k S H locs ls hk hG hl kk
    refine rg_M_end_105i hF   (by omega) hG hl (fun H locs ls S1 hG hl e1 => ?_)
    subst e1
    exact ih (k + 1) (rg_M_end_105i_S1 S k) H locs ls (by omega) hG hl kk
def g_M_end (S : z_S) (x0 : Int32) (x1 : Int32) : z_S := (if 2 < x1 then (z_sI (z_sI (z_sI S 25 0 ((S.1 26 0 x0.toNatClampNeg).toNatClampNeg) x1) 26 0 x0.toNatClampNeg 0) 21 0 23 ((S.1 21 0 23) + (rg_M_end_24_t0 x1))) else (if (S.1 30 0 x0.toNatClampNeg) = (S.1 21 0 20) then (if (f_M_count (z_sI (z_sI (z_sI (z_sI S 25 0 ((S.1 26 0 x0.toNatClampNeg).toNatClampNeg) x1) 26 0 x0.toNatClampNeg 0) 21 0 23 ((S.1 21 0 23) + (rg_M_end_24_t0 x1))) 40 0 (((8 * (S.1 27 0 x0.toNatClampNeg)) + (S.1 28 0 x0.toNatClampNeg)).toNatClampNeg) 1) 0) ≤ (f_M_count (z_sI (z_sI (z_sI (z_sI S 25 0 ((S.1 26 0 x0.toNatClampNeg).toNatClampNeg) x1) 26 0 x0.toNatClampNeg 0) 21 0 23 ((S.1 21 0 23) + (rg_M_end_24_t0 x1))) 40 0 (((8 * (S.1 27 0 x0.toNatClampNeg)) + (S.1 28 0 x0.toNatClampNeg)).toNatClampNeg) 1) 1) then (z_it (fun (kk9 : Nat) (T9 : z_S) => rg_M_end_105i_S1 T9 kk9) 0 48 (z_sI (z_sI (z_sI (z_sI (z_sI S 25 0 ((S.1 26 0 x0.toNatClampNeg).toNatClampNeg) x1) 26 0 x0.toNatClampNeg 0) 21 0 23 ((S.1 21 0 23) + (rg_M_end_24_t0 x1))) 40 0 (((8 * (S.1 27 0 x0.toNatClampNeg)) + (S.1 28 0 x0.toNatClampNeg)).toNatClampNeg) 1) 21 0 20 ((S.1 21 0 20) + 1))) else (z_sI (z_sI (z_sI (z_sI S 25 0 ((S.1 26 0 x0.toNatClampNeg).toNatClampNeg) x1) 26 0 x0.toNatClampNeg 0) 21 0 23 ((S.1 21 0 23) + (rg_M_end_24_t0 x1))) 40 0 (((8 * (S.1 27 0 x0.toNatClampNeg)) + (S.1 28 0 x0.toNatClampNeg)).toNatClampNeg) 1)) else (z_sI (z_sI (z_sI S 25 0 ((S.1 26 0 x0.toNatClampNeg).toNatClampNeg) x1) 26 0 x0.toNatClampNeg 0) 21 0 23 ((S.1 21 0 23) + (rg_M_end_24_t0 x1)))))
set_option maxHeartbeats 4000000 in
set_option maxRecDepth 100000 in
theorem c_M_end (l : Launch) (D : va_G) (C : Nat → ClassId) (ad : Nat → Nat → Nat) (hJ : z_J ad) (S : z_S) (x0 : Int32) (x1 : Int32) (hom : z_Om S) (hp : vp_in x0 6) : z_M l y_M_end b_M_end 4 none rm_M_end D C ad [.ref (ad 21 0), .int x0, .int x1] S (z_Qv D C ad (g_M_end S x0 x1)) := by
  refine z_enter (by decide) (Nat.le_of_ble_eq_true rfl) hJ ?_
  intro p e s m below meth c ls hF hr hlk hl hG
  obtain ⟨hx, hb, hml, hown, hts⟩ := hF.1
  have hl : lv_has ls 4 [(0, .ref (ad 21 0)), (1, .int x0), (2, .int x1)] := hl
  refine lv_aload_n hx hb d_M_end_0 rfl (lv_at hl 0 rfl) ?_
  refine gf_M_20_21 hF hG d_M_end_1 ?_
  refine lv_aload_n hx hb d_M_end_4 rfl (lv_at hl 0 rfl) ?_
  refine gf_M_23_21 hF hG d_M_end_5 ?_
  refine lv_iload_n hx hb d_M_end_8 rfl (lv_at hl 1 rfl) ?_
  refine z_iald (n := 6) (j := x0.toNatClampNeg) (v := (S.1 26 0 x0.toNatClampNeg)) hF hG z_o26 (z_c26 C ad _ _ _) rfl hp rfl d_M_end_9 ?_
  refine lv_iload_n hx hb d_M_end_10 rfl (lv_at hl 2 rfl) ?_
  refine z_iast (n := 600) (j := (S.1 26 0 x0.toNatClampNeg).toNatClampNeg) hF hG z_o25 (fun f g => z_c25 C ad f g _) rfl (z_onu hom hp) d_M_end_11 (fun H locs hG => ?_)
  refine lv_aload_n hx hb d_M_end_12 rfl (lv_at hl 0 rfl) ?_
  refine gf_M_23_21 hF hG d_M_end_13 ?_
  refine lv_iload_n hx hb d_M_end_16 rfl (lv_at hl 1 rfl) ?_
  refine lv_iconst (v := 0) hx hb d_M_end_17 z_k0 ?_
  refine z_iast (n := 6) (j := x0.toNatClampNeg) hF hG z_o26 (fun f g => z_c26 C ad f g _) rfl hp d_M_end_18 (fun H locs hG => ?_)
  refine lv_aload_n hx hb d_M_end_19 rfl (lv_at hl 0 rfl) ?_
  refine lv_dup hx hb d_M_end_20 rfl ?_
  refine gf_M_122_21 hF hG (v := (S.1 21 0 23)) rfl d_M_end_21 ?_
  refine rg_M_end_24 hF   hG (lv_sub hl [0, 1, 2] rfl) (fun H locs ls t0 hG hl e_t0 => ?_)
  subst e_t0
  refine lv_iadd hx hb d_M_end_34 ?_
  refine pf_M_122_21 hF hG d_M_end_35 (fun H locs hG => ?_)
  refine lv_iload_n hx hb d_M_end_38 rfl (lv_at hl 2 rfl) ?_
  refine lv_iconst (v := 2) hx hb d_M_end_39 z_k2 ?_
  refine lv_icmp_gt (tgt := 56) hx hb d_M_end_40 rfl (fun h40 => ?_) (fun h40 => ?_)
  ·
    exact z_vret hF hr hlk hG (Eq.symm ((if_pos h40).trans rfl)) d_M_end_56
  ·
    refine lv_aload_n hx hb d_M_end_43 rfl (lv_at hl 0 rfl) ?_
    refine gf_M_36_21 hF hG d_M_end_44 ?_
    refine lv_iload_n hx hb d_M_end_47 rfl (lv_at hl 1 rfl) ?_
    refine z_iald (n := 6) (j := x0.toNatClampNeg) (v := (S.1 30 0 x0.toNatClampNeg)) hF hG z_o30 (z_c30 C ad _ _ _) rfl hp rfl d_M_end_48 ?_
    refine lv_aload_n hx hb d_M_end_49 rfl (lv_at hl 0 rfl) ?_
    refine gf_M_66_21 hF hG (v := (S.1 21 0 20)) rfl d_M_end_50 ?_
    refine lv_icmp_eq (tgt := 57) hx hb d_M_end_53 rfl (fun h53 => ?_) (fun h53 => ?_)
    ·
      refine lv_aload_n hx hb d_M_end_57 rfl (lv_at hl 0 rfl) ?_
      refine gf_M_70_21 hF hG d_M_end_58 ?_
      refine lv_bipush (v := 8) hx hb d_M_end_61 z_bi8 ?_
      refine lv_aload_n hx hb d_M_end_63 rfl (lv_at hl 0 rfl) ?_
      refine gf_M_26_21 hF hG d_M_end_64 ?_
      refine lv_iload_n hx hb d_M_end_67 rfl (lv_at hl 1 rfl) ?_
      refine z_iald (n := 6) (j := x0.toNatClampNeg) (v := (S.1 27 0 x0.toNatClampNeg)) hF hG z_o27 (z_c27 C ad _ _ _) rfl hp rfl d_M_end_68 ?_
      refine lv_imul hx hb d_M_end_69 ?_
      refine lv_aload_n hx hb d_M_end_70 rfl (lv_at hl 0 rfl) ?_
      refine gf_M_29_21 hF hG d_M_end_71 ?_
      refine lv_iload_n hx hb d_M_end_74 rfl (lv_at hl 1 rfl) ?_
      refine z_iald (n := 6) (j := x0.toNatClampNeg) (v := (S.1 28 0 x0.toNatClampNeg)) hF hG z_o28 (z_c28 C ad _ _ _) rfl hp rfl d_M_end_75 ?_
      refine lv_iadd hx hb d_M_end_76 ?_
      refine lv_iconst (v := 1) hx hb d_M_end_77 z_k1 ?_
      refine z_zast (n := 48) (j := ((8 * (S.1 27 0 x0.toNatClampNeg)) + (S.1 28 0 x0.toNatClampNeg)).toNatClampNeg) hF hG z_o40 (fun f g => z_c40 C ad f g _) rfl (z_odp hom hp) rfl d_M_end_78 (fun H locs hG => ?_)
      refine lv_aload_n hx hb d_M_end_79 rfl (lv_at hl 0 rfl) ?_
      refine lv_iconst (v := 1) hx hb d_M_end_80 z_k1 ?_
      refine kc_M_125 hF (c_M_count l D C ad hF.2.2 _ _ ) hG ⟨Nat.le_of_ble_eq_true rfl, Nat.le_of_ble_eq_true rfl⟩ ⟨Nat.zero_le _, Nat.zero_le _⟩ hl.1 (Nat.le_of_ble_eq_true rfl) d_M_end_81 (fun H locs hG => ?_)
      refine lv_aload_n hx hb d_M_end_84 rfl (lv_at hl 0 rfl) ?_
      refine lv_iconst (v := 0) hx hb d_M_end_85 z_k0 ?_
      refine kc_M_125 hF (c_M_count l D C ad hF.2.2 _ _ ) hG ⟨Nat.le_of_ble_eq_true rfl, Nat.le_of_ble_eq_true rfl⟩ ⟨Nat.zero_le _, Nat.zero_le _⟩ hl.1 (Nat.le_of_ble_eq_true rfl) d_M_end_86 (fun H locs hG => ?_)
      refine lv_icmp_ge (tgt := 93) hx hb d_M_end_89 rfl (fun h89 => ?_) (fun h89 => ?_)
      ·
        refine lv_aload_n hx hb d_M_end_93 rfl (lv_at hl 0 rfl) ?_
        refine lv_dup hx hb d_M_end_94 rfl ?_
        refine gf_M_66_21 hF hG (v := (S.1 21 0 20)) rfl d_M_end_95 ?_
        refine lv_iconst (v := 1) hx hb d_M_end_98 z_k1 ?_
        refine lv_iadd hx hb d_M_end_99 ?_
        refine pf_M_66_21 hF hG d_M_end_100 (fun H locs hG => ?_)
        refine lv_iconst (v := 0) hx hb d_M_end_103 z_k0 ?_
        refine lv_istore_n (lv' := [(3, .int 0), (0, .ref (ad 21 0)), (1, .int x0), (2, .int x1)]) hx hb d_M_end_104 rfl hl (Nat.le_of_ble_eq_true rfl) rfl (fun ls hl => ?_)
        have hl : lv_has ls 4 [(0, .ref (ad 21 0)), (1, .int x0), (2, .int x1), (3, .int (nI 0))] := by
          have h9 := lv_sub hl [1, 2, 3, 0] rfl
          rw [nI_0]; exact h9
        refine lp_M_end_105  hF   48 0 (z_sI (z_sI (z_sI (z_sI (z_sI S 25 0 ((S.1 26 0 x0.toNatClampNeg).toNatClampNeg) x1) 26 0 x0.toNatClampNeg 0) 21 0 23 ((S.1 21 0 23) + (rg_M_end_24_t0 x1))) 40 0 (((8 * (S.1 27 0 x0.toNatClampNeg)) + (S.1 28 0 x0.toNatClampNeg)).toNatClampNeg) 1) 21 0 20 ((S.1 21 0 20) + 1)) _ _ ls rfl hG hl (fun H locs ls hG hl => ?_)
        exact z_vret hF hr hlk hG (Eq.symm ((if_neg h40).trans ((if_pos h53).trans ((if_pos h89).trans rfl)))) d_M_end_124
      ·
        exact z_vret hF hr hlk hG (Eq.symm ((if_neg h40).trans ((if_pos h53).trans ((if_neg h89).trans rfl)))) d_M_end_92
    ·
      exact z_vret hF hr hlk hG (Eq.symm ((if_neg h40).trans ((if_neg h53).trans rfl))) d_M_end_56
def g_M_takeSum (S : z_S) (x0 : Int32) (x1 : Int32) (x2 : Int64) : z_S := (if (((S.1 31 0 x0.toNatClampNeg) >>> (x1 &&& 31)) &&& 1) = 1 then S else (if 7 ≤ ((z_sI S 31 0 x0.toNatClampNeg ((S.1 31 0 x0.toNatClampNeg) ||| ((1 : Int32) <<< (x1 &&& 31)))).1 31 0 x0.toNatClampNeg) then (if (lg_cmp ((z_sL (z_sI S 31 0 x0.toNatClampNeg ((S.1 31 0 x0.toNatClampNeg) ||| ((1 : Int32) <<< (x1 &&& 31)))) 33 0 (((3 * x0) + x1).toNatClampNeg) x2).2 33 0 ((3 * x0).toNatClampNeg)) ((z_sL (z_sI S 31 0 x0.toNatClampNeg ((S.1 31 0 x0.toNatClampNeg) ||| ((1 : Int32) <<< (x1 &&& 31)))) 33 0 (((3 * x0) + x1).toNatClampNeg) x2).2 33 0 (((3 * x0) + 1).toNatClampNeg))) = 0 then (if (lg_cmp ((z_sL (z_sI S 31 0 x0.toNatClampNeg ((S.1 31 0 x0.toNatClampNeg) ||| ((1 : Int32) <<< (x1 &&& 31)))) 33 0 (((3 * x0) + x1).toNatClampNeg) x2).2 33 0 ((3 * x0).toNatClampNeg)) ((z_sL (z_sI S 31 0 x0.toNatClampNeg ((S.1 31 0 x0.toNatClampNeg) ||| ((1 : Int32) <<< (x1 &&& 31)))) 33 0 (((3 * x0) + x1).toNatClampNeg) x2).2 33 0 (((3 * x0) + 2).toNatClampNeg))) = 0 then (g_M_end (z_sL (z_sI S 31 0 x0.toNatClampNeg ((S.1 31 0 x0.toNatClampNeg) ||| ((1 : Int32) <<< (x1 &&& 31)))) 33 0 (((3 * x0) + x1).toNatClampNeg) x2) x0 1) else (g_M_come (g_M_come (g_M_come (z_sL (z_sI S 31 0 x0.toNatClampNeg ((S.1 31 0 x0.toNatClampNeg) ||| ((1 : Int32) <<< (x1 &&& 31)))) 33 0 (((3 * x0) + x1).toNatClampNeg) x2) 3 (S.1 26 0 x0.toNatClampNeg) 0) 3 ((g_M_come (z_sL (z_sI S 31 0 x0.toNatClampNeg ((S.1 31 0 x0.toNatClampNeg) ||| ((1 : Int32) <<< (x1 &&& 31)))) 33 0 (((3 * x0) + x1).toNatClampNeg) x2) 3 (S.1 26 0 x0.toNatClampNeg) 0).1 26 0 x0.toNatClampNeg) 1) 3 ((g_M_come (g_M_come (z_sL (z_sI S 31 0 x0.toNatClampNeg ((S.1 31 0 x0.toNatClampNeg) ||| ((1 : Int32) <<< (x1 &&& 31)))) 33 0 (((3 * x0) + x1).toNatClampNeg) x2) 3 (S.1 26 0 x0.toNatClampNeg) 0) 3 ((g_M_come (z_sL (z_sI S 31 0 x0.toNatClampNeg ((S.1 31 0 x0.toNatClampNeg) ||| ((1 : Int32) <<< (x1 &&& 31)))) 33 0 (((3 * x0) + x1).toNatClampNeg) x2) 3 (S.1 26 0 x0.toNatClampNeg) 0).1 26 0 x0.toNatClampNeg) 1).1 26 0 x0.toNatClampNeg) 2)) else (g_M_come (g_M_come (g_M_come (z_sL (z_sI S 31 0 x0.toNatClampNeg ((S.1 31 0 x0.toNatClampNeg) ||| ((1 : Int32) <<< (x1 &&& 31)))) 33 0 (((3 * x0) + x1).toNatClampNeg) x2) 3 (S.1 26 0 x0.toNatClampNeg) 0) 3 ((g_M_come (z_sL (z_sI S 31 0 x0.toNatClampNeg ((S.1 31 0 x0.toNatClampNeg) ||| ((1 : Int32) <<< (x1 &&& 31)))) 33 0 (((3 * x0) + x1).toNatClampNeg) x2) 3 (S.1 26 0 x0.toNatClampNeg) 0).1 26 0 x0.toNatClampNeg) 1) 3 ((g_M_come (g_M_come (z_sL (z_sI S 31 0 x0.toNatClampNeg ((S.1 31 0 x0.toNatClampNeg) ||| ((1 : Int32) <<< (x1 &&& 31)))) 33 0 (((3 * x0) + x1).toNatClampNeg) x2) 3 (S.1 26 0 x0.toNatClampNeg) 0) 3 ((g_M_come (z_sL (z_sI S 31 0 x0.toNatClampNeg ((S.1 31 0 x0.toNatClampNeg) ||| ((1 : Int32) <<< (x1 &&& 31)))) 33 0 (((3 * x0) + x1).toNatClampNeg) x2) 3 (S.1 26 0 x0.toNatClampNeg) 0).1 26 0 x0.toNatClampNeg) 1).1 26 0 x0.toNatClampNeg) 2)) else (z_sL (z_sI S 31 0 x0.toNatClampNeg ((S.1 31 0 x0.toNatClampNeg) ||| ((1 : Int32) <<< (x1 &&& 31)))) 33 0 (((3 * x0) + x1).toNatClampNeg) x2)))
set_option maxHeartbeats 4000000 in
set_option maxRecDepth 100000 in
theorem c_M_takeSum (l : Launch) (D : va_G) (C : Nat → ClassId) (ad : Nat → Nat → Nat) (hJ : z_J ad) (S : z_S) (x0 : Int32) (x1 : Int32) (x2 : Int64) (hom : z_Om S) (hp : vp_in x0 6) (hh : vp_in x1 3) : z_M l y_M_takeSum b_M_takeSum 6 none rm_M_takeSum D C ad [.ref (ad 21 0), .int x0, .int x1, .long x2] S (z_Qv D C ad (g_M_takeSum S x0 x1 x2)) := by
  refine z_enter (by decide) (Nat.le_of_ble_eq_true rfl) hJ ?_
  intro p e s m below meth c ls hF hr hlk hl hG
  obtain ⟨hx, hb, hml, hown, hts⟩ := hF.1
  have hl : lv_has ls 6 [(0, .ref (ad 21 0)), (1, .int x0), (2, .int x1), (3, .long x2)] := hl
  refine lv_aload_n hx hb d_M_takeSum_0 rfl (lv_at hl 0 rfl) ?_
  refine gf_M_39_21 hF hG d_M_takeSum_1 ?_
  refine lv_iload_n hx hb d_M_takeSum_4 rfl (lv_at hl 1 rfl) ?_
  refine z_iald (n := 6) (j := x0.toNatClampNeg) (v := (S.1 31 0 x0.toNatClampNeg)) hF hG z_o31 (z_c31 C ad _ _ _) rfl hp rfl d_M_takeSum_5 ?_
  refine lv_iload_n hx hb d_M_takeSum_6 rfl (lv_at hl 2 rfl) ?_
  refine lv_ishr hx hb d_M_takeSum_7 ?_
  refine lv_iconst (v := 1) hx hb d_M_takeSum_8 z_k1 ?_
  refine lv_iand hx hb d_M_takeSum_9 ?_
  refine lv_iconst (v := 1) hx hb d_M_takeSum_10 z_k1 ?_
  refine lv_icmp_ne (tgt := 15) hx hb d_M_takeSum_11 rfl (fun h11 => ?_) (fun h11 => ?_)
  ·
    refine lv_aload_n hx hb d_M_takeSum_15 rfl (lv_at hl 0 rfl) ?_
    refine gf_M_39_21 hF hG d_M_takeSum_16 ?_
    refine lv_iload_n hx hb d_M_takeSum_19 rfl (lv_at hl 1 rfl) ?_
    refine lv_dup2_11 hx hb d_M_takeSum_20 rfl rfl ?_
    refine z_iald (n := 6) (j := x0.toNatClampNeg) (v := (S.1 31 0 x0.toNatClampNeg)) hF hG z_o31 (z_c31 C ad _ _ _) rfl hp rfl d_M_takeSum_21 ?_
    refine lv_iconst (v := 1) hx hb d_M_takeSum_22 z_k1 ?_
    refine lv_iload_n hx hb d_M_takeSum_23 rfl (lv_at hl 2 rfl) ?_
    refine lv_ishl hx hb d_M_takeSum_24 ?_
    refine lv_ior hx hb d_M_takeSum_25 ?_
    refine z_iast (n := 6) (j := x0.toNatClampNeg) hF hG z_o31 (fun f g => z_c31 C ad f g _) rfl hp d_M_takeSum_26 (fun H locs hG => ?_)
    refine lv_aload_n hx hb d_M_takeSum_27 rfl (lv_at hl 0 rfl) ?_
    refine gf_M_45_21 hF hG d_M_takeSum_28 ?_
    refine lv_iconst (v := 3) hx hb d_M_takeSum_31 z_k3 ?_
    refine lv_iload_n hx hb d_M_takeSum_32 rfl (lv_at hl 1 rfl) ?_
    refine lv_imul hx hb d_M_takeSum_33 ?_
    refine lv_iload_n hx hb d_M_takeSum_34 rfl (lv_at hl 2 rfl) ?_
    refine lv_iadd hx hb d_M_takeSum_35 ?_
    refine lv_lload_n hx hb d_M_takeSum_36 rfl (lv_at hl 3 rfl) ?_
    refine z_last (n := 18) (j := ((3 * x0) + x1).toNatClampNeg) hF hG z_o33 (fun f g => z_c33 C ad f g _) rfl (z_s3a hp hh) d_M_takeSum_37 (fun H locs hG => ?_)
    refine lv_aload_n hx hb d_M_takeSum_38 rfl (lv_at hl 0 rfl) ?_
    refine gf_M_39_21 hF hG d_M_takeSum_39 ?_
    refine lv_iload_n hx hb d_M_takeSum_42 rfl (lv_at hl 1 rfl) ?_
    refine z_iald (n := 6) (j := x0.toNatClampNeg) (v := ((z_sI S 31 0 x0.toNatClampNeg ((S.1 31 0 x0.toNatClampNeg) ||| ((1 : Int32) <<< (x1 &&& 31)))).1 31 0 x0.toNatClampNeg)) hF hG z_o31 (z_c31 C ad _ _ _) rfl hp rfl d_M_takeSum_43 ?_
    refine lv_bipush (v := 7) hx hb d_M_takeSum_44 z_bi7 ?_
    refine lv_icmp_ge (tgt := 50) hx hb d_M_takeSum_46 rfl (fun h46 => ?_) (fun h46 => ?_)
    ·
      refine lv_aload_n hx hb d_M_takeSum_50 rfl (lv_at hl 0 rfl) ?_
      refine gf_M_45_21 hF hG d_M_takeSum_51 ?_
      refine lv_iconst (v := 3) hx hb d_M_takeSum_54 z_k3 ?_
      refine lv_iload_n hx hb d_M_takeSum_55 rfl (lv_at hl 1 rfl) ?_
      refine lv_imul hx hb d_M_takeSum_56 ?_
      refine z_lald (n := 18) (j := (3 * x0).toNatClampNeg) (v := ((z_sL (z_sI S 31 0 x0.toNatClampNeg ((S.1 31 0 x0.toNatClampNeg) ||| ((1 : Int32) <<< (x1 &&& 31)))) 33 0 (((3 * x0) + x1).toNatClampNeg) x2).2 33 0 ((3 * x0).toNatClampNeg))) hF hG z_o33 (z_c33 C ad _ _ _) rfl (z_s30 hp) rfl d_M_takeSum_57 ?_
      refine lv_aload_n hx hb d_M_takeSum_58 rfl (lv_at hl 0 rfl) ?_
      refine gf_M_45_21 hF hG d_M_takeSum_59 ?_
      refine lv_iconst (v := 3) hx hb d_M_takeSum_62 z_k3 ?_
      refine lv_iload_n hx hb d_M_takeSum_63 rfl (lv_at hl 1 rfl) ?_
      refine lv_imul hx hb d_M_takeSum_64 ?_
      refine lv_iconst (v := 1) hx hb d_M_takeSum_65 z_k1 ?_
      refine lv_iadd hx hb d_M_takeSum_66 ?_
      refine z_lald (n := 18) (j := ((3 * x0) + 1).toNatClampNeg) (v := ((z_sL (z_sI S 31 0 x0.toNatClampNeg ((S.1 31 0 x0.toNatClampNeg) ||| ((1 : Int32) <<< (x1 &&& 31)))) 33 0 (((3 * x0) + x1).toNatClampNeg) x2).2 33 0 (((3 * x0) + 1).toNatClampNeg))) hF hG z_o33 (z_c33 C ad _ _ _) rfl (z_s31 hp) rfl d_M_takeSum_67 ?_
      refine W.lcmp hx hb d_M_takeSum_68 ?_
      refine lv_if_ne (tgt := 103) hx hb d_M_takeSum_69 rfl (fun h69 => ?_) (fun h69 => ?_)
      ·
        have hm := z_mmy hom
        refine lv_iconst (v := 0) hx hb d_M_takeSum_103 z_k0 ?_
        refine lv_istore (lv' := [(5, .int 0), (0, .ref (ad 21 0)), (1, .int x0), (2, .int x1), (3, .long x2)]) hx hb d_M_takeSum_104 hl (Nat.le_of_ble_eq_true rfl) rfl (fun ls hl => ?_)
        refine lv_iload hx hb d_M_takeSum_106 (lv_at hl 0 rfl) ?_
        refine lv_iconst (v := 3) hx hb d_M_takeSum_108 z_k3 ?_
        refine lv_icmp_ge (tgt := 132) hx hb d_M_takeSum_109 rfl (fun h => absurd h (by decide)) (fun _ => ?_)
        refine lv_aload_n hx hb d_M_takeSum_112 rfl (lv_at hl 1 rfl) ?_
        refine lv_iconst (v := 3) hx hb d_M_takeSum_113 z_k3 ?_
        refine lv_aload_n hx hb d_M_takeSum_114 rfl (lv_at hl 1 rfl) ?_
        refine gf_M_23_21 hF hG d_M_takeSum_115 ?_
        refine lv_iload_n hx hb d_M_takeSum_118 rfl (lv_at hl 2 rfl) ?_
        refine z_iald (n := 6) (j := x0.toNatClampNeg) (v := (S.1 26 0 x0.toNatClampNeg)) hF hG z_o26 (z_c26 C ad _ _ _) rfl hp rfl d_M_takeSum_119 ?_
        refine lv_iload hx hb d_M_takeSum_120 (lv_at hl 0 rfl) ?_
        refine kc_M_115 hF (c_M_come l D C ad hF.2.2 (z_sL (z_sI S 31 0 x0.toNatClampNeg ((S.1 31 0 x0.toNatClampNeg) ||| ((1 : Int32) <<< (x1 &&& 31)))) 33 0 (((3 * x0) + x1).toNatClampNeg) x2) _ _ _ hm) hG ⟨Nat.le_of_ble_eq_true rfl, Nat.le_of_ble_eq_true rfl⟩ ⟨Nat.zero_le _, Nat.zero_le _⟩ hl.1 (Nat.le_of_ble_eq_true rfl) d_M_takeSum_122 (fun H locs hG => ?_)
        have hm : vp_in ((g_M_come (z_sL (z_sI S 31 0 x0.toNatClampNeg ((S.1 31 0 x0.toNatClampNeg) ||| ((1 : Int32) <<< (x1 &&& 31)))) 33 0 (((3 * x0) + x1).toNatClampNeg) x2) 3 (S.1 26 0 x0.toNatClampNeg) 0).1 21 0 14) 25 := z_cme hm
        refine lv_pop hx hb d_M_takeSum_125 rfl ?_
        refine lv_iinc (k := 0) (v := 1) (lv' := [(5, .int 1), (0, .ref (ad 21 0)), (1, .int x0), (2, .int x1), (3, .long x2)]) hx hb d_M_takeSum_126 hl rfl (by decide) (Nat.le_of_ble_eq_true rfl) rfl (fun ls hl => ?_)
        refine lv_goto (tgt := 106) hx hb d_M_takeSum_129 rfl ?_
        refine lv_iload hx hb d_M_takeSum_106 (lv_at hl 0 rfl) ?_
        refine lv_iconst (v := 3) hx hb d_M_takeSum_108 z_k3 ?_
        refine lv_icmp_ge (tgt := 132) hx hb d_M_takeSum_109 rfl (fun h => absurd h (by decide)) (fun _ => ?_)
        refine lv_aload_n hx hb d_M_takeSum_112 rfl (lv_at hl 1 rfl) ?_
        refine lv_iconst (v := 3) hx hb d_M_takeSum_113 z_k3 ?_
        refine lv_aload_n hx hb d_M_takeSum_114 rfl (lv_at hl 1 rfl) ?_
        refine gf_M_23_21 hF hG d_M_takeSum_115 ?_
        refine lv_iload_n hx hb d_M_takeSum_118 rfl (lv_at hl 2 rfl) ?_
        refine z_iald (n := 6) (j := x0.toNatClampNeg) (v := ((g_M_come (z_sL (z_sI S 31 0 x0.toNatClampNeg ((S.1 31 0 x0.toNatClampNeg) ||| ((1 : Int32) <<< (x1 &&& 31)))) 33 0 (((3 * x0) + x1).toNatClampNeg) x2) 3 (S.1 26 0 x0.toNatClampNeg) 0).1 26 0 x0.toNatClampNeg)) hF hG z_o26 (z_c26 C ad _ _ _) rfl hp rfl d_M_takeSum_119 ?_
        refine lv_iload hx hb d_M_takeSum_120 (lv_at hl 0 rfl) ?_
        refine kc_M_115 hF (c_M_come l D C ad hF.2.2 (g_M_come (z_sL (z_sI S 31 0 x0.toNatClampNeg ((S.1 31 0 x0.toNatClampNeg) ||| ((1 : Int32) <<< (x1 &&& 31)))) 33 0 (((3 * x0) + x1).toNatClampNeg) x2) 3 (S.1 26 0 x0.toNatClampNeg) 0) _ _ _ hm) hG ⟨Nat.le_of_ble_eq_true rfl, Nat.le_of_ble_eq_true rfl⟩ ⟨Nat.zero_le _, Nat.zero_le _⟩ hl.1 (Nat.le_of_ble_eq_true rfl) d_M_takeSum_122 (fun H locs hG => ?_)
        have hm : vp_in ((g_M_come (g_M_come (z_sL (z_sI S 31 0 x0.toNatClampNeg ((S.1 31 0 x0.toNatClampNeg) ||| ((1 : Int32) <<< (x1 &&& 31)))) 33 0 (((3 * x0) + x1).toNatClampNeg) x2) 3 (S.1 26 0 x0.toNatClampNeg) 0) 3 ((g_M_come (z_sL (z_sI S 31 0 x0.toNatClampNeg ((S.1 31 0 x0.toNatClampNeg) ||| ((1 : Int32) <<< (x1 &&& 31)))) 33 0 (((3 * x0) + x1).toNatClampNeg) x2) 3 (S.1 26 0 x0.toNatClampNeg) 0).1 26 0 x0.toNatClampNeg) 1).1 21 0 14) 25 := z_cme hm
        refine lv_pop hx hb d_M_takeSum_125 rfl ?_
        refine lv_iinc (k := 0) (v := 2) (lv' := [(5, .int 2), (0, .ref (ad 21 0)), (1, .int x0), (2, .int x1), (3, .long x2)]) hx hb d_M_takeSum_126 hl rfl (by decide) (Nat.le_of_ble_eq_true rfl) rfl (fun ls hl => ?_)
        refine lv_goto (tgt := 106) hx hb d_M_takeSum_129 rfl ?_
        refine lv_iload hx hb d_M_takeSum_106 (lv_at hl 0 rfl) ?_
        refine lv_iconst (v := 3) hx hb d_M_takeSum_108 z_k3 ?_
        refine lv_icmp_ge (tgt := 132) hx hb d_M_takeSum_109 rfl (fun h => absurd h (by decide)) (fun _ => ?_)
        refine lv_aload_n hx hb d_M_takeSum_112 rfl (lv_at hl 1 rfl) ?_
        refine lv_iconst (v := 3) hx hb d_M_takeSum_113 z_k3 ?_
        refine lv_aload_n hx hb d_M_takeSum_114 rfl (lv_at hl 1 rfl) ?_
        refine gf_M_23_21 hF hG d_M_takeSum_115 ?_
        refine lv_iload_n hx hb d_M_takeSum_118 rfl (lv_at hl 2 rfl) ?_
        refine z_iald (n := 6) (j := x0.toNatClampNeg) (v := ((g_M_come (g_M_come (z_sL (z_sI S 31 0 x0.toNatClampNeg ((S.1 31 0 x0.toNatClampNeg) ||| ((1 : Int32) <<< (x1 &&& 31)))) 33 0 (((3 * x0) + x1).toNatClampNeg) x2) 3 (S.1 26 0 x0.toNatClampNeg) 0) 3 ((g_M_come (z_sL (z_sI S 31 0 x0.toNatClampNeg ((S.1 31 0 x0.toNatClampNeg) ||| ((1 : Int32) <<< (x1 &&& 31)))) 33 0 (((3 * x0) + x1).toNatClampNeg) x2) 3 (S.1 26 0 x0.toNatClampNeg) 0).1 26 0 x0.toNatClampNeg) 1).1 26 0 x0.toNatClampNeg)) hF hG z_o26 (z_c26 C ad _ _ _) rfl hp rfl d_M_takeSum_119 ?_
        refine lv_iload hx hb d_M_takeSum_120 (lv_at hl 0 rfl) ?_
        refine kc_M_115 hF (c_M_come l D C ad hF.2.2 (g_M_come (g_M_come (z_sL (z_sI S 31 0 x0.toNatClampNeg ((S.1 31 0 x0.toNatClampNeg) ||| ((1 : Int32) <<< (x1 &&& 31)))) 33 0 (((3 * x0) + x1).toNatClampNeg) x2) 3 (S.1 26 0 x0.toNatClampNeg) 0) 3 ((g_M_come (z_sL (z_sI S 31 0 x0.toNatClampNeg ((S.1 31 0 x0.toNatClampNeg) ||| ((1 : Int32) <<< (x1 &&& 31)))) 33 0 (((3 * x0) + x1).toNatClampNeg) x2) 3 (S.1 26 0 x0.toNatClampNeg) 0).1 26 0 x0.toNatClampNeg) 1) _ _ _ hm) hG ⟨Nat.le_of_ble_eq_true rfl, Nat.le_of_ble_eq_true rfl⟩ ⟨Nat.zero_le _, Nat.zero_le _⟩ hl.1 (Nat.le_of_ble_eq_true rfl) d_M_takeSum_122 (fun H locs hG => ?_)
        have hm : vp_in ((g_M_come (g_M_come (g_M_come (z_sL (z_sI S 31 0 x0.toNatClampNeg ((S.1 31 0 x0.toNatClampNeg) ||| ((1 : Int32) <<< (x1 &&& 31)))) 33 0 (((3 * x0) + x1).toNatClampNeg) x2) 3 (S.1 26 0 x0.toNatClampNeg) 0) 3 ((g_M_come (z_sL (z_sI S 31 0 x0.toNatClampNeg ((S.1 31 0 x0.toNatClampNeg) ||| ((1 : Int32) <<< (x1 &&& 31)))) 33 0 (((3 * x0) + x1).toNatClampNeg) x2) 3 (S.1 26 0 x0.toNatClampNeg) 0).1 26 0 x0.toNatClampNeg) 1) 3 ((g_M_come (g_M_come (z_sL (z_sI S 31 0 x0.toNatClampNeg ((S.1 31 0 x0.toNatClampNeg) ||| ((1 : Int32) <<< (x1 &&& 31)))) 33 0 (((3 * x0) + x1).toNatClampNeg) x2) 3 (S.1 26 0 x0.toNatClampNeg) 0) 3 ((g_M_come (z_sL (z_sI S 31 0 x0.toNatClampNeg ((S.1 31 0 x0.toNatClampNeg) ||| ((1 : Int32) <<< (x1 &&& 31)))) 33 0 (((3 * x0) + x1).toNatClampNeg) x2) 3 (S.1 26 0 x0.toNatClampNeg) 0).1 26 0 x0.toNatClampNeg) 1).1 26 0 x0.toNatClampNeg) 2).1 21 0 14) 25 := z_cme hm
        refine lv_pop hx hb d_M_takeSum_125 rfl ?_
        refine lv_iinc (k := 0) (v := 3) (lv' := [(5, .int 3), (0, .ref (ad 21 0)), (1, .int x0), (2, .int x1), (3, .long x2)]) hx hb d_M_takeSum_126 hl rfl (by decide) (Nat.le_of_ble_eq_true rfl) rfl (fun ls hl => ?_)
        refine lv_goto (tgt := 106) hx hb d_M_takeSum_129 rfl ?_
        refine lv_iload hx hb d_M_takeSum_106 (lv_at hl 0 rfl) ?_
        refine lv_iconst (v := 3) hx hb d_M_takeSum_108 z_k3 ?_
        refine lv_icmp_ge (tgt := 132) hx hb d_M_takeSum_109 rfl (fun _ => ?_) (fun h => absurd h (by decide))
        exact z_vret hF hr hlk hG (Eq.symm ((if_neg h11).trans ((if_pos h46).trans ((if_neg h69).trans rfl)))) d_M_takeSum_132
      ·
        refine lv_aload_n hx hb d_M_takeSum_72 rfl (lv_at hl 0 rfl) ?_
        refine gf_M_45_21 hF hG d_M_takeSum_73 ?_
        refine lv_iconst (v := 3) hx hb d_M_takeSum_76 z_k3 ?_
        refine lv_iload_n hx hb d_M_takeSum_77 rfl (lv_at hl 1 rfl) ?_
        refine lv_imul hx hb d_M_takeSum_78 ?_
        refine z_lald (n := 18) (j := (3 * x0).toNatClampNeg) (v := ((z_sL (z_sI S 31 0 x0.toNatClampNeg ((S.1 31 0 x0.toNatClampNeg) ||| ((1 : Int32) <<< (x1 &&& 31)))) 33 0 (((3 * x0) + x1).toNatClampNeg) x2).2 33 0 ((3 * x0).toNatClampNeg))) hF hG z_o33 (z_c33 C ad _ _ _) rfl (z_s30 hp) rfl d_M_takeSum_79 ?_
        refine lv_aload_n hx hb d_M_takeSum_80 rfl (lv_at hl 0 rfl) ?_
        refine gf_M_45_21 hF hG d_M_takeSum_81 ?_
        refine lv_iconst (v := 3) hx hb d_M_takeSum_84 z_k3 ?_
        refine lv_iload_n hx hb d_M_takeSum_85 rfl (lv_at hl 1 rfl) ?_
        refine lv_imul hx hb d_M_takeSum_86 ?_
        refine lv_iconst (v := 2) hx hb d_M_takeSum_87 z_k2 ?_
        refine lv_iadd hx hb d_M_takeSum_88 ?_
        refine z_lald (n := 18) (j := ((3 * x0) + 2).toNatClampNeg) (v := ((z_sL (z_sI S 31 0 x0.toNatClampNeg ((S.1 31 0 x0.toNatClampNeg) ||| ((1 : Int32) <<< (x1 &&& 31)))) 33 0 (((3 * x0) + x1).toNatClampNeg) x2).2 33 0 (((3 * x0) + 2).toNatClampNeg))) hF hG z_o33 (z_c33 C ad _ _ _) rfl (z_s32 hp) rfl d_M_takeSum_89 ?_
        refine W.lcmp hx hb d_M_takeSum_90 ?_
        refine lv_if_ne (tgt := 103) hx hb d_M_takeSum_91 rfl (fun h91 => ?_) (fun h91 => ?_)
        ·
          have hm := z_mmy hom
          refine lv_iconst (v := 0) hx hb d_M_takeSum_103 z_k0 ?_
          refine lv_istore (lv' := [(5, .int 0), (0, .ref (ad 21 0)), (1, .int x0), (2, .int x1), (3, .long x2)]) hx hb d_M_takeSum_104 hl (Nat.le_of_ble_eq_true rfl) rfl (fun ls hl => ?_)
          refine lv_iload hx hb d_M_takeSum_106 (lv_at hl 0 rfl) ?_
          refine lv_iconst (v := 3) hx hb d_M_takeSum_108 z_k3 ?_
          refine lv_icmp_ge (tgt := 132) hx hb d_M_takeSum_109 rfl (fun h => absurd h (by decide)) (fun _ => ?_)
          refine lv_aload_n hx hb d_M_takeSum_112 rfl (lv_at hl 1 rfl) ?_
          refine lv_iconst (v := 3) hx hb d_M_takeSum_113 z_k3 ?_
          refine lv_aload_n hx hb d_M_takeSum_114 rfl (lv_at hl 1 rfl) ?_
          refine gf_M_23_21 hF hG d_M_takeSum_115 ?_
          refine lv_iload_n hx hb d_M_takeSum_118 rfl (lv_at hl 2 rfl) ?_
          refine z_iald (n := 6) (j := x0.toNatClampNeg) (v := (S.1 26 0 x0.toNatClampNeg)) hF hG z_o26 (z_c26 C ad _ _ _) rfl hp rfl d_M_takeSum_119 ?_
          refine lv_iload hx hb d_M_takeSum_120 (lv_at hl 0 rfl) ?_
          refine kc_M_115 hF (c_M_come l D C ad hF.2.2 (z_sL (z_sI S 31 0 x0.toNatClampNeg ((S.1 31 0 x0.toNatClampNeg) ||| ((1 : Int32) <<< (x1 &&& 31)))) 33 0 (((3 * x0) + x1).toNatClampNeg) x2) _ _ _ hm) hG ⟨Nat.le_of_ble_eq_true rfl, Nat.le_of_ble_eq_true rfl⟩ ⟨Nat.zero_le _, Nat.zero_le _⟩ hl.1 (Nat.le_of_ble_eq_true rfl) d_M_takeSum_122 (fun H locs hG => ?_)
          have hm : vp_in ((g_M_come (z_sL (z_sI S 31 0 x0.toNatClampNeg ((S.1 31 0 x0.toNatClampNeg) ||| ((1 : Int32) <<< (x1 &&& 31)))) 33 0 (((3 * x0) + x1).toNatClampNeg) x2) 3 (S.1 26 0 x0.toNatClampNeg) 0).1 21 0 14) 25 := z_cme hm
          refine lv_pop hx hb d_M_takeSum_125 rfl ?_
          refine lv_iinc (k := 0) (v := 1) (lv' := [(5, .int 1), (0, .ref (ad 21 0)), (1, .int x0), (2, .int x1), (3, .long x2)]) hx hb d_M_takeSum_126 hl rfl (by decide) (Nat.le_of_ble_eq_true rfl) rfl (fun ls hl => ?_)
          refine lv_goto (tgt := 106) hx hb d_M_takeSum_129 rfl ?_
          refine lv_iload hx hb d_M_takeSum_106 (lv_at hl 0 rfl) ?_
          refine lv_iconst (v := 3) hx hb d_M_takeSum_108 z_k3 ?_
          refine lv_icmp_ge (tgt := 132) hx hb d_M_takeSum_109 rfl (fun h => absurd h (by decide)) (fun _ => ?_)
          refine lv_aload_n hx hb d_M_takeSum_112 rfl (lv_at hl 1 rfl) ?_
          refine lv_iconst (v := 3) hx hb d_M_takeSum_113 z_k3 ?_
          refine lv_aload_n hx hb d_M_takeSum_114 rfl (lv_at hl 1 rfl) ?_
          refine gf_M_23_21 hF hG d_M_takeSum_115 ?_
          refine lv_iload_n hx hb d_M_takeSum_118 rfl (lv_at hl 2 rfl) ?_
          refine z_iald (n := 6) (j := x0.toNatClampNeg) (v := ((g_M_come (z_sL (z_sI S 31 0 x0.toNatClampNeg ((S.1 31 0 x0.toNatClampNeg) ||| ((1 : Int32) <<< (x1 &&& 31)))) 33 0 (((3 * x0) + x1).toNatClampNeg) x2) 3 (S.1 26 0 x0.toNatClampNeg) 0).1 26 0 x0.toNatClampNeg)) hF hG z_o26 (z_c26 C ad _ _ _) rfl hp rfl d_M_takeSum_119 ?_
          refine lv_iload hx hb d_M_takeSum_120 (lv_at hl 0 rfl) ?_
          refine kc_M_115 hF (c_M_come l D C ad hF.2.2 (g_M_come (z_sL (z_sI S 31 0 x0.toNatClampNeg ((S.1 31 0 x0.toNatClampNeg) ||| ((1 : Int32) <<< (x1 &&& 31)))) 33 0 (((3 * x0) + x1).toNatClampNeg) x2) 3 (S.1 26 0 x0.toNatClampNeg) 0) _ _ _ hm) hG ⟨Nat.le_of_ble_eq_true rfl, Nat.le_of_ble_eq_true rfl⟩ ⟨Nat.zero_le _, Nat.zero_le _⟩ hl.1 (Nat.le_of_ble_eq_true rfl) d_M_takeSum_122 (fun H locs hG => ?_)
          have hm : vp_in ((g_M_come (g_M_come (z_sL (z_sI S 31 0 x0.toNatClampNeg ((S.1 31 0 x0.toNatClampNeg) ||| ((1 : Int32) <<< (x1 &&& 31)))) 33 0 (((3 * x0) + x1).toNatClampNeg) x2) 3 (S.1 26 0 x0.toNatClampNeg) 0) 3 ((g_M_come (z_sL (z_sI S 31 0 x0.toNatClampNeg ((S.1 31 0 x0.toNatClampNeg) ||| ((1 : Int32) <<< (x1 &&& 31)))) 33 0 (((3 * x0) + x1).toNatClampNeg) x2) 3 (S.1 26 0 x0.toNatClampNeg) 0).1 26 0 x0.toNatClampNeg) 1).1 21 0 14) 25 := z_cme hm
          refine lv_pop hx hb d_M_takeSum_125 rfl ?_
          refine lv_iinc (k := 0) (v := 2) (lv' := [(5, .int 2), (0, .ref (ad 21 0)), (1, .int x0), (2, .int x1), (3, .long x2)]) hx hb d_M_takeSum_126 hl rfl (by decide) (Nat.le_of_ble_eq_true rfl) rfl (fun ls hl => ?_)
          refine lv_goto (tgt := 106) hx hb d_M_takeSum_129 rfl ?_
          refine lv_iload hx hb d_M_takeSum_106 (lv_at hl 0 rfl) ?_
          refine lv_iconst (v := 3) hx hb d_M_takeSum_108 z_k3 ?_
          refine lv_icmp_ge (tgt := 132) hx hb d_M_takeSum_109 rfl (fun h => absurd h (by decide)) (fun _ => ?_)
          refine lv_aload_n hx hb d_M_takeSum_112 rfl (lv_at hl 1 rfl) ?_
          refine lv_iconst (v := 3) hx hb d_M_takeSum_113 z_k3 ?_
          refine lv_aload_n hx hb d_M_takeSum_114 rfl (lv_at hl 1 rfl) ?_
          refine gf_M_23_21 hF hG d_M_takeSum_115 ?_
          refine lv_iload_n hx hb d_M_takeSum_118 rfl (lv_at hl 2 rfl) ?_
          refine z_iald (n := 6) (j := x0.toNatClampNeg) (v := ((g_M_come (g_M_come (z_sL (z_sI S 31 0 x0.toNatClampNeg ((S.1 31 0 x0.toNatClampNeg) ||| ((1 : Int32) <<< (x1 &&& 31)))) 33 0 (((3 * x0) + x1).toNatClampNeg) x2) 3 (S.1 26 0 x0.toNatClampNeg) 0) 3 ((g_M_come (z_sL (z_sI S 31 0 x0.toNatClampNeg ((S.1 31 0 x0.toNatClampNeg) ||| ((1 : Int32) <<< (x1 &&& 31)))) 33 0 (((3 * x0) + x1).toNatClampNeg) x2) 3 (S.1 26 0 x0.toNatClampNeg) 0).1 26 0 x0.toNatClampNeg) 1).1 26 0 x0.toNatClampNeg)) hF hG z_o26 (z_c26 C ad _ _ _) rfl hp rfl d_M_takeSum_119 ?_
          refine lv_iload hx hb d_M_takeSum_120 (lv_at hl 0 rfl) ?_
          refine kc_M_115 hF (c_M_come l D C ad hF.2.2 (g_M_come (g_M_come (z_sL (z_sI S 31 0 x0.toNatClampNeg ((S.1 31 0 x0.toNatClampNeg) ||| ((1 : Int32) <<< (x1 &&& 31)))) 33 0 (((3 * x0) + x1).toNatClampNeg) x2) 3 (S.1 26 0 x0.toNatClampNeg) 0) 3 ((g_M_come (z_sL (z_sI S 31 0 x0.toNatClampNeg ((S.1 31 0 x0.toNatClampNeg) ||| ((1 : Int32) <<< (x1 &&& 31)))) 33 0 (((3 * x0) + x1).toNatClampNeg) x2) 3 (S.1 26 0 x0.toNatClampNeg) 0).1 26 0 x0.toNatClampNeg) 1) _ _ _ hm) hG ⟨Nat.le_of_ble_eq_true rfl, Nat.le_of_ble_eq_true rfl⟩ ⟨Nat.zero_le _, Nat.zero_le _⟩ hl.1 (Nat.le_of_ble_eq_true rfl) d_M_takeSum_122 (fun H locs hG => ?_)
          have hm : vp_in ((g_M_come (g_M_come (g_M_come (z_sL (z_sI S 31 0 x0.toNatClampNeg ((S.1 31 0 x0.toNatClampNeg) ||| ((1 : Int32) <<< (x1 &&& 31)))) 33 0 (((3 * x0) + x1).toNatClampNeg) x2) 3 (S.1 26 0 x0.toNatClampNeg) 0) 3 ((g_M_come (z_sL (z_sI S 31 0 x0.toNatClampNeg ((S.1 31 0 x0.toNatClampNeg) ||| ((1 : Int32) <<< (x1 &&& 31)))) 33 0 (((3 * x0) + x1).toNatClampNeg) x2) 3 (S.1 26 0 x0.toNatClampNeg) 0).1 26 0 x0.toNatClampNeg) 1) 3 ((g_M_come (g_M_come (z_sL (z_sI S 31 0 x0.toNatClampNeg ((S.1 31 0 x0.toNatClampNeg) ||| ((1 : Int32) <<< (x1 &&& 31)))) 33 0 (((3 * x0) + x1).toNatClampNeg) x2) 3 (S.1 26 0 x0.toNatClampNeg) 0) 3 ((g_M_come (z_sL (z_sI S 31 0 x0.toNatClampNeg ((S.1 31 0 x0.toNatClampNeg) ||| ((1 : Int32) <<< (x1 &&& 31)))) 33 0 (((3 * x0) + x1).toNatClampNeg) x2) 3 (S.1 26 0 x0.toNatClampNeg) 0).1 26 0 x0.toNatClampNeg) 1).1 26 0 x0.toNatClampNeg) 2).1 21 0 14) 25 := z_cme hm
          refine lv_pop hx hb d_M_takeSum_125 rfl ?_
          refine lv_iinc (k := 0) (v := 3) (lv' := [(5, .int 3), (0, .ref (ad 21 0)), (1, .int x0), (2, .int x1), (3, .long x2)]) hx hb d_M_takeSum_126 hl rfl (by decide) (Nat.le_of_ble_eq_true rfl) rfl (fun ls hl => ?_)
          refine lv_goto (tgt := 106) hx hb d_M_takeSum_129 rfl ?_
          refine lv_iload hx hb d_M_takeSum_106 (lv_at hl 0 rfl) ?_
          refine lv_iconst (v := 3) hx hb d_M_takeSum_108 z_k3 ?_
          refine lv_icmp_ge (tgt := 132) hx hb d_M_takeSum_109 rfl (fun _ => ?_) (fun h => absurd h (by decide))
          exact z_vret hF hr hlk hG (Eq.symm ((if_neg h11).trans ((if_pos h46).trans ((if_pos h69).trans ((if_neg h91).trans rfl))))) d_M_takeSum_132
        ·
          refine lv_aload_n hx hb d_M_takeSum_94 rfl (lv_at hl 0 rfl) ?_
          refine lv_iload_n hx hb d_M_takeSum_95 rfl (lv_at hl 1 rfl) ?_
          refine lv_iconst (v := 1) hx hb d_M_takeSum_96 z_k1 ?_
          refine kc_M_129 hF (c_M_end l D C ad hF.2.2 (z_sL (z_sI S 31 0 x0.toNatClampNeg ((S.1 31 0 x0.toNatClampNeg) ||| ((1 : Int32) <<< (x1 &&& 31)))) 33 0 (((3 * x0) + x1).toNatClampNeg) x2) _ _ hom hp) hG ⟨Nat.le_of_ble_eq_true rfl, Nat.le_of_ble_eq_true rfl⟩ ⟨Nat.zero_le _, Nat.zero_le _⟩ hl.1 (Nat.le_of_ble_eq_true rfl) d_M_takeSum_97 (fun H locs hG => ?_)
          refine lv_goto (tgt := 132) hx hb d_M_takeSum_100 rfl ?_
          exact z_vret hF hr hlk hG (Eq.symm ((if_neg h11).trans ((if_pos h46).trans ((if_pos h69).trans ((if_pos h91).trans rfl))))) d_M_takeSum_132
    ·
      exact z_vret hF hr hlk hG (Eq.symm ((if_neg h11).trans ((if_neg h46).trans rfl))) d_M_takeSum_49
  ·
    exact z_vret hF hr hlk hG (Eq.symm ((if_pos h11).trans rfl)) d_M_takeSum_14
def rg_M_alike_9i_u5 (S : z_S) (v1 : Int32) (v2 : Int32) (v3 : Int32) (v5 : Int32) (k : Nat) : Int32 := (if v5 = 0 then 0 else (if (S.1 34 0 ((((24 * v1) + (8 * v2)) + (nI k)).toNatClampNeg)) = (S.1 34 0 ((((24 * v1) + (8 * v3)) + (nI k)).toNatClampNeg)) then 1 else 0))
set_option maxHeartbeats 4000000 in
set_option maxRecDepth 100000 in
theorem rg_M_alike_9i {D : va_G} {C : Nat → ClassId} {ad : Nat → Nat → Nat} {S : z_S} {p : Program} {l : Launch} {e : Env} {s : State} {m : MethodId} {args : Array Value} {below : List Frame} {meth : Method} {c : Code} {H H0 : Heap} {locs : List Loc} {Q : State → Prop} {ls : Array Slot} {v1 : Int32} {v2 : Int32} {v3 : Int32} {v4 : Int32} {v5 : Int32} {k : Nat} {kq : Nat} (hF : z_F D C ad p m c b_M_alike 7 s args R_M)  (hN : 4 * v4 + 4 = nI (4 * kq + 4)) (hk2 : kq < 2) (hb1 : ∀ k : Nat, k < 8 → vp_in (((24 * v1) + (8 * v2)) + (nI k)) 144) (hb2 : ∀ k : Nat, k < 8 → vp_in (((24 * v1) + (8 * v3)) + (nI k)) 144) (hk : k < (4 * kq + 4)) (hG : z_G D C ad H0 S H locs) (hl : lv_has ls 7 [(0, .ref (ad 21 0)), (1, .int v1), (2, .int v2), (3, .int v3), (4, .int v4), (5, .int v5), (6, .int (nI k))]) (kk : ∀ (H : Heap) (locs : List Loc) (ls : Array Slot) (u5 : Int32), z_G D C ad H0 S H locs → lv_has ls 7 [(0, .ref (ad 21 0)), (1, .int v1), (2, .int v2), (3, .int v3), (4, .int v4), (5, .int u5), (6, .int (nI (k + 1)))] → rg_M_alike_9i_u5 S v1 v2 v3 v5 k = u5 → W p l e rm_M_alike s m args below meth c H locs 0 0 Q (F0 m 9 ls [])) : W p l e rm_M_alike s m args below meth c H locs 0 0 Q (F0 m 9 ls []) := by
  obtain ⟨hx, hb, hml, hown, hts⟩ := hF.1
  refine lv_iload hx hb d_M_alike_9 (lv_at hl 6 rfl) ?_
  refine lv_iconst (v := 4) hx hb d_M_alike_11 z_k4 ?_
  refine lv_iload hx hb d_M_alike_12 (lv_at hl 4 rfl) ?_
  refine lv_imul hx hb d_M_alike_14 ?_
  refine lv_iconst (v := 4) hx hb d_M_alike_15 z_k4 ?_
  refine lv_iadd hx hb d_M_alike_16 ?_
  refine lv_icmp_ge (tgt := 75) hx hb d_M_alike_17 rfl (fun h => absurd h (by rw [hN]; exact nI_ge hk (by omega))) (fun _ => ?_)
  refine lv_iload hx hb d_M_alike_20 (lv_at hl 5 rfl) ?_
  refine lv_if_eq (tgt := 66) hx hb d_M_alike_22 rfl (fun h22 => ?_) (fun h22 => ?_)
  ·
    refine lv_iconst (v := 0) hx hb d_M_alike_66 z_k0 ?_
    refine lv_istore (lv' := [(5, .int 0), (0, .ref (ad 21 0)), (1, .int v1), (2, .int v2), (3, .int v3), (4, .int v4), (6, .int (nI k))]) hx hb d_M_alike_67 hl (Nat.le_of_ble_eq_true rfl) rfl (fun ls hl => ?_)
    refine lv_iinc (k := 6) (v := (nI (k + 1))) (lv' := [(6, .int (nI (k + 1))), (5, .int 0), (0, .ref (ad 21 0)), (1, .int v1), (2, .int v2), (3, .int v3), (4, .int v4)]) hx hb d_M_alike_69 hl rfl (z_incN _) (Nat.le_of_ble_eq_true rfl) rfl (fun ls hl => ?_)
    refine lv_goto (tgt := 9) hx hb d_M_alike_72 rfl ?_
    exact kk _ _ _ _ hG (lv_sub hl [2, 3, 4, 5, 6, 1, 0] rfl) ((if_pos h22).trans rfl)
  ·
    refine lv_aload_n hx hb d_M_alike_25 rfl (lv_at hl 0 rfl) ?_
    refine gf_M_48_21 hF hG d_M_alike_26 ?_
    refine lv_bipush (v := 24) hx hb d_M_alike_29 z_bi24 ?_
    refine lv_iload_n hx hb d_M_alike_31 rfl (lv_at hl 1 rfl) ?_
    refine lv_imul hx hb d_M_alike_32 ?_
    refine lv_bipush (v := 8) hx hb d_M_alike_33 z_bi8 ?_
    refine lv_iload_n hx hb d_M_alike_35 rfl (lv_at hl 2 rfl) ?_
    refine lv_imul hx hb d_M_alike_36 ?_
    refine lv_iadd hx hb d_M_alike_37 ?_
    refine lv_iload hx hb d_M_alike_38 (lv_at hl 6 rfl) ?_
    refine lv_iadd hx hb d_M_alike_40 ?_
    refine z_iald (n := 144) (j := (((24 * v1) + (8 * v2)) + (nI k)).toNatClampNeg) (v := (S.1 34 0 ((((24 * v1) + (8 * v2)) + (nI k)).toNatClampNeg))) hF hG z_o34 (z_c34 C ad _ _ _) rfl (hb1 k (by omega)) rfl d_M_alike_41 ?_
    refine lv_aload_n hx hb d_M_alike_42 rfl (lv_at hl 0 rfl) ?_
    refine gf_M_48_21 hF hG d_M_alike_43 ?_
    refine lv_bipush (v := 24) hx hb d_M_alike_46 z_bi24 ?_
    refine lv_iload_n hx hb d_M_alike_48 rfl (lv_at hl 1 rfl) ?_
    refine lv_imul hx hb d_M_alike_49 ?_
    refine lv_bipush (v := 8) hx hb d_M_alike_50 z_bi8 ?_
    refine lv_iload_n hx hb d_M_alike_52 rfl (lv_at hl 3 rfl) ?_
    refine lv_imul hx hb d_M_alike_53 ?_
    refine lv_iadd hx hb d_M_alike_54 ?_
    refine lv_iload hx hb d_M_alike_55 (lv_at hl 6 rfl) ?_
    refine lv_iadd hx hb d_M_alike_57 ?_
    refine z_iald (n := 144) (j := (((24 * v1) + (8 * v3)) + (nI k)).toNatClampNeg) (v := (S.1 34 0 ((((24 * v1) + (8 * v3)) + (nI k)).toNatClampNeg))) hF hG z_o34 (z_c34 C ad _ _ _) rfl (hb2 k (by omega)) rfl d_M_alike_58 ?_
    refine lv_icmp_ne (tgt := 66) hx hb d_M_alike_59 rfl (fun h59 => ?_) (fun h59 => ?_)
    ·
      refine lv_iconst (v := 0) hx hb d_M_alike_66 z_k0 ?_
      refine lv_istore (lv' := [(5, .int 0), (0, .ref (ad 21 0)), (1, .int v1), (2, .int v2), (3, .int v3), (4, .int v4), (6, .int (nI k))]) hx hb d_M_alike_67 hl (Nat.le_of_ble_eq_true rfl) rfl (fun ls hl => ?_)
      refine lv_iinc (k := 6) (v := (nI (k + 1))) (lv' := [(6, .int (nI (k + 1))), (5, .int 0), (0, .ref (ad 21 0)), (1, .int v1), (2, .int v2), (3, .int v3), (4, .int v4)]) hx hb d_M_alike_69 hl rfl (z_incN _) (Nat.le_of_ble_eq_true rfl) rfl (fun ls hl => ?_)
      refine lv_goto (tgt := 9) hx hb d_M_alike_72 rfl ?_
      exact kk _ _ _ _ hG (lv_sub hl [2, 3, 4, 5, 6, 1, 0] rfl) ((if_neg h22).trans ((if_neg h59).trans rfl))
    ·
      refine lv_iconst (v := 1) hx hb d_M_alike_62 z_k1 ?_
      refine lv_goto (tgt := 67) hx hb d_M_alike_63 rfl ?_
      refine lv_istore (lv' := [(5, .int 1), (0, .ref (ad 21 0)), (1, .int v1), (2, .int v2), (3, .int v3), (4, .int v4), (6, .int (nI k))]) hx hb d_M_alike_67 hl (Nat.le_of_ble_eq_true rfl) rfl (fun ls hl => ?_)
      refine lv_iinc (k := 6) (v := (nI (k + 1))) (lv' := [(6, .int (nI (k + 1))), (5, .int 1), (0, .ref (ad 21 0)), (1, .int v1), (2, .int v2), (3, .int v3), (4, .int v4)]) hx hb d_M_alike_69 hl rfl (z_incN _) (Nat.le_of_ble_eq_true rfl) rfl (fun ls hl => ?_)
      refine lv_goto (tgt := 9) hx hb d_M_alike_72 rfl ?_
      exact kk _ _ _ _ hG (lv_sub hl [2, 3, 4, 5, 6, 1, 0] rfl) ((if_neg h22).trans ((if_pos h59).trans rfl))
set_option maxHeartbeats 4000000 in
set_option maxRecDepth 100000 in
theorem rg_M_alike_9e {D : va_G} {C : Nat → ClassId} {ad : Nat → Nat → Nat} {S : z_S} {p : Program} {l : Launch} {e : Env} {s : State} {m : MethodId} {args : Array Value} {below : List Frame} {meth : Method} {c : Code} {H H0 : Heap} {locs : List Loc} {Q : State → Prop} {ls : Array Slot} {v1 : Int32} {v2 : Int32} {v3 : Int32} {v4 : Int32} {v5 : Int32} {k : Nat} {kq : Nat} (hF : z_F D C ad p m c b_M_alike 7 s args R_M)  (hN : 4 * v4 + 4 = nI (4 * kq + 4)) (hk2 : kq < 2) (hb1 : ∀ k : Nat, k < 8 → vp_in (((24 * v1) + (8 * v2)) + (nI k)) 144) (hb2 : ∀ k : Nat, k < 8 → vp_in (((24 * v1) + (8 * v3)) + (nI k)) 144) (hk : k = (4 * kq + 4)) (hG : z_G D C ad H0 S H locs) (hl : lv_has ls 7 [(0, .ref (ad 21 0)), (1, .int v1), (2, .int v2), (3, .int v3), (4, .int v4), (5, .int v5), (6, .int (nI k))]) (kk : ∀ (H : Heap) (locs : List Loc) (ls : Array Slot) , z_G D C ad H0 S H locs → lv_has ls 7 [(0, .ref (ad 21 0)), (1, .int v1), (2, .int v2), (3, .int v3), (4, .int v4), (5, .int v5), (6, .int (nI k))] → W p l e rm_M_alike s m args below meth c H locs 0 0 Q (F0 m 75 ls [])) : W p l e rm_M_alike s m args below meth c H locs 0 0 Q (F0 m 9 ls []) := by
  obtain ⟨hx, hb, hml, hown, hts⟩ := hF.1
  refine lv_iload hx hb d_M_alike_9 (lv_at hl 6 rfl) ?_
  refine lv_iconst (v := 4) hx hb d_M_alike_11 z_k4 ?_
  refine lv_iload hx hb d_M_alike_12 (lv_at hl 4 rfl) ?_
  refine lv_imul hx hb d_M_alike_14 ?_
  refine lv_iconst (v := 4) hx hb d_M_alike_15 z_k4 ?_
  refine lv_iadd hx hb d_M_alike_16 ?_
  refine lv_icmp_ge (tgt := 75) hx hb d_M_alike_17 rfl (fun _ => ?_) (fun h => absurd h (by rw [hN, hk]; exact not_not_intro (nI_le (Nat.le_refl _) (by omega))))
  exact kk _ _ _  hG (lv_sub hl [0, 1, 2, 3, 4, 5, 6] rfl) 
set_option maxHeartbeats 4000000 in
set_option maxRecDepth 100000 in
theorem lp_M_alike_9 {D : va_G} {C : Nat → ClassId} {ad : Nat → Nat → Nat} {S : z_S} {p : Program} {l : Launch} {e : Env} {s : State} {m : MethodId} {args : Array Value} {below : List Frame} {meth : Method} {c : Code} {H0 : Heap} {Q : State → Prop} {v1 : Int32} {v2 : Int32} {v3 : Int32} {v4 : Int32} {kq : Nat} (hF : z_F D C ad p m c b_M_alike 7 s args R_M)  (hN : 4 * v4 + 4 = nI (4 * kq + 4)) (hk2 : kq < 2) (hb1 : ∀ k : Nat, k < 8 → vp_in (((24 * v1) + (8 * v2)) + (nI k)) 144) (hb2 : ∀ k : Nat, k < 8 → vp_in (((24 * v1) + (8 * v3)) + (nI k)) 144) : ∀ (n k : Nat) (v5 : Int32) (H : Heap) (locs : List Loc) (ls : Array Slot), k + n = (4 * kq + 4) → z_G D C ad H0 S H locs → lv_has ls 7 [(0, .ref (ad 21 0)), (1, .int v1), (2, .int v2), (3, .int v3), (4, .int v4), (5, .int v5), (6, .int (nI k))] → (∀ (H : Heap) (locs : List Loc) (ls : Array Slot), z_G D C ad H0 S H locs → lv_has ls 7 [(0, .ref (ad 21 0)), (1, .int v1), (2, .int v2), (3, .int v3), (4, .int v4), (5, .int (z_it (fun (k : Nat) (v5 : Int32) => rg_M_alike_9i_u5 S v1 v2 v3 v5 k) k n v5)), (6, .int (nI (4 * kq + 4)))] → W p l e rm_M_alike s m args below meth c H locs 0 0 Q (F0 m 75 ls [])) → W p l e rm_M_alike s m args below meth c H locs 0 0 Q (F0 m 9 ls []) := by
  intro n
  induction n with
  | zero =>
    intro k v5 H locs ls hk hG hl kk
    have hk : k = (4 * kq + 4) := by omega
    refine rg_M_alike_9e hF  hN hk2 hb1 hb2 hk hG hl (fun H locs ls hG hl => ?_)
    subst hk
    exact kk H locs ls hG hl
  | succ n ih =>
    intro k v5 H locs ls hk hG hl kk
    refine rg_M_alike_9i hF  hN hk2 hb1 hb2 (by omega) hG hl (fun H locs ls u5 hG hl e1 => ?_)
    subst e1
    exact ih (k + 1) (rg_M_alike_9i_u5 S v1 v2 v3 v5 k) H locs ls (by omega) hG hl kk
theorem b01_M_alike {S : z_S} {v1 v2 v3 v5 : Int32} {k : Nat} : z_b01 (rg_M_alike_9i_u5 S v1 v2 v3 v5 k) := by
  unfold rg_M_alike_9i_u5
  repeat' split
  all_goals first | exact Or.inl rfl | exact Or.inr rfl
def f_M_alike (S : z_S) (x0 : Int32) (x1 : Int32) (x2 : Int32) (kq : Nat) : Int32 := (z_it (fun (kk9 : Nat) (T9 : Int32) => rg_M_alike_9i_u5 S x0 x1 x2 T9 kk9) (4 * kq) 4 1)
set_option maxHeartbeats 4000000 in
set_option maxRecDepth 100000 in
theorem c_M_alike (l : Launch) (D : va_G) (C : Nat → ClassId) (ad : Nat → Nat → Nat) (hJ : z_J ad) (S : z_S) (x0 : Int32) (x1 : Int32) (x2 : Int32) (x3 : Int32) (kq : Nat) (hkk : x3 = nI kq) (hk2 : kq < 2) (hb1 : ∀ k : Nat, k < 8 → vp_in (((24 * x0) + (8 * x1)) + (nI k)) 144) (hb2 : ∀ k : Nat, k < 8 → vp_in (((24 * x0) + (8 * x2)) + (nI k)) 144) : z_M l y_M_alike b_M_alike 7 (some .boolean) rm_M_alike D C ad [.ref (ad 21 0), .int x0, .int x1, .int x2, .int x3] S (z_Qi D C ad (f_M_alike S x0 x1 x2 kq) S) := by
  refine z_enter (by decide) (Nat.le_of_ble_eq_true rfl) hJ ?_
  intro p e s m below meth c ls hF hr hlk hl hG
  obtain ⟨hx, hb, hml, hown, hts⟩ := hF.1
  have hl : lv_has ls 7 [(0, .ref (ad 21 0)), (1, .int x0), (2, .int x1), (3, .int x2), (4, .int x3)] := hl
  refine lv_iconst (v := 1) hx hb d_M_alike_0 z_k1 ?_
  refine lv_istore (lv' := [(5, .int 1), (0, .ref (ad 21 0)), (1, .int x0), (2, .int x1), (3, .int x2), (4, .int x3)]) hx hb d_M_alike_1 hl (Nat.le_of_ble_eq_true rfl) rfl (fun ls hl => ?_)
  refine lv_iconst (v := 4) hx hb d_M_alike_3 z_k4 ?_
  refine lv_iload hx hb d_M_alike_4 (lv_at hl 5 rfl) ?_
  refine lv_imul hx hb d_M_alike_6 ?_
  refine lv_istore (lv' := [(6, .int (4 * x3)), (5, .int 1), (0, .ref (ad 21 0)), (1, .int x0), (2, .int x1), (3, .int x2), (4, .int x3)]) hx hb d_M_alike_7 hl (Nat.le_of_ble_eq_true rfl) rfl (fun ls hl => ?_)
  have hl : lv_has ls 7 [(0, .ref (ad 21 0)), (1, .int x0), (2, .int x1), (3, .int x2), (4, .int x3), (5, .int 1), (6, .int (nI (4 * kq)))] := by
    have h9 := lv_sub hl [2, 3, 4, 5, 6, 1, 0] rfl
    rw [z_4k hkk]; exact h9
  refine lp_M_alike_9  hF  (z_4k4 hkk) hk2 hb1 hb2 4 (4 * kq) 1 _ _ ls rfl hG hl (fun H locs ls hG hl => ?_)
  refine lv_iload hx hb d_M_alike_75 (lv_at hl 5 rfl) ?_
  exact z_zret hF hr hlk (z_nb (z_it_inv (P := z_b01) (fun k v hv => b01_M_alike) (Or.inr rfl))) hG rfl rfl d_M_alike_77
def f_M_byteAt (S : z_S) (x0 : Int32) (x1 : Int32) (x2 : Int32) : Int32 := ((((384 * x1) + (64 * (S.1 27 0 x0.toNatClampNeg))) + (4 * ((S.1 28 0 x0.toNatClampNeg) + (8 * (x2 / 4))))) + (x2 - x2 / 4 * 4))
set_option maxHeartbeats 4000000 in
set_option maxRecDepth 100000 in
theorem c_M_byteAt (l : Launch) (D : va_G) (C : Nat → ClassId) (ad : Nat → Nat → Nat) (hJ : z_J ad) (S : z_S) (x0 : Int32) (x1 : Int32) (x2 : Int32) (hp : vp_in x0 6) : z_M l y_M_byteAt b_M_byteAt 4 (some .int) rm_M_byteAt D C ad [.ref (ad 21 0), .int x0, .int x1, .int x2] S (z_Qi D C ad (f_M_byteAt S x0 x1 x2) S) := by
  refine z_enter (by decide) (Nat.le_of_ble_eq_true rfl) hJ ?_
  intro p e s m below meth c ls hF hr hlk hl hG
  obtain ⟨hx, hb, hml, hown, hts⟩ := hF.1
  have hl : lv_has ls 4 [(0, .ref (ad 21 0)), (1, .int x0), (2, .int x1), (3, .int x2)] := hl
  refine lv_sipush (v := 384) hx hb d_M_byteAt_0 z_si384 ?_
  refine lv_iload_n hx hb d_M_byteAt_3 rfl (lv_at hl 2 rfl) ?_
  refine lv_imul hx hb d_M_byteAt_4 ?_
  refine lv_bipush (v := 64) hx hb d_M_byteAt_5 z_bi64 ?_
  refine lv_aload_n hx hb d_M_byteAt_7 rfl (lv_at hl 0 rfl) ?_
  refine gf_M_26_21 hF hG d_M_byteAt_8 ?_
  refine lv_iload_n hx hb d_M_byteAt_11 rfl (lv_at hl 1 rfl) ?_
  refine z_iald (n := 6) (j := x0.toNatClampNeg) (v := (S.1 27 0 x0.toNatClampNeg)) hF hG z_o27 (z_c27 C ad _ _ _) rfl hp rfl d_M_byteAt_12 ?_
  refine lv_imul hx hb d_M_byteAt_13 ?_
  refine lv_iadd hx hb d_M_byteAt_14 ?_
  refine lv_iconst (v := 4) hx hb d_M_byteAt_15 z_k4 ?_
  refine lv_aload_n hx hb d_M_byteAt_16 rfl (lv_at hl 0 rfl) ?_
  refine gf_M_29_21 hF hG d_M_byteAt_17 ?_
  refine lv_iload_n hx hb d_M_byteAt_20 rfl (lv_at hl 1 rfl) ?_
  refine z_iald (n := 6) (j := x0.toNatClampNeg) (v := (S.1 28 0 x0.toNatClampNeg)) hF hG z_o28 (z_c28 C ad _ _ _) rfl hp rfl d_M_byteAt_21 ?_
  refine lv_bipush (v := 8) hx hb d_M_byteAt_22 z_bi8 ?_
  refine lv_iload_n hx hb d_M_byteAt_24 rfl (lv_at hl 3 rfl) ?_
  refine lv_iconst (v := 4) hx hb d_M_byteAt_25 z_k4 ?_
  refine lv_idiv hx hb d_M_byteAt_26 (by decide) ?_
  refine lv_imul hx hb d_M_byteAt_27 ?_
  refine lv_iadd hx hb d_M_byteAt_28 ?_
  refine lv_imul hx hb d_M_byteAt_29 ?_
  refine lv_iadd hx hb d_M_byteAt_30 ?_
  refine lv_iload_n hx hb d_M_byteAt_31 rfl (lv_at hl 3 rfl) ?_
  refine lv_iconst (v := 4) hx hb d_M_byteAt_32 z_k4 ?_
  refine lv_irem hx hb d_M_byteAt_33 (by decide) ?_
  refine lv_iadd hx hb d_M_byteAt_34 ?_
  exact z_iret hF hr hlk hG rfl rfl d_M_byteAt_35
theorem z_bat {S : z_S} {p h : Int32} {n : Nat} (hom : z_Om S) (hp : vp_in p 6) (hh : vp_in h 3) (hn : n ≤ 8) : ∀ k : Nat, k < n → vp_in (f_M_byteAt S p h (nI k)) 1152 := by
  intro k hk
  obtain ⟨a, ha, e1⟩ := vp_in_of (hom.2.2.2.1 _ (z_lt hp)).2.1 (by decide)
  obtain ⟨b, hb, e2⟩ := vp_in_of (hom.2.2.2.1 _ (z_lt hp)).2.2 (by decide)
  obtain ⟨c, hc, rfl⟩ := vp_in_of hh (by decide)
  unfold f_M_byteAt
  rw [e1, e2]
  show vp_in (nI 384 * nI c + nI 64 * nI a + nI 4 * (nI b + nI 8 * (nI k / nI 4)) + (nI k - nI k / nI 4 * nI 4)) 1152
  rw [pk_rem (by omega) (by decide) (by decide), pk_div (by omega) (by decide) (by decide), pk_mul, pk_mul, pk_mul, nI_add, nI_add, pk_mul, nI_add, nI_add]
  exact vp_in_nI (by omega) (by decide)
def rg_M_isAsCopied_6i_u4 (S : z_S) (v1 : Int32) (v2 : Int32) (v4 : Int32) (k : Nat) : Int32 := (if v4 = 0 then 0 else (if (S.1 22 0 ((f_M_byteAt S v1 v2 (nI k)).toNatClampNeg)) = (S.1 34 0 ((((24 * v1) + (8 * v2)) + (nI k)).toNatClampNeg)) then 1 else 0))
set_option maxHeartbeats 4000000 in
set_option maxRecDepth 100000 in
theorem rg_M_isAsCopied_6i {D : va_G} {C : Nat → ClassId} {ad : Nat → Nat → Nat} {S : z_S} {p : Program} {l : Launch} {e : Env} {s : State} {m : MethodId} {args : Array Value} {below : List Frame} {meth : Method} {c : Code} {H H0 : Heap} {locs : List Loc} {Q : State → Prop} {ls : Array Slot} {v1 : Int32} {v2 : Int32} {v3 : Int32} {v4 : Int32} {k : Nat} {N : Nat} (hF : z_F D C ad p m c b_M_isAsCopied 6 s args R_M)  (hp : vp_in v1 6) (hN : 4 * v3 = nI N) (hN8 : N ≤ 8) (hby : ∀ k : Nat, k < N → vp_in (f_M_byteAt S v1 v2 (nI k)) 1152) (hc : ∀ k : Nat, k < N → vp_in (((24 * v1) + (8 * v2)) + (nI k)) 144) (hk : k < N) (hG : z_G D C ad H0 S H locs) (hl : lv_has ls 6 [(0, .ref (ad 21 0)), (1, .int v1), (2, .int v2), (3, .int v3), (4, .int v4), (5, .int (nI k))]) (kk : ∀ (H : Heap) (locs : List Loc) (ls : Array Slot) (u4 : Int32), z_G D C ad H0 S H locs → lv_has ls 6 [(0, .ref (ad 21 0)), (1, .int v1), (2, .int v2), (3, .int v3), (4, .int u4), (5, .int (nI (k + 1)))] → rg_M_isAsCopied_6i_u4 S v1 v2 v4 k = u4 → W p l e rm_M_isAsCopied s m args below meth c H locs 0 0 Q (F0 m 6 ls [])) : W p l e rm_M_isAsCopied s m args below meth c H locs 0 0 Q (F0 m 6 ls []) := by
  obtain ⟨hx, hb, hml, hown, hts⟩ := hF.1
  refine lv_iload hx hb d_M_isAsCopied_6 (lv_at hl 5 rfl) ?_
  refine lv_iconst (v := 4) hx hb d_M_isAsCopied_8 z_k4 ?_
  refine lv_iload_n hx hb d_M_isAsCopied_9 rfl (lv_at hl 3 rfl) ?_
  refine lv_imul hx hb d_M_isAsCopied_10 ?_
  refine lv_icmp_ge (tgt := 65) hx hb d_M_isAsCopied_11 rfl (fun h => absurd h (by rw [hN]; exact nI_ge hk (by omega))) (fun _ => ?_)
  refine lv_iload hx hb d_M_isAsCopied_14 (lv_at hl 4 rfl) ?_
  refine lv_if_eq (tgt := 56) hx hb d_M_isAsCopied_16 rfl (fun h16 => ?_) (fun h16 => ?_)
  ·
    refine lv_iconst (v := 0) hx hb d_M_isAsCopied_56 z_k0 ?_
    refine lv_istore (lv' := [(4, .int 0), (0, .ref (ad 21 0)), (1, .int v1), (2, .int v2), (3, .int v3), (5, .int (nI k))]) hx hb d_M_isAsCopied_57 hl (Nat.le_of_ble_eq_true rfl) rfl (fun ls hl => ?_)
    refine lv_iinc (k := 5) (v := (nI (k + 1))) (lv' := [(5, .int (nI (k + 1))), (4, .int 0), (0, .ref (ad 21 0)), (1, .int v1), (2, .int v2), (3, .int v3)]) hx hb d_M_isAsCopied_59 hl rfl (z_incN _) (Nat.le_of_ble_eq_true rfl) rfl (fun ls hl => ?_)
    refine lv_goto (tgt := 6) hx hb d_M_isAsCopied_62 rfl ?_
    exact kk _ _ _ _ hG (lv_sub hl [2, 3, 4, 5, 1, 0] rfl) ((if_pos h16).trans rfl)
  ·
    refine lv_aload_n hx hb d_M_isAsCopied_19 rfl (lv_at hl 0 rfl) ?_
    refine gf_M_7_21 hF hG d_M_isAsCopied_20 ?_
    refine lv_aload_n hx hb d_M_isAsCopied_23 rfl (lv_at hl 0 rfl) ?_
    refine lv_iload_n hx hb d_M_isAsCopied_24 rfl (lv_at hl 1 rfl) ?_
    refine lv_iload_n hx hb d_M_isAsCopied_25 rfl (lv_at hl 2 rfl) ?_
    refine lv_iload hx hb d_M_isAsCopied_26 (lv_at hl 5 rfl) ?_
    refine kc_M_132 hF (c_M_byteAt l D C ad hF.2.2 _ _ _ _ hp) hG ⟨Nat.le_of_ble_eq_true rfl, Nat.le_of_ble_eq_true rfl⟩ ⟨Nat.zero_le _, Nat.zero_le _⟩ hl.1 (Nat.le_of_ble_eq_true rfl) d_M_isAsCopied_28 (fun H locs hG => ?_)
    refine z_iald (n := 1152) (j := (f_M_byteAt S v1 v2 (nI k)).toNatClampNeg) (v := (S.1 22 0 ((f_M_byteAt S v1 v2 (nI k)).toNatClampNeg))) hF hG z_o22 (z_c22 C ad _ _ _) rfl (hby k hk) rfl d_M_isAsCopied_31 ?_
    refine lv_aload_n hx hb d_M_isAsCopied_32 rfl (lv_at hl 0 rfl) ?_
    refine gf_M_48_21 hF hG d_M_isAsCopied_33 ?_
    refine lv_bipush (v := 24) hx hb d_M_isAsCopied_36 z_bi24 ?_
    refine lv_iload_n hx hb d_M_isAsCopied_38 rfl (lv_at hl 1 rfl) ?_
    refine lv_imul hx hb d_M_isAsCopied_39 ?_
    refine lv_bipush (v := 8) hx hb d_M_isAsCopied_40 z_bi8 ?_
    refine lv_iload_n hx hb d_M_isAsCopied_42 rfl (lv_at hl 2 rfl) ?_
    refine lv_imul hx hb d_M_isAsCopied_43 ?_
    refine lv_iadd hx hb d_M_isAsCopied_44 ?_
    refine lv_iload hx hb d_M_isAsCopied_45 (lv_at hl 5 rfl) ?_
    refine lv_iadd hx hb d_M_isAsCopied_47 ?_
    refine z_iald (n := 144) (j := (((24 * v1) + (8 * v2)) + (nI k)).toNatClampNeg) (v := (S.1 34 0 ((((24 * v1) + (8 * v2)) + (nI k)).toNatClampNeg))) hF hG z_o34 (z_c34 C ad _ _ _) rfl (hc k hk) rfl d_M_isAsCopied_48 ?_
    refine lv_icmp_ne (tgt := 56) hx hb d_M_isAsCopied_49 rfl (fun h49 => ?_) (fun h49 => ?_)
    ·
      refine lv_iconst (v := 0) hx hb d_M_isAsCopied_56 z_k0 ?_
      refine lv_istore (lv' := [(4, .int 0), (0, .ref (ad 21 0)), (1, .int v1), (2, .int v2), (3, .int v3), (5, .int (nI k))]) hx hb d_M_isAsCopied_57 hl (Nat.le_of_ble_eq_true rfl) rfl (fun ls hl => ?_)
      refine lv_iinc (k := 5) (v := (nI (k + 1))) (lv' := [(5, .int (nI (k + 1))), (4, .int 0), (0, .ref (ad 21 0)), (1, .int v1), (2, .int v2), (3, .int v3)]) hx hb d_M_isAsCopied_59 hl rfl (z_incN _) (Nat.le_of_ble_eq_true rfl) rfl (fun ls hl => ?_)
      refine lv_goto (tgt := 6) hx hb d_M_isAsCopied_62 rfl ?_
      exact kk _ _ _ _ hG (lv_sub hl [2, 3, 4, 5, 1, 0] rfl) ((if_neg h16).trans ((if_neg h49).trans rfl))
    ·
      refine lv_iconst (v := 1) hx hb d_M_isAsCopied_52 z_k1 ?_
      refine lv_goto (tgt := 57) hx hb d_M_isAsCopied_53 rfl ?_
      refine lv_istore (lv' := [(4, .int 1), (0, .ref (ad 21 0)), (1, .int v1), (2, .int v2), (3, .int v3), (5, .int (nI k))]) hx hb d_M_isAsCopied_57 hl (Nat.le_of_ble_eq_true rfl) rfl (fun ls hl => ?_)
      refine lv_iinc (k := 5) (v := (nI (k + 1))) (lv' := [(5, .int (nI (k + 1))), (4, .int 1), (0, .ref (ad 21 0)), (1, .int v1), (2, .int v2), (3, .int v3)]) hx hb d_M_isAsCopied_59 hl rfl (z_incN _) (Nat.le_of_ble_eq_true rfl) rfl (fun ls hl => ?_)
      refine lv_goto (tgt := 6) hx hb d_M_isAsCopied_62 rfl ?_
      exact kk _ _ _ _ hG (lv_sub hl [2, 3, 4, 5, 1, 0] rfl) ((if_neg h16).trans ((if_pos h49).trans rfl))
set_option maxHeartbeats 4000000 in
set_option maxRecDepth 100000 in
theorem rg_M_isAsCopied_6e {D : va_G} {C : Nat → ClassId} {ad : Nat → Nat → Nat} {S : z_S} {p : Program} {l : Launch} {e : Env} {s : State} {m : MethodId} {args : Array Value} {below : List Frame} {meth : Method} {c : Code} {H H0 : Heap} {locs : List Loc} {Q : State → Prop} {ls : Array Slot} {v1 : Int32} {v2 : Int32} {v3 : Int32} {v4 : Int32} {k : Nat} {N : Nat} (hF : z_F D C ad p m c b_M_isAsCopied 6 s args R_M)  (hp : vp_in v1 6) (hN : 4 * v3 = nI N) (hN8 : N ≤ 8) (hby : ∀ k : Nat, k < N → vp_in (f_M_byteAt S v1 v2 (nI k)) 1152) (hc : ∀ k : Nat, k < N → vp_in (((24 * v1) + (8 * v2)) + (nI k)) 144) (hk : k = N) (hG : z_G D C ad H0 S H locs) (hl : lv_has ls 6 [(0, .ref (ad 21 0)), (1, .int v1), (2, .int v2), (3, .int v3), (4, .int v4), (5, .int (nI k))]) (kk : ∀ (H : Heap) (locs : List Loc) (ls : Array Slot) , z_G D C ad H0 S H locs → lv_has ls 6 [(0, .ref (ad 21 0)), (1, .int v1), (2, .int v2), (3, .int v3), (4, .int v4), (5, .int (nI k))] → W p l e rm_M_isAsCopied s m args below meth c H locs 0 0 Q (F0 m 65 ls [])) : W p l e rm_M_isAsCopied s m args below meth c H locs 0 0 Q (F0 m 6 ls []) := by
  obtain ⟨hx, hb, hml, hown, hts⟩ := hF.1
  refine lv_iload hx hb d_M_isAsCopied_6 (lv_at hl 5 rfl) ?_
  refine lv_iconst (v := 4) hx hb d_M_isAsCopied_8 z_k4 ?_
  refine lv_iload_n hx hb d_M_isAsCopied_9 rfl (lv_at hl 3 rfl) ?_
  refine lv_imul hx hb d_M_isAsCopied_10 ?_
  refine lv_icmp_ge (tgt := 65) hx hb d_M_isAsCopied_11 rfl (fun _ => ?_) (fun h => absurd h (by rw [hN, hk]; exact not_not_intro (nI_le (Nat.le_refl _) (by omega))))
  exact kk _ _ _  hG (lv_sub hl [0, 1, 2, 3, 4, 5] rfl) 
set_option maxHeartbeats 4000000 in
set_option maxRecDepth 100000 in
theorem lp_M_isAsCopied_6 {D : va_G} {C : Nat → ClassId} {ad : Nat → Nat → Nat} {S : z_S} {p : Program} {l : Launch} {e : Env} {s : State} {m : MethodId} {args : Array Value} {below : List Frame} {meth : Method} {c : Code} {H0 : Heap} {Q : State → Prop} {v1 : Int32} {v2 : Int32} {v3 : Int32} {N : Nat} (hF : z_F D C ad p m c b_M_isAsCopied 6 s args R_M)  (hp : vp_in v1 6) (hN : 4 * v3 = nI N) (hN8 : N ≤ 8) (hby : ∀ k : Nat, k < N → vp_in (f_M_byteAt S v1 v2 (nI k)) 1152) (hc : ∀ k : Nat, k < N → vp_in (((24 * v1) + (8 * v2)) + (nI k)) 144) : ∀ (n k : Nat) (v4 : Int32) (H : Heap) (locs : List Loc) (ls : Array Slot), k + n = N → z_G D C ad H0 S H locs → lv_has ls 6 [(0, .ref (ad 21 0)), (1, .int v1), (2, .int v2), (3, .int v3), (4, .int v4), (5, .int (nI k))] → (∀ (H : Heap) (locs : List Loc) (ls : Array Slot), z_G D C ad H0 S H locs → lv_has ls 6 [(0, .ref (ad 21 0)), (1, .int v1), (2, .int v2), (3, .int v3), (4, .int (z_it (fun (k : Nat) (v4 : Int32) => rg_M_isAsCopied_6i_u4 S v1 v2 v4 k) k n v4)), (5, .int (nI N))] → W p l e rm_M_isAsCopied s m args below meth c H locs 0 0 Q (F0 m 65 ls [])) → W p l e rm_M_isAsCopied s m args below meth c H locs 0 0 Q (F0 m 6 ls []) := by
  intro n
  induction n with
  | zero =>
    intro k v4 H locs ls hk hG hl kk
    have hk : k = N := by omega
    refine rg_M_isAsCopied_6e hF  hp hN hN8 hby hc hk hG hl (fun H locs ls hG hl => ?_)
    subst hk
    exact kk H locs ls hG hl
  | succ n ih =>
    intro k v4 H locs ls hk hG hl kk
    refine rg_M_isAsCopied_6i hF  hp hN hN8 hby hc (by omega) hG hl (fun H locs ls u4 hG hl e1 => ?_)
    subst e1
    exact ih (k + 1) (rg_M_isAsCopied_6i_u4 S v1 v2 v4 k) H locs ls (by omega) hG hl kk
theorem b01_M_isAsCopied {S : z_S} {v1 v2 v4 : Int32} {k : Nat} : z_b01 (rg_M_isAsCopied_6i_u4 S v1 v2 v4 k) := by
  unfold rg_M_isAsCopied_6i_u4
  repeat' split
  all_goals first | exact Or.inl rfl | exact Or.inr rfl
def f_M_isAsCopied (S : z_S) (x0 : Int32) (x1 : Int32) (N : Nat) : Int32 := (z_it (fun (kk9 : Nat) (T9 : Int32) => rg_M_isAsCopied_6i_u4 S x0 x1 T9 kk9) 0 N 1)
set_option maxHeartbeats 4000000 in
set_option maxRecDepth 100000 in
theorem c_M_isAsCopied (l : Launch) (D : va_G) (C : Nat → ClassId) (ad : Nat → Nat → Nat) (hJ : z_J ad) (S : z_S) (x0 : Int32) (x1 : Int32) (x2 : Int32) (N : Nat) (hp : vp_in x0 6) (hN : 4 * x2 = nI N) (hN8 : N ≤ 8) (hby : ∀ k : Nat, k < N → vp_in (f_M_byteAt S x0 x1 (nI k)) 1152) (hc : ∀ k : Nat, k < N → vp_in (((24 * x0) + (8 * x1)) + (nI k)) 144) : z_M l y_M_isAsCopied b_M_isAsCopied 6 (some .boolean) rm_M_isAsCopied D C ad [.ref (ad 21 0), .int x0, .int x1, .int x2] S (z_Qi D C ad (f_M_isAsCopied S x0 x1 N) S) := by
  refine z_enter (by decide) (Nat.le_of_ble_eq_true rfl) hJ ?_
  intro p e s m below meth c ls hF hr hlk hl hG
  obtain ⟨hx, hb, hml, hown, hts⟩ := hF.1
  have hl : lv_has ls 6 [(0, .ref (ad 21 0)), (1, .int x0), (2, .int x1), (3, .int x2)] := hl
  refine lv_iconst (v := 1) hx hb d_M_isAsCopied_0 z_k1 ?_
  refine lv_istore (lv' := [(4, .int 1), (0, .ref (ad 21 0)), (1, .int x0), (2, .int x1), (3, .int x2)]) hx hb d_M_isAsCopied_1 hl (Nat.le_of_ble_eq_true rfl) rfl (fun ls hl => ?_)
  refine lv_iconst (v := 0) hx hb d_M_isAsCopied_3 z_k0 ?_
  refine lv_istore (lv' := [(5, .int 0), (4, .int 1), (0, .ref (ad 21 0)), (1, .int x0), (2, .int x1), (3, .int x2)]) hx hb d_M_isAsCopied_4 hl (Nat.le_of_ble_eq_true rfl) rfl (fun ls hl => ?_)
  have hl : lv_has ls 6 [(0, .ref (ad 21 0)), (1, .int x0), (2, .int x1), (3, .int x2), (4, .int 1), (5, .int (nI 0))] := by
    have h9 := lv_sub hl [2, 3, 4, 5, 1, 0] rfl
    rw [nI_0]; exact h9
  refine lp_M_isAsCopied_6  hF  hp hN hN8 hby hc N 0 1 _ _ ls (by omega) hG hl (fun H locs ls hG hl => ?_)
  refine lv_iload hx hb d_M_isAsCopied_65 (lv_at hl 4 rfl) ?_
  exact z_zret hF hr hlk (z_nb (z_it_inv (P := z_b01) (fun k v hv => b01_M_isAsCopied) (Or.inr rfl))) hG rfl rfl d_M_isAsCopied_67
def rg_M_mend_6i_S1 (S : z_S) (v1 : Int32) (v2 : Int32) (v3 : Int32) (k : Nat) : z_S := (z_sI S 22 0 ((f_M_byteAt S v1 v2 (nI k)).toNatClampNeg) (S.1 34 0 ((((24 * v1) + (8 * v3)) + (nI k)).toNatClampNeg)))
set_option maxHeartbeats 4000000 in
set_option maxRecDepth 100000 in
theorem rg_M_mend_6i {D : va_G} {C : Nat → ClassId} {ad : Nat → Nat → Nat} {S : z_S} {p : Program} {l : Launch} {e : Env} {s : State} {m : MethodId} {args : Array Value} {below : List Frame} {meth : Method} {c : Code} {H H0 : Heap} {locs : List Loc} {Q : State → Prop} {ls : Array Slot} {v1 : Int32} {v2 : Int32} {v3 : Int32} {v4 : Int32} {k : Nat} {kq : Nat} (hF : z_F D C ad p m c b_M_mend 6 s args R_M)  (hN : 4 * v4 + 4 = nI (4 * kq + 4)) (hk2 : kq < 2) (hp : vp_in v1 6) (hc : ∀ k : Nat, k < 8 → vp_in (((24 * v1) + (8 * v3)) + (nI k)) 144) (inv : ∀ k : Nat, k < 8 → vp_in (f_M_byteAt S v1 v2 (nI k)) 1152) (hk : k < (4 * kq + 4)) (hG : z_G D C ad H0 S H locs) (hl : lv_has ls 6 [(0, .ref (ad 21 0)), (1, .int v1), (2, .int v2), (3, .int v3), (4, .int v4), (5, .int (nI k))]) (kk : ∀ (H : Heap) (locs : List Loc) (ls : Array Slot) (S1 : z_S), z_G D C ad H0 S1 H locs → lv_has ls 6 [(0, .ref (ad 21 0)), (1, .int v1), (2, .int v2), (3, .int v3), (4, .int v4), (5, .int (nI (k + 1)))] → rg_M_mend_6i_S1 S v1 v2 v3 k = S1 → W p l e rm_M_mend s m args below meth c H locs 0 0 Q (F0 m 6 ls [])) : W p l e rm_M_mend s m args below meth c H locs 0 0 Q (F0 m 6 ls []) := by
  obtain ⟨hx, hb, hml, hown, hts⟩ := hF.1
  refine lv_iload hx hb d_M_mend_6 (lv_at hl 5 rfl) ?_
  refine lv_iconst (v := 4) hx hb d_M_mend_8 z_k4 ?_
  refine lv_iload hx hb d_M_mend_9 (lv_at hl 4 rfl) ?_
  refine lv_imul hx hb d_M_mend_11 ?_
  refine lv_iconst (v := 4) hx hb d_M_mend_12 z_k4 ?_
  refine lv_iadd hx hb d_M_mend_13 ?_
  refine lv_icmp_ge (tgt := 53) hx hb d_M_mend_14 rfl (fun h => absurd h (by rw [hN]; exact nI_ge hk (by omega))) (fun _ => ?_)
  refine lv_aload_n hx hb d_M_mend_17 rfl (lv_at hl 0 rfl) ?_
  refine gf_M_7_21 hF hG d_M_mend_18 ?_
  refine lv_aload_n hx hb d_M_mend_21 rfl (lv_at hl 0 rfl) ?_
  refine lv_iload_n hx hb d_M_mend_22 rfl (lv_at hl 1 rfl) ?_
  refine lv_iload_n hx hb d_M_mend_23 rfl (lv_at hl 2 rfl) ?_
  refine lv_iload hx hb d_M_mend_24 (lv_at hl 5 rfl) ?_
  refine kc_M_132 hF (c_M_byteAt l D C ad hF.2.2 _ _ _ _ hp) hG ⟨Nat.le_of_ble_eq_true rfl, Nat.le_of_ble_eq_true rfl⟩ ⟨Nat.zero_le _, Nat.zero_le _⟩ hl.1 (Nat.le_of_ble_eq_true rfl) d_M_mend_26 (fun H locs hG => ?_)
  refine lv_aload_n hx hb d_M_mend_29 rfl (lv_at hl 0 rfl) ?_
  refine gf_M_48_21 hF hG d_M_mend_30 ?_
  refine lv_bipush (v := 24) hx hb d_M_mend_33 z_bi24 ?_
  refine lv_iload_n hx hb d_M_mend_35 rfl (lv_at hl 1 rfl) ?_
  refine lv_imul hx hb d_M_mend_36 ?_
  refine lv_bipush (v := 8) hx hb d_M_mend_37 z_bi8 ?_
  refine lv_iload_n hx hb d_M_mend_39 rfl (lv_at hl 3 rfl) ?_
  refine lv_imul hx hb d_M_mend_40 ?_
  refine lv_iadd hx hb d_M_mend_41 ?_
  refine lv_iload hx hb d_M_mend_42 (lv_at hl 5 rfl) ?_
  refine lv_iadd hx hb d_M_mend_44 ?_
  refine z_iald (n := 144) (j := (((24 * v1) + (8 * v3)) + (nI k)).toNatClampNeg) (v := (S.1 34 0 ((((24 * v1) + (8 * v3)) + (nI k)).toNatClampNeg))) hF hG z_o34 (z_c34 C ad _ _ _) rfl (hc k (by omega)) rfl d_M_mend_45 ?_
  refine z_iast (n := 1152) (j := (f_M_byteAt S v1 v2 (nI k)).toNatClampNeg) hF hG z_o22 (fun f g => z_c22 C ad f g _) rfl (inv k (by omega)) d_M_mend_46 (fun H locs hG => ?_)
  refine lv_iinc (k := 5) (v := (nI (k + 1))) (lv' := [(5, .int (nI (k + 1))), (0, .ref (ad 21 0)), (1, .int v1), (2, .int v2), (3, .int v3), (4, .int v4)]) hx hb d_M_mend_47 hl rfl (z_incN _) (Nat.le_of_ble_eq_true rfl) rfl (fun ls hl => ?_)
  refine lv_goto (tgt := 6) hx hb d_M_mend_50 rfl ?_
  exact kk _ _ _ _ hG (lv_sub hl [1, 2, 3, 4, 5, 0] rfl) rfl
set_option maxHeartbeats 4000000 in
set_option maxRecDepth 100000 in
theorem rg_M_mend_6e {D : va_G} {C : Nat → ClassId} {ad : Nat → Nat → Nat} {S : z_S} {p : Program} {l : Launch} {e : Env} {s : State} {m : MethodId} {args : Array Value} {below : List Frame} {meth : Method} {c : Code} {H H0 : Heap} {locs : List Loc} {Q : State → Prop} {ls : Array Slot} {v1 : Int32} {v2 : Int32} {v3 : Int32} {v4 : Int32} {k : Nat} {kq : Nat} (hF : z_F D C ad p m c b_M_mend 6 s args R_M)  (hN : 4 * v4 + 4 = nI (4 * kq + 4)) (hk2 : kq < 2) (hp : vp_in v1 6) (hc : ∀ k : Nat, k < 8 → vp_in (((24 * v1) + (8 * v3)) + (nI k)) 144) (inv : ∀ k : Nat, k < 8 → vp_in (f_M_byteAt S v1 v2 (nI k)) 1152) (hk : k = (4 * kq + 4)) (hG : z_G D C ad H0 S H locs) (hl : lv_has ls 6 [(0, .ref (ad 21 0)), (1, .int v1), (2, .int v2), (3, .int v3), (4, .int v4), (5, .int (nI k))]) (kk : ∀ (H : Heap) (locs : List Loc) (ls : Array Slot) , z_G D C ad H0 S H locs → lv_has ls 6 [(0, .ref (ad 21 0)), (1, .int v1), (2, .int v2), (3, .int v3), (4, .int v4), (5, .int (nI k))] → W p l e rm_M_mend s m args below meth c H locs 0 0 Q (F0 m 53 ls [])) : W p l e rm_M_mend s m args below meth c H locs 0 0 Q (F0 m 6 ls []) := by
  obtain ⟨hx, hb, hml, hown, hts⟩ := hF.1
  refine lv_iload hx hb d_M_mend_6 (lv_at hl 5 rfl) ?_
  refine lv_iconst (v := 4) hx hb d_M_mend_8 z_k4 ?_
  refine lv_iload hx hb d_M_mend_9 (lv_at hl 4 rfl) ?_
  refine lv_imul hx hb d_M_mend_11 ?_
  refine lv_iconst (v := 4) hx hb d_M_mend_12 z_k4 ?_
  refine lv_iadd hx hb d_M_mend_13 ?_
  refine lv_icmp_ge (tgt := 53) hx hb d_M_mend_14 rfl (fun _ => ?_) (fun h => absurd h (by rw [hN, hk]; exact not_not_intro (nI_le (Nat.le_refl _) (by omega))))
  exact kk _ _ _  hG (lv_sub hl [0, 1, 2, 3, 4, 5] rfl) 
set_option maxHeartbeats 4000000 in
set_option maxRecDepth 100000 in
theorem lp_M_mend_6 {D : va_G} {C : Nat → ClassId} {ad : Nat → Nat → Nat} {p : Program} {l : Launch} {e : Env} {s : State} {m : MethodId} {args : Array Value} {below : List Frame} {meth : Method} {c : Code} {H0 : Heap} {Q : State → Prop} {v1 : Int32} {v2 : Int32} {v3 : Int32} {v4 : Int32} {kq : Nat} (hF : z_F D C ad p m c b_M_mend 6 s args R_M)  (hN : 4 * v4 + 4 = nI (4 * kq + 4)) (hk2 : kq < 2) (hp : vp_in v1 6) (hc : ∀ k : Nat, k < 8 → vp_in (((24 * v1) + (8 * v3)) + (nI k)) 144) : ∀ (n k : Nat) (S : z_S) (H : Heap) (locs : List Loc) (ls : Array Slot), k + n = (4 * kq + 4) → (∀ k : Nat, k < 8 → vp_in (f_M_byteAt S v1 v2 (nI k)) 1152) → z_G D C ad H0 S H locs → lv_has ls 6 [(0, .ref (ad 21 0)), (1, .int v1), (2, .int v2), (3, .int v3), (4, .int v4), (5, .int (nI k))] → (∀ (H : Heap) (locs : List Loc) (ls : Array Slot), z_G D C ad H0 (z_it (fun (k : Nat) (S : z_S) => rg_M_mend_6i_S1 S v1 v2 v3 k) k n S) H locs → lv_has ls 6 [(0, .ref (ad 21 0)), (1, .int v1), (2, .int v2), (3, .int v3), (4, .int v4), (5, .int (nI (4 * kq + 4)))] → W p l e rm_M_mend s m args below meth c H locs 0 0 Q (F0 m 53 ls [])) → W p l e rm_M_mend s m args below meth c H locs 0 0 Q (F0 m 6 ls []) := by
  intro n
  induction n with
  | zero =>
    intro k S H locs ls hk inv hG hl kk
    have hk : k = (4 * kq + 4) := by omega
    refine rg_M_mend_6e hF  hN hk2 hp hc inv hk hG hl (fun H locs ls hG hl => ?_)
    subst hk
    exact kk H locs ls hG hl
  | succ n ih =>
    intro k S H locs ls hk inv hG hl kk
    refine rg_M_mend_6i hF  hN hk2 hp hc inv (by omega) hG hl (fun H locs ls S1 hG hl e1 => ?_)
    subst e1
    exact ih (k + 1) (rg_M_mend_6i_S1 S v1 v2 v3 k) H locs ls (by omega) (inv) hG hl kk
def g_M_mend (S : z_S) (x0 : Int32) (x1 : Int32) (x2 : Int32) (kq : Nat) : z_S := (z_sI (z_it (fun (kk9 : Nat) (T9 : z_S) => rg_M_mend_6i_S1 T9 x0 x1 x2 kk9) (4 * kq) 4 S) 41 0 x1.toNatClampNeg (((z_it (fun (kk9 : Nat) (T9 : z_S) => rg_M_mend_6i_S1 T9 x0 x1 x2 kk9) (4 * kq) 4 S).1 41 0 x1.toNatClampNeg) + 1))
set_option maxHeartbeats 4000000 in
set_option maxRecDepth 100000 in
theorem c_M_mend (l : Launch) (D : va_G) (C : Nat → ClassId) (ad : Nat → Nat → Nat) (hJ : z_J ad) (S : z_S) (x0 : Int32) (x1 : Int32) (x2 : Int32) (x3 : Int32) (kq : Nat) (hkk : x3 = nI kq) (hk2 : kq < 2) (hp : vp_in x0 6) (hh : vp_in x1 3) (hby : ∀ k : Nat, k < 8 → vp_in (f_M_byteAt S x0 x1 (nI k)) 1152) (hc : ∀ k : Nat, k < 8 → vp_in (((24 * x0) + (8 * x2)) + (nI k)) 144) : z_M l y_M_mend b_M_mend 6 none rm_M_mend D C ad [.ref (ad 21 0), .int x0, .int x1, .int x2, .int x3] S (z_Qv D C ad (g_M_mend S x0 x1 x2 kq)) := by
  refine z_enter (by decide) (Nat.le_of_ble_eq_true rfl) hJ ?_
  intro p e s m below meth c ls hF hr hlk hl hG
  obtain ⟨hx, hb, hml, hown, hts⟩ := hF.1
  have hl : lv_has ls 6 [(0, .ref (ad 21 0)), (1, .int x0), (2, .int x1), (3, .int x2), (4, .int x3)] := hl
  refine lv_iconst (v := 4) hx hb d_M_mend_0 z_k4 ?_
  refine lv_iload hx hb d_M_mend_1 (lv_at hl 4 rfl) ?_
  refine lv_imul hx hb d_M_mend_3 ?_
  refine lv_istore (lv' := [(5, .int (4 * x3)), (0, .ref (ad 21 0)), (1, .int x0), (2, .int x1), (3, .int x2), (4, .int x3)]) hx hb d_M_mend_4 hl (Nat.le_of_ble_eq_true rfl) rfl (fun ls hl => ?_)
  have hl : lv_has ls 6 [(0, .ref (ad 21 0)), (1, .int x0), (2, .int x1), (3, .int x2), (4, .int x3), (5, .int (nI (4 * kq)))] := by
    have h9 := lv_sub hl [1, 2, 3, 4, 5, 0] rfl
    rw [z_4k hkk]; exact h9
  refine lp_M_mend_6  hF  (z_4k4 hkk) hk2 hp hc 4 (4 * kq) S _ _ ls rfl hby hG hl (fun H locs ls hG hl => ?_)
  refine lv_aload_n hx hb d_M_mend_53 rfl (lv_at hl 0 rfl) ?_
  refine gf_M_73_21 hF hG d_M_mend_54 ?_
  refine lv_iload_n hx hb d_M_mend_57 rfl (lv_at hl 2 rfl) ?_
  refine lv_dup2_11 hx hb d_M_mend_58 rfl rfl ?_
  refine z_iald (n := 3) (j := x1.toNatClampNeg) (v := ((z_it (fun (kk9 : Nat) (T9 : z_S) => rg_M_mend_6i_S1 T9 x0 x1 x2 kk9) (4 * kq) 4 S).1 41 0 x1.toNatClampNeg)) hF hG z_o41 (z_c41 C ad _ _ _) rfl hh rfl d_M_mend_59 ?_
  refine lv_iconst (v := 1) hx hb d_M_mend_60 z_k1 ?_
  refine lv_iadd hx hb d_M_mend_61 ?_
  refine z_iast (n := 3) (j := x1.toNatClampNeg) hF hG z_o41 (fun f g => z_c41 C ad f g _) rfl hh d_M_mend_62 (fun H locs hG => ?_)
  exact z_vret hF hr hlk hG rfl d_M_mend_63
theorem om_s41 {T : z_S} {j : Nat} {v : Int32} (h : z_Om T) : z_Om (z_sI T 41 0 j v) := h.of rfl rfl rfl rfl rfl rfl rfl
theorem om_M_mend {S : z_S} {p h f : Int32} {q : Nat} (hom : z_Om S) : z_Om (g_M_mend S p h f q) := by
  have hP := z_it_inv (P := z_Om) (f := fun (kk9 : Nat) (T9 : z_S) => rg_M_mend_6i_S1 T9 p h f kk9) (fun k T hT => hT.of rfl rfl rfl rfl rfl rfl rfl) (n := 4) (k := 4 * q) hom
  unfold g_M_mend
  exact om_s41 hP
