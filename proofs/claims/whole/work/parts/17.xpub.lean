def f_X_deposit (S : z_S) (x0 : Int32) (x1 : Int32) : Int32 := (if (f_X_isDeposit x0) = 0 then (-1) else (if x1 < 1 then (-1) else (if x1 ≤ 16 then (if 0 < (S.1 2 0 x0.toNatClampNeg) then (-2) else (if (f_X_allHousesOpen S) = 0 then (-2) else (x1 * 4))) else (-1))))
def g_X_deposit (S : z_S) (x0 : Int32) (x1 : Int32) (x2 : Int32) : z_S := (if (f_X_isDeposit x0) = 0 then S else (if x1 < 1 then S else (if x1 ≤ 16 then (if 0 < (S.1 2 0 x0.toNatClampNeg) then S else (if (f_X_allHousesOpen S) = 0 then S else (g_H_receive (g_H_receive (g_H_receive (z_sI S 2 0 x0.toNatClampNeg x1) 0 x0 x2 (4 * x1.toNatClampNeg)) 1 x0 x2 (4 * x1.toNatClampNeg)) 2 x0 x2 (4 * x1.toNatClampNeg)))) else S)))
set_option maxHeartbeats 4000000 in
set_option maxRecDepth 100000 in
theorem c_X_deposit (l : Launch) (D : va_G) (C : Nat → ClassId) (ad : Nat → Nat → Nat) (hJ : z_J ad) (S : z_S) (x0 : Int32) (x1 : Int32) (x2 : Int32)  : z_M l y_X_deposit b_X_deposit 5 (some .int) rm_X_deposit D C ad [.ref (ad 0 0), .int x0, .int x1, .int x2] S (z_Qi D C ad (f_X_deposit S x0 x1) (g_X_deposit S x0 x1 x2)) := by
  refine z_enter (by decide) (Nat.le_of_ble_eq_true rfl) hJ ?_
  intro p e s m below meth c ls hF hr hlk hl hG
  obtain ⟨hx, hb, hml, hown, hts⟩ := hF.1
  have hl : lv_has ls 5 [(0, .ref (ad 0 0)), (1, .int x0), (2, .int x1), (3, .int x2)] := hl
  refine lv_iload_n hx hb d_X_deposit_0 rfl (lv_at hl 1 rfl) ?_
  refine kc_X_51 hF (c_X_isDeposit l D C ad hF.2.2 _ _ ) hG ⟨Nat.le_of_ble_eq_true rfl, Nat.le_of_ble_eq_true rfl⟩ ⟨Nat.zero_le _, Nat.zero_le _⟩ hl.1 (Nat.le_of_ble_eq_true rfl) d_X_deposit_1 (fun H locs hG => ?_)
  refine lv_if_eq (tgt := 18) hx hb d_X_deposit_4 rfl (fun h4 => ?_) (fun h4 => ?_)
  ·
    refine lv_iconst (v := (-1)) hx hb d_X_deposit_18 z_km1 ?_
    exact z_iret hF hr hlk hG (Eq.symm ((if_pos h4).trans rfl)) (Eq.symm ((if_pos h4).trans rfl)) d_X_deposit_19
  ·
    refine lv_iload_n hx hb d_X_deposit_7 rfl (lv_at hl 2 rfl) ?_
    refine lv_iconst (v := 1) hx hb d_X_deposit_8 z_k1 ?_
    refine lv_icmp_lt (tgt := 18) hx hb d_X_deposit_9 rfl (fun h9 => ?_) (fun h9 => ?_)
    ·
      refine lv_iconst (v := (-1)) hx hb d_X_deposit_18 z_km1 ?_
      exact z_iret hF hr hlk hG (Eq.symm ((if_neg h4).trans ((if_pos h9).trans rfl))) (Eq.symm ((if_neg h4).trans ((if_pos h9).trans rfl))) d_X_deposit_19
    ·
      refine lv_iload_n hx hb d_X_deposit_12 rfl (lv_at hl 2 rfl) ?_
      refine lv_bipush (v := 16) hx hb d_X_deposit_13 z_bi16 ?_
      refine lv_icmp_le (tgt := 20) hx hb d_X_deposit_15 rfl (fun h15 => ?_) (fun h15 => ?_)
      ·
        refine lv_aload_n hx hb d_X_deposit_20 rfl (lv_at hl 0 rfl) ?_
        refine gf_X_15_0 hF hG d_X_deposit_21 ?_
        refine lv_iload_n hx hb d_X_deposit_24 rfl (lv_at hl 1 rfl) ?_
        refine z_iald (n := 6) (j := x0.toNatClampNeg) (v := (S.1 2 0 x0.toNatClampNeg)) hF hG z_o2 (z_c2 C ad _ _ _) rfl (z_dep h4) rfl d_X_deposit_25 ?_
        refine lv_if_gt (tgt := 36) hx hb d_X_deposit_26 rfl (fun h26 => ?_) (fun h26 => ?_)
        ·
          refine lv_bipush (v := (-2)) hx hb d_X_deposit_36 z_bim2 ?_
          exact z_iret hF hr hlk hG (Eq.symm ((if_neg h4).trans ((if_neg h9).trans ((if_pos h15).trans ((if_pos h26).trans rfl))))) (Eq.symm ((if_neg h4).trans ((if_neg h9).trans ((if_pos h15).trans ((if_pos h26).trans rfl))))) d_X_deposit_38
        ·
          refine lv_aload_n hx hb d_X_deposit_29 rfl (lv_at hl 0 rfl) ?_
          refine kc_X_55 hF (c_X_allHousesOpen l D C ad hF.2.2 _ ) hG ⟨Nat.le_of_ble_eq_true rfl, Nat.le_of_ble_eq_true rfl⟩ ⟨Nat.zero_le _, Nat.zero_le _⟩ hl.1 (Nat.le_of_ble_eq_true rfl) d_X_deposit_30 (fun H locs hG => ?_)
          refine lv_if_ne (tgt := 39) hx hb d_X_deposit_33 rfl (fun h33 => ?_) (fun h33 => ?_)
          ·
            refine lv_aload_n hx hb d_X_deposit_39 rfl (lv_at hl 0 rfl) ?_
            refine gf_X_15_0 hF hG d_X_deposit_40 ?_
            refine lv_iload_n hx hb d_X_deposit_43 rfl (lv_at hl 1 rfl) ?_
            refine lv_iload_n hx hb d_X_deposit_44 rfl (lv_at hl 2 rfl) ?_
            refine z_iast (n := 6) (j := x0.toNatClampNeg) hF hG z_o2 (fun f g => z_c2 C ad f g _) rfl (z_dep h4) d_X_deposit_45 (fun H locs hG => ?_)
            refine lv_iconst (v := 0) hx hb d_X_deposit_46 z_k0 ?_
            refine lv_istore (lv' := [(4, .int 0), (0, .ref (ad 0 0)), (1, .int x0), (2, .int x1), (3, .int x2)]) hx hb d_X_deposit_47 hl (Nat.le_of_ble_eq_true rfl) rfl (fun ls hl => ?_)
            refine lv_iload hx hb d_X_deposit_49 (lv_at hl 0 rfl) ?_
            refine lv_iconst (v := 3) hx hb d_X_deposit_51 z_k3 ?_
            refine lv_icmp_ge (tgt := 74) hx hb d_X_deposit_52 rfl (fun h => absurd h (by decide)) (fun _ => ?_)
            refine lv_aload_n hx hb d_X_deposit_55 rfl (lv_at hl 1 rfl) ?_
            refine gf_X_11_0 hF hG d_X_deposit_56 ?_
            refine lv_iload hx hb d_X_deposit_59 (lv_at hl 0 rfl) ?_
            refine z_aald (n := 3) (K := 3) (t0 := 3) (Cn := R_H) (j := 0) (v := ad 12 0) hF hG z_o1 (z_c1 C ad _ _ _) rfl z_q0 z_in0_3 rfl d_X_deposit_61 ?_
            refine lv_iload_n hx hb d_X_deposit_62 rfl (lv_at hl 2 rfl) ?_
            refine lv_iload_n hx hb d_X_deposit_63 rfl (lv_at hl 3 rfl) ?_
            refine lv_iload_n hx hb d_X_deposit_64 rfl (lv_at hl 4 rfl) ?_
            refine kc_X_59 hF (c_H_receive l D C ad hF.2.2 (z_sI S 2 0 x0.toNatClampNeg x1) _ z_o12_0 _ _ _ (4 * x1.toNatClampNeg) (z_de1 h9 h15) (z_de2 h9 h15) (z_de3 h9 h15 (z_dep h4))) hG z_o12_0 ⟨Nat.le_of_ble_eq_true rfl, Nat.le_of_ble_eq_true rfl⟩ ⟨Nat.zero_le _, Nat.zero_le _⟩ hl.1 (Nat.le_of_ble_eq_true rfl) d_X_deposit_65 (fun H locs hG => ?_)
            refine lv_iinc (k := 0) (v := 1) (lv' := [(4, .int 1), (0, .ref (ad 0 0)), (1, .int x0), (2, .int x1), (3, .int x2)]) hx hb d_X_deposit_68 hl rfl (by decide) (Nat.le_of_ble_eq_true rfl) rfl (fun ls hl => ?_)
            refine lv_goto (tgt := 49) hx hb d_X_deposit_71 rfl ?_
            refine lv_iload hx hb d_X_deposit_49 (lv_at hl 0 rfl) ?_
            refine lv_iconst (v := 3) hx hb d_X_deposit_51 z_k3 ?_
            refine lv_icmp_ge (tgt := 74) hx hb d_X_deposit_52 rfl (fun h => absurd h (by decide)) (fun _ => ?_)
            refine lv_aload_n hx hb d_X_deposit_55 rfl (lv_at hl 1 rfl) ?_
            refine gf_X_11_0 hF hG d_X_deposit_56 ?_
            refine lv_iload hx hb d_X_deposit_59 (lv_at hl 0 rfl) ?_
            refine z_aald (n := 3) (K := 3) (t0 := 3) (Cn := R_H) (j := 1) (v := ad 12 1) hF hG z_o1 (z_c1 C ad _ _ _) rfl z_q1 z_in1_3 rfl d_X_deposit_61 ?_
            refine lv_iload_n hx hb d_X_deposit_62 rfl (lv_at hl 2 rfl) ?_
            refine lv_iload_n hx hb d_X_deposit_63 rfl (lv_at hl 3 rfl) ?_
            refine lv_iload_n hx hb d_X_deposit_64 rfl (lv_at hl 4 rfl) ?_
            refine kc_X_59 hF (c_H_receive l D C ad hF.2.2 (g_H_receive (z_sI S 2 0 x0.toNatClampNeg x1) 0 x0 x2 (4 * x1.toNatClampNeg)) _ z_o12_1 _ _ _ (4 * x1.toNatClampNeg) (z_de1 h9 h15) (z_de2 h9 h15) (z_de3 h9 h15 (z_dep h4))) hG z_o12_1 ⟨Nat.le_of_ble_eq_true rfl, Nat.le_of_ble_eq_true rfl⟩ ⟨Nat.zero_le _, Nat.zero_le _⟩ hl.1 (Nat.le_of_ble_eq_true rfl) d_X_deposit_65 (fun H locs hG => ?_)
            refine lv_iinc (k := 0) (v := 2) (lv' := [(4, .int 2), (0, .ref (ad 0 0)), (1, .int x0), (2, .int x1), (3, .int x2)]) hx hb d_X_deposit_68 hl rfl (by decide) (Nat.le_of_ble_eq_true rfl) rfl (fun ls hl => ?_)
            refine lv_goto (tgt := 49) hx hb d_X_deposit_71 rfl ?_
            refine lv_iload hx hb d_X_deposit_49 (lv_at hl 0 rfl) ?_
            refine lv_iconst (v := 3) hx hb d_X_deposit_51 z_k3 ?_
            refine lv_icmp_ge (tgt := 74) hx hb d_X_deposit_52 rfl (fun h => absurd h (by decide)) (fun _ => ?_)
            refine lv_aload_n hx hb d_X_deposit_55 rfl (lv_at hl 1 rfl) ?_
            refine gf_X_11_0 hF hG d_X_deposit_56 ?_
            refine lv_iload hx hb d_X_deposit_59 (lv_at hl 0 rfl) ?_
            refine z_aald (n := 3) (K := 3) (t0 := 3) (Cn := R_H) (j := 2) (v := ad 12 2) hF hG z_o1 (z_c1 C ad _ _ _) rfl z_q2 z_in2_3 rfl d_X_deposit_61 ?_
            refine lv_iload_n hx hb d_X_deposit_62 rfl (lv_at hl 2 rfl) ?_
            refine lv_iload_n hx hb d_X_deposit_63 rfl (lv_at hl 3 rfl) ?_
            refine lv_iload_n hx hb d_X_deposit_64 rfl (lv_at hl 4 rfl) ?_
            refine kc_X_59 hF (c_H_receive l D C ad hF.2.2 (g_H_receive (g_H_receive (z_sI S 2 0 x0.toNatClampNeg x1) 0 x0 x2 (4 * x1.toNatClampNeg)) 1 x0 x2 (4 * x1.toNatClampNeg)) _ z_o12_2 _ _ _ (4 * x1.toNatClampNeg) (z_de1 h9 h15) (z_de2 h9 h15) (z_de3 h9 h15 (z_dep h4))) hG z_o12_2 ⟨Nat.le_of_ble_eq_true rfl, Nat.le_of_ble_eq_true rfl⟩ ⟨Nat.zero_le _, Nat.zero_le _⟩ hl.1 (Nat.le_of_ble_eq_true rfl) d_X_deposit_65 (fun H locs hG => ?_)
            refine lv_iinc (k := 0) (v := 3) (lv' := [(4, .int 3), (0, .ref (ad 0 0)), (1, .int x0), (2, .int x1), (3, .int x2)]) hx hb d_X_deposit_68 hl rfl (by decide) (Nat.le_of_ble_eq_true rfl) rfl (fun ls hl => ?_)
            refine lv_goto (tgt := 49) hx hb d_X_deposit_71 rfl ?_
            refine lv_iload hx hb d_X_deposit_49 (lv_at hl 0 rfl) ?_
            refine lv_iconst (v := 3) hx hb d_X_deposit_51 z_k3 ?_
            refine lv_icmp_ge (tgt := 74) hx hb d_X_deposit_52 rfl (fun _ => ?_) (fun h => absurd h (by decide))
            refine lv_iload_n hx hb d_X_deposit_74 rfl (lv_at hl 3 rfl) ?_
            refine lv_iconst (v := 4) hx hb d_X_deposit_75 z_k4 ?_
            refine lv_imul hx hb d_X_deposit_76 ?_
            exact z_iret hF hr hlk hG (Eq.symm ((if_neg h4).trans ((if_neg h9).trans ((if_pos h15).trans ((if_neg h26).trans ((if_neg h33).trans rfl)))))) (Eq.symm ((if_neg h4).trans ((if_neg h9).trans ((if_pos h15).trans ((if_neg h26).trans ((if_neg h33).trans rfl)))))) d_X_deposit_77
          ·
            refine lv_bipush (v := (-2)) hx hb d_X_deposit_36 z_bim2 ?_
            exact z_iret hF hr hlk hG (Eq.symm ((if_neg h4).trans ((if_neg h9).trans ((if_pos h15).trans ((if_neg h26).trans ((if_pos h33).trans rfl)))))) (Eq.symm ((if_neg h4).trans ((if_neg h9).trans ((if_pos h15).trans ((if_neg h26).trans ((if_pos h33).trans rfl)))))) d_X_deposit_38
      ·
        refine lv_iconst (v := (-1)) hx hb d_X_deposit_18 z_km1 ?_
        exact z_iret hF hr hlk hG (Eq.symm ((if_neg h4).trans ((if_neg h9).trans ((if_neg h15).trans rfl)))) (Eq.symm ((if_neg h4).trans ((if_neg h9).trans ((if_neg h15).trans rfl)))) d_X_deposit_19
def f_X_blocks (S : z_S) (x0 : Int32) : Int32 := (if (f_X_isDeposit x0) = 0 then 0 else (S.1 2 0 x0.toNatClampNeg))
set_option maxHeartbeats 4000000 in
set_option maxRecDepth 100000 in
theorem c_X_blocks (l : Launch) (D : va_G) (C : Nat → ClassId) (ad : Nat → Nat → Nat) (hJ : z_J ad) (S : z_S) (x0 : Int32)  : z_M l y_X_blocks b_X_blocks 2 (some .int) rm_X_blocks D C ad [.ref (ad 0 0), .int x0] S (z_Qi D C ad (f_X_blocks S x0) S) := by
  refine z_enter (by decide) (Nat.le_of_ble_eq_true rfl) hJ ?_
  intro p e s m below meth c ls hF hr hlk hl hG
  obtain ⟨hx, hb, hml, hown, hts⟩ := hF.1
  have hl : lv_has ls 2 [(0, .ref (ad 0 0)), (1, .int x0)] := hl
  refine lv_iload_n hx hb d_X_blocks_0 rfl (lv_at hl 1 rfl) ?_
  refine kc_X_51 hF (c_X_isDeposit l D C ad hF.2.2 _ _ ) hG ⟨Nat.le_of_ble_eq_true rfl, Nat.le_of_ble_eq_true rfl⟩ ⟨Nat.zero_le _, Nat.zero_le _⟩ hl.1 (Nat.le_of_ble_eq_true rfl) d_X_blocks_1 (fun H locs hG => ?_)
  refine lv_if_eq (tgt := 16) hx hb d_X_blocks_4 rfl (fun h4 => ?_) (fun h4 => ?_)
  ·
    refine lv_iconst (v := 0) hx hb d_X_blocks_16 z_k0 ?_
    exact z_iret hF hr hlk hG (Eq.symm ((if_pos h4).trans rfl)) rfl d_X_blocks_17
  ·
    refine lv_aload_n hx hb d_X_blocks_7 rfl (lv_at hl 0 rfl) ?_
    refine gf_X_15_0 hF hG d_X_blocks_8 ?_
    refine lv_iload_n hx hb d_X_blocks_11 rfl (lv_at hl 1 rfl) ?_
    refine z_iald (n := 6) (j := x0.toNatClampNeg) (v := (S.1 2 0 x0.toNatClampNeg)) hF hG z_o2 (z_c2 C ad _ _ _) rfl (z_dep h4) rfl d_X_blocks_12 ?_
    refine lv_goto (tgt := 17) hx hb d_X_blocks_13 rfl ?_
    exact z_iret hF hr hlk hG (Eq.symm ((if_neg h4).trans rfl)) rfl d_X_blocks_17
def f_X_at (S : z_S) (x0 : Int32) (x1 : Int32) (x2 : Int32) : Int32 := (if (f_X_isHouse x0) = 0 then (-1) else (if (f_X_isByte S x1 x2) = 0 then (-1) else (f_H_byteOf S x0.toNatClampNeg x1 x2)))
set_option maxHeartbeats 4000000 in
set_option maxRecDepth 100000 in
theorem c_X_at (l : Launch) (D : va_G) (C : Nat → ClassId) (ad : Nat → Nat → Nat) (hJ : z_J ad) (S : z_S) (x0 : Int32) (x1 : Int32) (x2 : Int32) (hok : z_Ok S) : z_M l y_X_at b_X_at 4 (some .int) rm_X_at D C ad [.ref (ad 0 0), .int x0, .int x1, .int x2] S (z_Qi D C ad (f_X_at S x0 x1 x2) S) := by
  refine z_enter (by decide) (Nat.le_of_ble_eq_true rfl) hJ ?_
  intro p e s m below meth c ls hF hr hlk hl hG
  obtain ⟨hx, hb, hml, hown, hts⟩ := hF.1
  have hl : lv_has ls 4 [(0, .ref (ad 0 0)), (1, .int x0), (2, .int x1), (3, .int x2)] := hl
  refine lv_iload_n hx hb d_X_at_0 rfl (lv_at hl 1 rfl) ?_
  refine kc_X_63 hF (c_X_isHouse l D C ad hF.2.2 _ _ ) hG ⟨Nat.le_of_ble_eq_true rfl, Nat.le_of_ble_eq_true rfl⟩ ⟨Nat.zero_le _, Nat.zero_le _⟩ hl.1 (Nat.le_of_ble_eq_true rfl) d_X_at_1 (fun H locs hG => ?_)
  refine lv_if_eq (tgt := 30) hx hb d_X_at_4 rfl (fun h4 => ?_) (fun h4 => ?_)
  ·
    refine lv_iconst (v := (-1)) hx hb d_X_at_30 z_km1 ?_
    exact z_iret hF hr hlk hG (Eq.symm ((if_pos h4).trans rfl)) rfl d_X_at_31
  ·
    refine lv_aload_n hx hb d_X_at_7 rfl (lv_at hl 0 rfl) ?_
    refine lv_iload_n hx hb d_X_at_8 rfl (lv_at hl 2 rfl) ?_
    refine lv_iload_n hx hb d_X_at_9 rfl (lv_at hl 3 rfl) ?_
    refine kc_X_66 hF (c_X_isByte l D C ad hF.2.2 _ _ _ ) hG ⟨Nat.le_of_ble_eq_true rfl, Nat.le_of_ble_eq_true rfl⟩ ⟨Nat.zero_le _, Nat.zero_le _⟩ hl.1 (Nat.le_of_ble_eq_true rfl) d_X_at_10 (fun H locs hG => ?_)
    refine lv_if_eq (tgt := 30) hx hb d_X_at_13 rfl (fun h13 => ?_) (fun h13 => ?_)
    ·
      refine lv_iconst (v := (-1)) hx hb d_X_at_30 z_km1 ?_
      exact z_iret hF hr hlk hG (Eq.symm ((if_neg h4).trans ((if_pos h13).trans rfl))) rfl d_X_at_31
    ·
      refine lv_aload_n hx hb d_X_at_16 rfl (lv_at hl 0 rfl) ?_
      refine gf_X_11_0 hF hG d_X_at_17 ?_
      refine lv_iload_n hx hb d_X_at_20 rfl (lv_at hl 1 rfl) ?_
      have ho21 : x0.toNatClampNeg < z_n 12 := z_lt (n := 3) (z_hou h4)
      refine z_aald (n := 3) (K := 3) (t0 := 3) (Cn := R_H) (j := x0.toNatClampNeg) (v := ad 12 x0.toNatClampNeg) hF hG z_o1 (z_c1 C ad _ _ _) rfl rfl (z_hou h4) rfl d_X_at_21 ?_
      refine lv_iload_n hx hb d_X_at_22 rfl (lv_at hl 2 rfl) ?_
      refine lv_iload_n hx hb d_X_at_23 rfl (lv_at hl 3 rfl) ?_
      refine kc_X_70 hF (c_H_byteOf l D C ad hF.2.2 _ _ ho21 _ _ (z_byt hok h13)) hG ho21 ⟨Nat.le_of_ble_eq_true rfl, Nat.le_of_ble_eq_true rfl⟩ ⟨Nat.zero_le _, Nat.zero_le _⟩ hl.1 (Nat.le_of_ble_eq_true rfl) d_X_at_24 (fun H locs hG => ?_)
      refine lv_goto (tgt := 31) hx hb d_X_at_27 rfl ?_
      exact z_iret hF hr hlk hG (Eq.symm ((if_neg h4).trans ((if_neg h13).trans rfl))) rfl d_X_at_31
def f_X_damage (S : z_S) (x0 : Int32) (x1 : Int32) (x2 : Int32) (x3 : Int32) : Int32 := (if (f_X_isHouse x0) = 0 then (-1) else (if (f_X_isByte S x1 x2) = 0 then (-1) else (f_H_byteOf (g_H_flip S x0.toNatClampNeg x1 x2 (x3 &&& 255)) x0.toNatClampNeg x1 x2)))
def g_X_damage (S : z_S) (x0 : Int32) (x1 : Int32) (x2 : Int32) (x3 : Int32) : z_S := (if (f_X_isHouse x0) = 0 then S else (if (f_X_isByte S x1 x2) = 0 then S else (g_H_flip S x0.toNatClampNeg x1 x2 (x3 &&& 255))))
set_option maxHeartbeats 4000000 in
set_option maxRecDepth 100000 in
theorem c_X_damage (l : Launch) (D : va_G) (C : Nat → ClassId) (ad : Nat → Nat → Nat) (hJ : z_J ad) (S : z_S) (x0 : Int32) (x1 : Int32) (x2 : Int32) (x3 : Int32) (hok : z_Ok S) : z_M l y_X_damage b_X_damage 5 (some .int) rm_X_damage D C ad [.ref (ad 0 0), .int x0, .int x1, .int x2, .int x3] S (z_Qi D C ad (f_X_damage S x0 x1 x2 x3) (g_X_damage S x0 x1 x2 x3)) := by
  refine z_enter (by decide) (Nat.le_of_ble_eq_true rfl) hJ ?_
  intro p e s m below meth c ls hF hr hlk hl hG
  obtain ⟨hx, hb, hml, hown, hts⟩ := hF.1
  have hl : lv_has ls 5 [(0, .ref (ad 0 0)), (1, .int x0), (2, .int x1), (3, .int x2), (4, .int x3)] := hl
  refine lv_iload_n hx hb d_X_damage_0 rfl (lv_at hl 1 rfl) ?_
  refine kc_X_63 hF (c_X_isHouse l D C ad hF.2.2 _ _ ) hG ⟨Nat.le_of_ble_eq_true rfl, Nat.le_of_ble_eq_true rfl⟩ ⟨Nat.zero_le _, Nat.zero_le _⟩ hl.1 (Nat.le_of_ble_eq_true rfl) d_X_damage_1 (fun H locs hG => ?_)
  refine lv_if_eq (tgt := 16) hx hb d_X_damage_4 rfl (fun h4 => ?_) (fun h4 => ?_)
  ·
    refine lv_iconst (v := (-1)) hx hb d_X_damage_16 z_km1 ?_
    exact z_iret hF hr hlk hG (Eq.symm ((if_pos h4).trans rfl)) (Eq.symm ((if_pos h4).trans rfl)) d_X_damage_17
  ·
    refine lv_aload_n hx hb d_X_damage_7 rfl (lv_at hl 0 rfl) ?_
    refine lv_iload_n hx hb d_X_damage_8 rfl (lv_at hl 2 rfl) ?_
    refine lv_iload_n hx hb d_X_damage_9 rfl (lv_at hl 3 rfl) ?_
    refine kc_X_66 hF (c_X_isByte l D C ad hF.2.2 _ _ _ ) hG ⟨Nat.le_of_ble_eq_true rfl, Nat.le_of_ble_eq_true rfl⟩ ⟨Nat.zero_le _, Nat.zero_le _⟩ hl.1 (Nat.le_of_ble_eq_true rfl) d_X_damage_10 (fun H locs hG => ?_)
    refine lv_if_ne (tgt := 18) hx hb d_X_damage_13 rfl (fun h13 => ?_) (fun h13 => ?_)
    ·
      refine lv_aload_n hx hb d_X_damage_18 rfl (lv_at hl 0 rfl) ?_
      refine gf_X_11_0 hF hG d_X_damage_19 ?_
      refine lv_iload_n hx hb d_X_damage_22 rfl (lv_at hl 1 rfl) ?_
      have ho23 : x0.toNatClampNeg < z_n 12 := z_lt (n := 3) (z_hou h4)
      refine z_aald (n := 3) (K := 3) (t0 := 3) (Cn := R_H) (j := x0.toNatClampNeg) (v := ad 12 x0.toNatClampNeg) hF hG z_o1 (z_c1 C ad _ _ _) rfl rfl (z_hou h4) rfl d_X_damage_23 ?_
      refine lv_iload_n hx hb d_X_damage_24 rfl (lv_at hl 2 rfl) ?_
      refine lv_iload_n hx hb d_X_damage_25 rfl (lv_at hl 3 rfl) ?_
      refine lv_iload hx hb d_X_damage_26 (lv_at hl 4 rfl) ?_
      refine lv_sipush (v := 255) hx hb d_X_damage_28 z_si255 ?_
      refine lv_iand hx hb d_X_damage_31 ?_
      refine kc_X_74 hF (c_H_flip l D C ad hF.2.2 _ _ ho23 _ _ _ (z_byt hok h13)) hG ho23 ⟨Nat.le_of_ble_eq_true rfl, Nat.le_of_ble_eq_true rfl⟩ ⟨Nat.zero_le _, Nat.zero_le _⟩ hl.1 (Nat.le_of_ble_eq_true rfl) d_X_damage_32 (fun H locs hG => ?_)
      refine lv_aload_n hx hb d_X_damage_35 rfl (lv_at hl 0 rfl) ?_
      refine gf_X_11_0 hF hG d_X_damage_36 ?_
      refine lv_iload_n hx hb d_X_damage_39 rfl (lv_at hl 1 rfl) ?_
      have ho40 : x0.toNatClampNeg < z_n 12 := z_lt (n := 3) (z_hou h4)
      refine z_aald (n := 3) (K := 3) (t0 := 3) (Cn := R_H) (j := x0.toNatClampNeg) (v := ad 12 x0.toNatClampNeg) hF hG z_o1 (z_c1 C ad _ _ _) rfl rfl (z_hou h4) rfl d_X_damage_40 ?_
      refine lv_iload_n hx hb d_X_damage_41 rfl (lv_at hl 2 rfl) ?_
      refine lv_iload_n hx hb d_X_damage_42 rfl (lv_at hl 3 rfl) ?_
      refine kc_X_70 hF (c_H_byteOf l D C ad hF.2.2 (g_H_flip S x0.toNatClampNeg x1 x2 (x3 &&& 255)) _ ho40 _ _ (z_byt hok h13)) hG ho40 ⟨Nat.le_of_ble_eq_true rfl, Nat.le_of_ble_eq_true rfl⟩ ⟨Nat.zero_le _, Nat.zero_le _⟩ hl.1 (Nat.le_of_ble_eq_true rfl) d_X_damage_43 (fun H locs hG => ?_)
      exact z_iret hF hr hlk hG (Eq.symm ((if_neg h4).trans ((if_neg h13).trans rfl))) (Eq.symm ((if_neg h4).trans ((if_neg h13).trans rfl))) d_X_damage_46
    ·
      refine lv_iconst (v := (-1)) hx hb d_X_damage_16 z_km1 ?_
      exact z_iret hF hr hlk hG (Eq.symm ((if_neg h4).trans ((if_pos h13).trans rfl))) (Eq.symm ((if_neg h4).trans ((if_pos h13).trans rfl))) d_X_damage_17
def f_X_sum (S : z_S) (x0 : Int32) (x1 : Int32) (x2 : Int32) (x3 : Int64) : Int64 := (if (f_X_isHouse x0) = 0 then 0 else (if (f_X_isPart x2) = 0 then 0 else (if (f_X_isDeposit x1) = 0 then 0 else (if (S.1 2 0 x1.toNatClampNeg) = 0 then 0 else (f_H_sumOfPart S x0.toNatClampNeg x1 x2 (S.1 2 0 x1.toNatClampNeg) x3)))))
set_option maxHeartbeats 4000000 in
set_option maxRecDepth 100000 in
theorem c_X_sum (l : Launch) (D : va_G) (C : Nat → ClassId) (ad : Nat → Nat → Nat) (hJ : z_J ad) (S : z_S) (x0 : Int32) (x1 : Int32) (x2 : Int32) (x3 : Int64) (hok : z_Ok S) : z_M l y_X_sum b_X_sum 6 (some .long) rm_X_sum D C ad [.ref (ad 0 0), .int x0, .int x1, .int x2, .long x3] S (z_Ql D C ad (f_X_sum S x0 x1 x2 x3) S) := by
  refine z_enter (by decide) (Nat.le_of_ble_eq_true rfl) hJ ?_
  intro p e s m below meth c ls hF hr hlk hl hG
  obtain ⟨hx, hb, hml, hown, hts⟩ := hF.1
  have hl : lv_has ls 6 [(0, .ref (ad 0 0)), (1, .int x0), (2, .int x1), (3, .int x2), (4, .long x3)] := hl
  refine lv_iload_n hx hb d_X_sum_0 rfl (lv_at hl 1 rfl) ?_
  refine kc_X_63 hF (c_X_isHouse l D C ad hF.2.2 _ _ ) hG ⟨Nat.le_of_ble_eq_true rfl, Nat.le_of_ble_eq_true rfl⟩ ⟨Nat.zero_le _, Nat.zero_le _⟩ hl.1 (Nat.le_of_ble_eq_true rfl) d_X_sum_1 (fun H locs hG => ?_)
  refine lv_if_eq (tgt := 30) hx hb d_X_sum_4 rfl (fun h4 => ?_) (fun h4 => ?_)
  ·
    refine lv_lconst (v := 0) hx hb d_X_sum_30 rfl ?_
    exact z_lret hF hr hlk hG (Eq.symm ((if_pos h4).trans rfl)) rfl d_X_sum_31
  ·
    refine lv_iload_n hx hb d_X_sum_7 rfl (lv_at hl 3 rfl) ?_
    refine kc_X_77 hF (c_X_isPart l D C ad hF.2.2 _ _ ) hG ⟨Nat.le_of_ble_eq_true rfl, Nat.le_of_ble_eq_true rfl⟩ ⟨Nat.zero_le _, Nat.zero_le _⟩ hl.1 (Nat.le_of_ble_eq_true rfl) d_X_sum_8 (fun H locs hG => ?_)
    refine lv_if_eq (tgt := 30) hx hb d_X_sum_11 rfl (fun h11 => ?_) (fun h11 => ?_)
    ·
      refine lv_lconst (v := 0) hx hb d_X_sum_30 rfl ?_
      exact z_lret hF hr hlk hG (Eq.symm ((if_neg h4).trans ((if_pos h11).trans rfl))) rfl d_X_sum_31
    ·
      refine lv_iload_n hx hb d_X_sum_14 rfl (lv_at hl 2 rfl) ?_
      refine kc_X_51 hF (c_X_isDeposit l D C ad hF.2.2 _ _ ) hG ⟨Nat.le_of_ble_eq_true rfl, Nat.le_of_ble_eq_true rfl⟩ ⟨Nat.zero_le _, Nat.zero_le _⟩ hl.1 (Nat.le_of_ble_eq_true rfl) d_X_sum_15 (fun H locs hG => ?_)
      refine lv_if_eq (tgt := 30) hx hb d_X_sum_18 rfl (fun h18 => ?_) (fun h18 => ?_)
      ·
        refine lv_lconst (v := 0) hx hb d_X_sum_30 rfl ?_
        exact z_lret hF hr hlk hG (Eq.symm ((if_neg h4).trans ((if_neg h11).trans ((if_pos h18).trans rfl)))) rfl d_X_sum_31
      ·
        refine lv_aload_n hx hb d_X_sum_21 rfl (lv_at hl 0 rfl) ?_
        refine gf_X_15_0 hF hG d_X_sum_22 ?_
        refine lv_iload_n hx hb d_X_sum_25 rfl (lv_at hl 2 rfl) ?_
        refine z_iald (n := 6) (j := x1.toNatClampNeg) (v := (S.1 2 0 x1.toNatClampNeg)) hF hG z_o2 (z_c2 C ad _ _ _) rfl (z_dep h18) rfl d_X_sum_26 ?_
        refine lv_if_ne (tgt := 32) hx hb d_X_sum_27 rfl (fun h27 => ?_) (fun h27 => ?_)
        ·
          refine lv_aload_n hx hb d_X_sum_32 rfl (lv_at hl 0 rfl) ?_
          refine gf_X_11_0 hF hG d_X_sum_33 ?_
          refine lv_iload_n hx hb d_X_sum_36 rfl (lv_at hl 1 rfl) ?_
          have ho37 : x0.toNatClampNeg < z_n 12 := z_lt (n := 3) (z_hou h4)
          refine z_aald (n := 3) (K := 3) (t0 := 3) (Cn := R_H) (j := x0.toNatClampNeg) (v := ad 12 x0.toNatClampNeg) hF hG z_o1 (z_c1 C ad _ _ _) rfl rfl (z_hou h4) rfl d_X_sum_37 ?_
          refine lv_iload_n hx hb d_X_sum_38 rfl (lv_at hl 2 rfl) ?_
          refine lv_iload_n hx hb d_X_sum_39 rfl (lv_at hl 3 rfl) ?_
          refine lv_aload_n hx hb d_X_sum_40 rfl (lv_at hl 0 rfl) ?_
          refine gf_X_15_0 hF hG d_X_sum_41 ?_
          refine lv_iload_n hx hb d_X_sum_44 rfl (lv_at hl 2 rfl) ?_
          refine z_iald (n := 6) (j := x1.toNatClampNeg) (v := (S.1 2 0 x1.toNatClampNeg)) hF hG z_o2 (z_c2 C ad _ _ _) rfl (z_dep h18) rfl d_X_sum_45 ?_
          refine lv_lload hx hb d_X_sum_46 (lv_at hl 4 rfl) ?_
          refine kc_X_80 hF (c_H_sumOfPart l D C ad hF.2.2 _ _ ho37 _ _ _ _ (z_dep h18) (z_par h11) (z_bcI hok (z_dep h18)).2) hG ho37 ⟨Nat.le_of_ble_eq_true rfl, Nat.le_of_ble_eq_true rfl⟩ ⟨Nat.zero_le _, Nat.zero_le _⟩ hl.1 (Nat.le_of_ble_eq_true rfl) d_X_sum_48 (fun H locs hG => ?_)
          exact z_lret hF hr hlk hG (Eq.symm ((if_neg h4).trans ((if_neg h11).trans ((if_neg h18).trans ((if_neg h27).trans rfl))))) rfl d_X_sum_51
        ·
          refine lv_lconst (v := 0) hx hb d_X_sum_30 rfl ?_
          exact z_lret hF hr hlk hG (Eq.symm ((if_neg h4).trans ((if_neg h11).trans ((if_neg h18).trans ((if_pos h27).trans rfl))))) rfl d_X_sum_31
def f_X_poll (S : z_S) (x0 : Int32) (x1 : Int32) (x2 : Int64) : Int32 := (if (f_X_isDeposit x0) = 0 then (-1) else (if (f_X_isPart x1) = 0 then (-1) else (if x1 < (S.1 2 0 x0.toNatClampNeg) then (z_opt (f_X_freePlace S) (-3) (fun i30 => (if (S.1 0 0 6) < 512 then ((g_X_sendToAwaited (g_P_begin (z_sI (z_sI S 0 0 6 ((S.1 0 0 6) + 1)) 9 0 (((S.1 0 0 6) + 1).toNatClampNeg) 0) i30 ((S.1 0 0 6) + 1) x0 x1 x2 (S.1 10 0 0)) i30).1 0 0 6) else (-3)))) else (-2))))
def g_X_poll (S : z_S) (x0 : Int32) (x1 : Int32) (x2 : Int64) : z_S := (if (f_X_isDeposit x0) = 0 then S else (if (f_X_isPart x1) = 0 then S else (if x1 < (S.1 2 0 x0.toNatClampNeg) then (z_opt (f_X_freePlace S) S (fun i30 => (if (S.1 0 0 6) < 512 then (g_X_sendToAwaited (g_P_begin (z_sI (z_sI S 0 0 6 ((S.1 0 0 6) + 1)) 9 0 (((S.1 0 0 6) + 1).toNatClampNeg) 0) i30 ((S.1 0 0 6) + 1) x0 x1 x2 (S.1 10 0 0)) i30) else S))) else S)))
set_option maxHeartbeats 4000000 in
set_option maxRecDepth 100000 in
theorem c_X_poll (l : Launch) (D : va_G) (C : Nat → ClassId) (ad : Nat → Nat → Nat) (hJ : z_J ad) (S : z_S) (x0 : Int32) (x1 : Int32) (x2 : Int64) (hok : z_Ok S) : z_M l y_X_poll b_X_poll 6 (some .int) rm_X_poll D C ad [.ref (ad 0 0), .int x0, .int x1, .long x2] S (z_Qi D C ad (f_X_poll S x0 x1 x2) (g_X_poll S x0 x1 x2)) := by
  refine z_enter (by decide) (Nat.le_of_ble_eq_true rfl) hJ ?_
  intro p e s m below meth c ls hF hr hlk hl hG
  obtain ⟨hx, hb, hml, hown, hts⟩ := hF.1
  have hl : lv_has ls 6 [(0, .ref (ad 0 0)), (1, .int x0), (2, .int x1), (3, .long x2)] := hl
  refine lv_iload_n hx hb d_X_poll_0 rfl (lv_at hl 1 rfl) ?_
  refine kc_X_51 hF (c_X_isDeposit l D C ad hF.2.2 _ _ ) hG ⟨Nat.le_of_ble_eq_true rfl, Nat.le_of_ble_eq_true rfl⟩ ⟨Nat.zero_le _, Nat.zero_le _⟩ hl.1 (Nat.le_of_ble_eq_true rfl) d_X_poll_1 (fun H locs hG => ?_)
  refine lv_if_eq (tgt := 14) hx hb d_X_poll_4 rfl (fun h4 => ?_) (fun h4 => ?_)
  ·
    refine lv_iconst (v := (-1)) hx hb d_X_poll_14 z_km1 ?_
    exact z_iret hF hr hlk hG (Eq.symm ((if_pos h4).trans rfl)) (Eq.symm ((if_pos h4).trans rfl)) d_X_poll_15
  ·
    refine lv_iload_n hx hb d_X_poll_7 rfl (lv_at hl 2 rfl) ?_
    refine kc_X_77 hF (c_X_isPart l D C ad hF.2.2 _ _ ) hG ⟨Nat.le_of_ble_eq_true rfl, Nat.le_of_ble_eq_true rfl⟩ ⟨Nat.zero_le _, Nat.zero_le _⟩ hl.1 (Nat.le_of_ble_eq_true rfl) d_X_poll_8 (fun H locs hG => ?_)
    refine lv_if_ne (tgt := 16) hx hb d_X_poll_11 rfl (fun h11 => ?_) (fun h11 => ?_)
    ·
      refine lv_iload_n hx hb d_X_poll_16 rfl (lv_at hl 2 rfl) ?_
      refine lv_aload_n hx hb d_X_poll_17 rfl (lv_at hl 0 rfl) ?_
      refine gf_X_15_0 hF hG d_X_poll_18 ?_
      refine lv_iload_n hx hb d_X_poll_21 rfl (lv_at hl 1 rfl) ?_
      refine z_iald (n := 6) (j := x0.toNatClampNeg) (v := (S.1 2 0 x0.toNatClampNeg)) hF hG z_o2 (z_c2 C ad _ _ _) rfl (z_dep h4) rfl d_X_poll_22 ?_
      refine lv_icmp_lt (tgt := 29) hx hb d_X_poll_23 rfl (fun h23 => ?_) (fun h23 => ?_)
      ·
        refine lv_aload_n hx hb d_X_poll_29 rfl (lv_at hl 0 rfl) ?_
        refine kc_X_84 hF (c_X_freePlace l D C ad hF.2.2 _ ) hG ⟨Nat.le_of_ble_eq_true rfl, Nat.le_of_ble_eq_true rfl⟩ ⟨Nat.zero_le _, Nat.zero_le _⟩ hl.1 (Nat.le_of_ble_eq_true rfl) d_X_poll_30 (fun H locs hG => ?_)
        cases h30 : (f_X_freePlace S) with
        | none =>
          refine W.eq (g2 := F0 m 33 ls (.null :: [])) rfl ?_
          refine lv_astoreN (lv' := [(5, .null), (0, .ref (ad 0 0)), (1, .int x0), (2, .int x1), (3, .long x2)]) hx hb d_X_poll_33 hl (Nat.le_of_ble_eq_true rfl) rfl (fun ls hl => ?_)
          refine lv_aloadN hx hb d_X_poll_35 (lv_at hl 0 rfl) ?_
          refine lv_ifnullN (tgt := 50) hx hb d_X_poll_37 rfl ?_
          refine lv_bipush (v := (-3)) hx hb d_X_poll_50 z_bim3 ?_
          exact z_iret hF hr hlk hG (Eq.symm ((if_neg h4).trans ((if_neg h11).trans ((if_pos h23).trans ((z_opt_n h30).trans rfl))))) (Eq.symm ((if_neg h4).trans ((if_neg h11).trans ((if_pos h23).trans ((z_opt_n h30).trans rfl))))) d_X_poll_52
        | some i30 =>
          have hi30 : i30 < z_n 14 := lt_X_freePlace h30
          refine W.eq (g2 := F0 m 33 ls (.ref (ad 14 i30) :: [])) rfl ?_
          refine lv_astore (lv' := [(5, .ref (ad 14 i30)), (0, .ref (ad 0 0)), (1, .int x0), (2, .int x1), (3, .long x2)]) hx hb d_X_poll_33 hl (Nat.le_of_ble_eq_true rfl) rfl (fun ls hl => ?_)
          refine lv_aload hx hb d_X_poll_35 (lv_at hl 0 rfl) ?_
          refine lv_ifnull hx hb d_X_poll_37 ?_
          refine lv_aload_n hx hb d_X_poll_40 rfl (lv_at hl 1 rfl) ?_
          refine gf_X_42_0 hF hG (v := (S.1 0 0 6)) rfl d_X_poll_41 ?_
          refine lv_sipush (v := 512) hx hb d_X_poll_44 z_si512 ?_
          refine lv_icmp_lt (tgt := 53) hx hb d_X_poll_47 rfl (fun h47 => ?_) (fun h47 => ?_)
          ·
            refine lv_aload_n hx hb d_X_poll_53 rfl (lv_at hl 1 rfl) ?_
            refine lv_dup hx hb d_X_poll_54 rfl ?_
            refine gf_X_42_0 hF hG (v := (S.1 0 0 6)) rfl d_X_poll_55 ?_
            refine lv_iconst (v := 1) hx hb d_X_poll_58 z_k1 ?_
            refine lv_iadd hx hb d_X_poll_59 ?_
            refine pf_X_42_0 hF hG d_X_poll_60 (fun H locs hG => ?_)
            refine lv_aload_n hx hb d_X_poll_63 rfl (lv_at hl 1 rfl) ?_
            refine gf_X_32_0 hF hG d_X_poll_64 ?_
            refine lv_aload_n hx hb d_X_poll_67 rfl (lv_at hl 1 rfl) ?_
            refine gf_X_42_0 hF hG (v := ((S.1 0 0 6) + 1)) rfl d_X_poll_68 ?_
            refine lv_iconst (v := 0) hx hb d_X_poll_71 z_k0 ?_
            refine z_iast (n := 513) (j := ((S.1 0 0 6) + 1).toNatClampNeg) hF hG z_o9 (fun f g => z_c9 C ad f g _) rfl (z_pc1 hok h47) d_X_poll_72 (fun H locs hG => ?_)
            refine lv_aload hx hb d_X_poll_73 (lv_at hl 0 rfl) ?_
            refine lv_aload_n hx hb d_X_poll_75 rfl (lv_at hl 1 rfl) ?_
            refine gf_X_42_0 hF hG (v := ((S.1 0 0 6) + 1)) rfl d_X_poll_76 ?_
            refine lv_iload_n hx hb d_X_poll_79 rfl (lv_at hl 2 rfl) ?_
            refine lv_iload_n hx hb d_X_poll_80 rfl (lv_at hl 3 rfl) ?_
            refine lv_lload_n hx hb d_X_poll_81 rfl (lv_at hl 4 rfl) ?_
            refine lv_aload_n hx hb d_X_poll_82 rfl (lv_at hl 1 rfl) ?_
            refine gf_X_38_0 hF hG d_X_poll_83 ?_
            refine gf_X_88_10 hF hG (v := (S.1 10 0 0)) rfl d_X_poll_86 ?_
            refine kc_X_91 hF (c_P_begin l D C ad hF.2.2 _ _ hi30 _ _ _ _ _ ) hG hi30 ⟨Nat.le_of_ble_eq_true rfl, Nat.le_of_ble_eq_true rfl⟩ ⟨Nat.zero_le _, Nat.zero_le _⟩ hl.1 (Nat.le_of_ble_eq_true rfl) d_X_poll_89 (fun H locs hG => ?_)
            have hok1 : z_Ok (g_P_begin (z_sI (z_sI S 0 0 6 ((S.1 0 0 6) + 1)) 9 0 (((S.1 0 0 6) + 1).toNatClampNeg) 0) i30 ((S.1 0 0 6) + 1) x0 x1 x2 (S.1 10 0 0)) := ok_P_begin (ok_pc hok h47) (z_pc1 hok h47) (z_dep h4) (z_par h11)
            refine lv_aload_n hx hb d_X_poll_92 rfl (lv_at hl 1 rfl) ?_
            refine lv_aload hx hb d_X_poll_93 (lv_at hl 0 rfl) ?_
            refine kc_X_95 hF (c_X_sendToAwaited l D C ad hF.2.2 (g_P_begin (z_sI (z_sI S 0 0 6 ((S.1 0 0 6) + 1)) 9 0 (((S.1 0 0 6) + 1).toNatClampNeg) 0) i30 ((S.1 0 0 6) + 1) x0 x1 x2 (S.1 10 0 0)) _ hi30 hok1) hG ⟨Nat.le_of_ble_eq_true rfl, Nat.le_of_ble_eq_true rfl⟩ ⟨Nat.zero_le _, Nat.zero_le _⟩ hl.1 (Nat.le_of_ble_eq_true rfl) d_X_poll_95 (fun H locs hG => ?_)
            refine lv_pop hx hb d_X_poll_98 rfl ?_
            refine lv_aload_n hx hb d_X_poll_99 rfl (lv_at hl 1 rfl) ?_
            refine gf_X_42_0 hF hG (v := ((g_X_sendToAwaited (g_P_begin (z_sI (z_sI S 0 0 6 ((S.1 0 0 6) + 1)) 9 0 (((S.1 0 0 6) + 1).toNatClampNeg) 0) i30 ((S.1 0 0 6) + 1) x0 x1 x2 (S.1 10 0 0)) i30).1 0 0 6)) rfl d_X_poll_100 ?_
            exact z_iret hF hr hlk hG (Eq.symm ((if_neg h4).trans ((if_neg h11).trans ((if_pos h23).trans ((z_opt_s h30).trans ((if_pos h47).trans rfl)))))) (Eq.symm ((if_neg h4).trans ((if_neg h11).trans ((if_pos h23).trans ((z_opt_s h30).trans ((if_pos h47).trans rfl)))))) d_X_poll_103
          ·
            refine lv_bipush (v := (-3)) hx hb d_X_poll_50 z_bim3 ?_
            exact z_iret hF hr hlk hG (Eq.symm ((if_neg h4).trans ((if_neg h11).trans ((if_pos h23).trans ((z_opt_s h30).trans ((if_neg h47).trans rfl)))))) (Eq.symm ((if_neg h4).trans ((if_neg h11).trans ((if_pos h23).trans ((z_opt_s h30).trans ((if_neg h47).trans rfl)))))) d_X_poll_52
      ·
        refine lv_bipush (v := (-2)) hx hb d_X_poll_26 z_bim2 ?_
        exact z_iret hF hr hlk hG (Eq.symm ((if_neg h4).trans ((if_neg h11).trans ((if_neg h23).trans rfl)))) (Eq.symm ((if_neg h4).trans ((if_neg h11).trans ((if_neg h23).trans rfl)))) d_X_poll_28
    ·
      refine lv_iconst (v := (-1)) hx hb d_X_poll_14 z_km1 ?_
      exact z_iret hF hr hlk hG (Eq.symm ((if_neg h4).trans ((if_pos h11).trans rfl))) (Eq.symm ((if_neg h4).trans ((if_pos h11).trans rfl))) d_X_poll_15
def f_X_again (S : z_S) (x0 : Int32) : Int32 := (if (f_X_isPoll S x0) = 0 then (-1) else (z_opt (f_X_runningPoll S x0) (-2) (fun i12 => (f_X_sendToAwaited S i12))))
def g_X_again (S : z_S) (x0 : Int32) : z_S := (if (f_X_isPoll S x0) = 0 then S else (z_opt (f_X_runningPoll S x0) S (fun i12 => (g_X_sendToAwaited S i12))))
set_option maxHeartbeats 4000000 in
set_option maxRecDepth 100000 in
theorem c_X_again (l : Launch) (D : va_G) (C : Nat → ClassId) (ad : Nat → Nat → Nat) (hJ : z_J ad) (S : z_S) (x0 : Int32) (hok : z_Ok S) : z_M l y_X_again b_X_again 3 (some .int) rm_X_again D C ad [.ref (ad 0 0), .int x0] S (z_Qi D C ad (f_X_again S x0) (g_X_again S x0)) := by
  refine z_enter (by decide) (Nat.le_of_ble_eq_true rfl) hJ ?_
  intro p e s m below meth c ls hF hr hlk hl hG
  obtain ⟨hx, hb, hml, hown, hts⟩ := hF.1
  have hl : lv_has ls 3 [(0, .ref (ad 0 0)), (1, .int x0)] := hl
  refine lv_aload_n hx hb d_X_again_0 rfl (lv_at hl 0 rfl) ?_
  refine lv_iload_n hx hb d_X_again_1 rfl (lv_at hl 1 rfl) ?_
  refine kc_X_99 hF (c_X_isPoll l D C ad hF.2.2 _ _ ) hG ⟨Nat.le_of_ble_eq_true rfl, Nat.le_of_ble_eq_true rfl⟩ ⟨Nat.zero_le _, Nat.zero_le _⟩ hl.1 (Nat.le_of_ble_eq_true rfl) d_X_again_2 (fun H locs hG => ?_)
  refine lv_if_ne (tgt := 10) hx hb d_X_again_5 rfl (fun h5 => ?_) (fun h5 => ?_)
  ·
    refine lv_aload_n hx hb d_X_again_10 rfl (lv_at hl 0 rfl) ?_
    refine lv_iload_n hx hb d_X_again_11 rfl (lv_at hl 1 rfl) ?_
    refine kc_X_102 hF (c_X_runningPoll l D C ad hF.2.2 _ _ ) hG ⟨Nat.le_of_ble_eq_true rfl, Nat.le_of_ble_eq_true rfl⟩ ⟨Nat.zero_le _, Nat.zero_le _⟩ hl.1 (Nat.le_of_ble_eq_true rfl) d_X_again_12 (fun H locs hG => ?_)
    cases h12 : (f_X_runningPoll S x0) with
    | none =>
      refine W.eq (g2 := F0 m 15 ls (.null :: [])) rfl ?_
      refine lv_astore_nN (lv' := [(2, .null), (0, .ref (ad 0 0)), (1, .int x0)]) hx hb d_X_again_15 rfl hl (Nat.le_of_ble_eq_true rfl) rfl (fun ls hl => ?_)
      refine lv_aload_nN hx hb d_X_again_16 rfl (lv_at hl 0 rfl) ?_
      refine lv_ifnonnullN hx hb d_X_again_17 ?_
      refine lv_bipush (v := (-2)) hx hb d_X_again_20 z_bim2 ?_
      refine lv_goto (tgt := 30) hx hb d_X_again_22 rfl ?_
      exact z_iret hF hr hlk hG (Eq.symm ((if_neg h5).trans ((z_opt_n h12).trans rfl))) (Eq.symm ((if_neg h5).trans ((z_opt_n h12).trans rfl))) d_X_again_30
    | some i12 =>
      have hi12 : i12 < z_n 14 := lt_X_runningPoll h12
      refine W.eq (g2 := F0 m 15 ls (.ref (ad 14 i12) :: [])) rfl ?_
      refine lv_astore_n (lv' := [(2, .ref (ad 14 i12)), (0, .ref (ad 0 0)), (1, .int x0)]) hx hb d_X_again_15 rfl hl (Nat.le_of_ble_eq_true rfl) rfl (fun ls hl => ?_)
      refine lv_aload_n hx hb d_X_again_16 rfl (lv_at hl 0 rfl) ?_
      refine lv_ifnonnull (tgt := 25) hx hb d_X_again_17 rfl ?_
      refine lv_aload_n hx hb d_X_again_25 rfl (lv_at hl 1 rfl) ?_
      refine lv_aload_n hx hb d_X_again_26 rfl (lv_at hl 0 rfl) ?_
      refine kc_X_95 hF (c_X_sendToAwaited l D C ad hF.2.2 _ _ hi12 hok) hG ⟨Nat.le_of_ble_eq_true rfl, Nat.le_of_ble_eq_true rfl⟩ ⟨Nat.zero_le _, Nat.zero_le _⟩ hl.1 (Nat.le_of_ble_eq_true rfl) d_X_again_27 (fun H locs hG => ?_)
      exact z_iret hF hr hlk hG (Eq.symm ((if_neg h5).trans ((z_opt_s h12).trans rfl))) (Eq.symm ((if_neg h5).trans ((z_opt_s h12).trans rfl))) d_X_again_30
  ·
    refine lv_iconst (v := (-1)) hx hb d_X_again_8 z_km1 ?_
    exact z_iret hF hr hlk hG (Eq.symm ((if_pos h5).trans rfl)) (Eq.symm ((if_pos h5).trans rfl)) d_X_again_9
def f_X_step (S : z_S) : Int32 := (if (S.1 3 0 4) = 0 then 0 else (z_opt (f_X_runningPoll S (S.1 5 0 0)) (S.1 4 0 0) (fun i52 => (S.1 4 0 0))))
def g_X_step (S : z_S) : z_S := (if (S.1 3 0 4) = 0 then S else (z_opt (f_X_runningPoll S (S.1 5 0 0)) (g_R_remove S 0 ((S.1 3 0 4).toNatClampNeg - 1)) (fun i52 => (g_X_arrive (g_R_remove S 0 ((S.1 3 0 4).toNatClampNeg - 1)) i52 (S.1 4 0 0) (S.1 6 0 0) (S.2 7 0 0)))))
set_option maxHeartbeats 4000000 in
set_option maxRecDepth 100000 in
theorem c_X_step (l : Launch) (D : va_G) (C : Nat → ClassId) (ad : Nat → Nat → Nat) (hJ : z_J ad) (S : z_S) (hok : z_Ok S) : z_M l y_X_step b_X_step 6 (some .int) rm_X_step D C ad [.ref (ad 0 0)] S (z_Qi D C ad (f_X_step S) (g_X_step S)) := by
  refine z_enter (by decide) (Nat.le_of_ble_eq_true rfl) hJ ?_
  intro p e s m below meth c ls hF hr hlk hl hG
  obtain ⟨hx, hb, hml, hown, hts⟩ := hF.1
  have hl : lv_has ls 6 [(0, .ref (ad 0 0))] := hl
  refine lv_aload_n hx hb d_X_step_0 rfl (lv_at hl 0 rfl) ?_
  refine gf_X_22_0 hF hG d_X_step_1 ?_
  refine gf_X_106_3 hF hG (v := (S.1 3 0 4)) rfl d_X_step_4 ?_
  refine lv_if_ne (tgt := 12) hx hb d_X_step_7 rfl (fun h7 => ?_) (fun h7 => ?_)
  ·
    refine lv_aload_n hx hb d_X_step_12 rfl (lv_at hl 0 rfl) ?_
    refine gf_X_22_0 hF hG d_X_step_13 ?_
    refine gf_X_109_3 hF hG d_X_step_16 ?_
    refine lv_iconst (v := 0) hx hb d_X_step_19 z_k0 ?_
    refine z_iald (n := 24) (j := 0) (v := (S.1 4 0 0)) hF hG z_o4 (z_c4 C ad _ _ _) z_q0 z_in0_24 rfl d_X_step_20 ?_
    refine lv_istore_n (lv' := [(1, .int (S.1 4 0 0)), (0, .ref (ad 0 0))]) hx hb d_X_step_21 rfl hl (Nat.le_of_ble_eq_true rfl) rfl (fun ls hl => ?_)
    refine lv_aload_n hx hb d_X_step_22 rfl (lv_at hl 1 rfl) ?_
    refine gf_X_22_0 hF hG d_X_step_23 ?_
    refine gf_X_112_3 hF hG d_X_step_26 ?_
    refine lv_iconst (v := 0) hx hb d_X_step_29 z_k0 ?_
    refine z_iald (n := 24) (j := 0) (v := (S.1 6 0 0)) hF hG z_o6 (z_c6 C ad _ _ _) z_q0 z_in0_24 rfl d_X_step_30 ?_
    refine lv_istore_n (lv' := [(2, .int (S.1 6 0 0)), (1, .int (S.1 4 0 0)), (0, .ref (ad 0 0))]) hx hb d_X_step_31 rfl hl (Nat.le_of_ble_eq_true rfl) rfl (fun ls hl => ?_)
    refine lv_aload_n hx hb d_X_step_32 rfl (lv_at hl 2 rfl) ?_
    refine gf_X_22_0 hF hG d_X_step_33 ?_
    refine gf_X_114_3 hF hG d_X_step_36 ?_
    refine lv_iconst (v := 0) hx hb d_X_step_39 z_k0 ?_
    refine z_lald (n := 24) (j := 0) (v := (S.2 7 0 0)) hF hG z_o7 (z_c7 C ad _ _ _) z_q0 z_in0_24 rfl d_X_step_40 ?_
    refine lv_lstore_n (lv' := [(3, .long (S.2 7 0 0)), (2, .int (S.1 6 0 0)), (1, .int (S.1 4 0 0)), (0, .ref (ad 0 0))]) hx hb d_X_step_41 rfl hl (Nat.le_of_ble_eq_true rfl) rfl (fun ls hl => ?_)
    refine lv_aload_n hx hb d_X_step_42 rfl (lv_at hl 3 rfl) ?_
    refine lv_aload_n hx hb d_X_step_43 rfl (lv_at hl 3 rfl) ?_
    refine gf_X_22_0 hF hG d_X_step_44 ?_
    refine gf_X_118_3 hF hG d_X_step_47 ?_
    refine lv_iconst (v := 0) hx hb d_X_step_50 z_k0 ?_
    refine z_iald (n := 24) (j := 0) (v := (S.1 5 0 0)) hF hG z_o5 (z_c5 C ad _ _ _) z_q0 z_in0_24 rfl d_X_step_51 ?_
    refine kc_X_102 hF (c_X_runningPoll l D C ad hF.2.2 _ _ ) hG ⟨Nat.le_of_ble_eq_true rfl, Nat.le_of_ble_eq_true rfl⟩ ⟨Nat.zero_le _, Nat.zero_le _⟩ hl.1 (Nat.le_of_ble_eq_true rfl) d_X_step_52 (fun H locs hG => ?_)
    cases h52 : (f_X_runningPoll S (S.1 5 0 0)) with
    | none =>
      refine W.eq (g2 := F0 m 55 ls (.null :: [])) rfl ?_
      refine lv_astoreN (lv' := [(5, .null), (3, .long (S.2 7 0 0)), (2, .int (S.1 6 0 0)), (1, .int (S.1 4 0 0)), (0, .ref (ad 0 0))]) hx hb d_X_step_55 hl (Nat.le_of_ble_eq_true rfl) rfl (fun ls hl => ?_)
      refine lv_aload_n hx hb d_X_step_57 rfl (lv_at hl 4 rfl) ?_
      refine gf_X_22_0 hF hG d_X_step_58 ?_
      refine lv_iconst (v := 0) hx hb d_X_step_61 z_k0 ?_
      refine kc_X_121 hF (c_R_remove l D C ad hF.2.2 _ _ 0 ((S.1 3 0 4).toNatClampNeg - 1) nI_0.symm (z_rs2 hok h7) (Nat.zero_le _) (z_rs4 hok h7)) hG ⟨Nat.le_of_ble_eq_true rfl, Nat.le_of_ble_eq_true rfl⟩ ⟨Nat.zero_le _, Nat.zero_le _⟩ hl.1 (Nat.le_of_ble_eq_true rfl) d_X_step_62 (fun H locs hG => ?_)
      have hok1 : z_Ok (g_R_remove S 0 ((S.1 3 0 4).toNatClampNeg - 1)) := ok_R_remove hok (z_rs2 hok h7) (Nat.zero_le _) (z_rs4 hok h7)
      refine lv_aloadN hx hb d_X_step_65 (lv_at hl 0 rfl) ?_
      refine lv_ifnullN (tgt := 79) hx hb d_X_step_67 rfl ?_
      refine lv_iload_n hx hb d_X_step_79 rfl (lv_at hl 3 rfl) ?_
      exact z_iret hF hr hlk hG (Eq.symm ((if_neg h7).trans ((z_opt_n h52).trans rfl))) (Eq.symm ((if_neg h7).trans ((z_opt_n h52).trans rfl))) d_X_step_80
    | some i52 =>
      have hi52 : i52 < z_n 14 := lt_X_runningPoll h52
      refine W.eq (g2 := F0 m 55 ls (.ref (ad 14 i52) :: [])) rfl ?_
      refine lv_astore (lv' := [(5, .ref (ad 14 i52)), (3, .long (S.2 7 0 0)), (2, .int (S.1 6 0 0)), (1, .int (S.1 4 0 0)), (0, .ref (ad 0 0))]) hx hb d_X_step_55 hl (Nat.le_of_ble_eq_true rfl) rfl (fun ls hl => ?_)
      refine lv_aload_n hx hb d_X_step_57 rfl (lv_at hl 4 rfl) ?_
      refine gf_X_22_0 hF hG d_X_step_58 ?_
      refine lv_iconst (v := 0) hx hb d_X_step_61 z_k0 ?_
      refine kc_X_121 hF (c_R_remove l D C ad hF.2.2 _ _ 0 ((S.1 3 0 4).toNatClampNeg - 1) nI_0.symm (z_rs2 hok h7) (Nat.zero_le _) (z_rs4 hok h7)) hG ⟨Nat.le_of_ble_eq_true rfl, Nat.le_of_ble_eq_true rfl⟩ ⟨Nat.zero_le _, Nat.zero_le _⟩ hl.1 (Nat.le_of_ble_eq_true rfl) d_X_step_62 (fun H locs hG => ?_)
      have hok1 : z_Ok (g_R_remove S 0 ((S.1 3 0 4).toNatClampNeg - 1)) := ok_R_remove hok (z_rs2 hok h7) (Nat.zero_le _) (z_rs4 hok h7)
      refine lv_aload hx hb d_X_step_65 (lv_at hl 0 rfl) ?_
      refine lv_ifnull hx hb d_X_step_67 ?_
      refine lv_aload_n hx hb d_X_step_70 rfl (lv_at hl 4 rfl) ?_
      refine lv_aload hx hb d_X_step_71 (lv_at hl 0 rfl) ?_
      refine lv_iload_n hx hb d_X_step_73 rfl (lv_at hl 3 rfl) ?_
      refine lv_iload_n hx hb d_X_step_74 rfl (lv_at hl 2 rfl) ?_
      refine lv_lload_n hx hb d_X_step_75 rfl (lv_at hl 1 rfl) ?_
      refine kc_X_125 hF (c_X_arrive l D C ad hF.2.2 (g_R_remove S 0 ((S.1 3 0 4).toNatClampNeg - 1)) _ hi52 _ _ _ hok1 (hok.2.2.1 0 (by decide))) hG ⟨Nat.le_of_ble_eq_true rfl, Nat.le_of_ble_eq_true rfl⟩ ⟨Nat.zero_le _, Nat.zero_le _⟩ hl.1 (Nat.le_of_ble_eq_true rfl) d_X_step_76 (fun H locs hG => ?_)
      refine lv_iload_n hx hb d_X_step_79 rfl (lv_at hl 3 rfl) ?_
      exact z_iret hF hr hlk hG (Eq.symm ((if_neg h7).trans ((z_opt_s h52).trans rfl))) (Eq.symm ((if_neg h7).trans ((z_opt_s h52).trans rfl))) d_X_step_80
  ·
    refine lv_iconst (v := 0) hx hb d_X_step_10 z_k0 ?_
    exact z_iret hF hr hlk hG (Eq.symm ((if_pos h7).trans rfl)) (Eq.symm ((if_pos h7).trans rfl)) d_X_step_11
def f_X_lose (S : z_S) (x0 : Int32) : Int32 := (if (f_R_has S x0) = 0 then (-1) else (S.1 4 0 x0.toNatClampNeg))
def g_X_lose (S : z_S) (x0 : Int32) : z_S := (if (f_R_has S x0) = 0 then S else (g_R_remove S x0.toNatClampNeg ((S.1 3 0 4).toNatClampNeg - 1)))
set_option maxHeartbeats 4000000 in
set_option maxRecDepth 100000 in
theorem c_X_lose (l : Launch) (D : va_G) (C : Nat → ClassId) (ad : Nat → Nat → Nat) (hJ : z_J ad) (S : z_S) (x0 : Int32) (hok : z_Ok S) : z_M l y_X_lose b_X_lose 3 (some .int) rm_X_lose D C ad [.ref (ad 0 0), .int x0] S (z_Qi D C ad (f_X_lose S x0) (g_X_lose S x0)) := by
  refine z_enter (by decide) (Nat.le_of_ble_eq_true rfl) hJ ?_
  intro p e s m below meth c ls hF hr hlk hl hG
  obtain ⟨hx, hb, hml, hown, hts⟩ := hF.1
  have hl : lv_has ls 3 [(0, .ref (ad 0 0)), (1, .int x0)] := hl
  refine lv_aload_n hx hb d_X_lose_0 rfl (lv_at hl 0 rfl) ?_
  refine gf_X_22_0 hF hG d_X_lose_1 ?_
  refine lv_iload_n hx hb d_X_lose_4 rfl (lv_at hl 1 rfl) ?_
  refine kc_X_129 hF (c_R_has l D C ad hF.2.2 _ _ ) hG ⟨Nat.le_of_ble_eq_true rfl, Nat.le_of_ble_eq_true rfl⟩ ⟨Nat.zero_le _, Nat.zero_le _⟩ hl.1 (Nat.le_of_ble_eq_true rfl) d_X_lose_5 (fun H locs hG => ?_)
  refine lv_if_ne (tgt := 13) hx hb d_X_lose_8 rfl (fun h8 => ?_) (fun h8 => ?_)
  ·
    refine lv_aload_n hx hb d_X_lose_13 rfl (lv_at hl 0 rfl) ?_
    refine gf_X_22_0 hF hG d_X_lose_14 ?_
    refine gf_X_109_3 hF hG d_X_lose_17 ?_
    refine lv_iload_n hx hb d_X_lose_20 rfl (lv_at hl 1 rfl) ?_
    refine z_iald (n := 24) (j := x0.toNatClampNeg) (v := (S.1 4 0 x0.toNatClampNeg)) hF hG z_o4 (z_c4 C ad _ _ _) rfl (z_has hok h8) rfl d_X_lose_21 ?_
    refine lv_istore_n (lv' := [(2, .int (S.1 4 0 x0.toNatClampNeg)), (0, .ref (ad 0 0)), (1, .int x0)]) hx hb d_X_lose_22 rfl hl (Nat.le_of_ble_eq_true rfl) rfl (fun ls hl => ?_)
    refine lv_aload_n hx hb d_X_lose_23 rfl (lv_at hl 1 rfl) ?_
    refine gf_X_22_0 hF hG d_X_lose_24 ?_
    refine lv_iload_n hx hb d_X_lose_27 rfl (lv_at hl 2 rfl) ?_
    refine kc_X_121 hF (c_R_remove l D C ad hF.2.2 _ _ x0.toNatClampNeg ((S.1 3 0 4).toNatClampNeg - 1) (z_rm1 h8) (z_rm2 hok h8) (z_rm3 hok h8) (z_rm4 hok h8)) hG ⟨Nat.le_of_ble_eq_true rfl, Nat.le_of_ble_eq_true rfl⟩ ⟨Nat.zero_le _, Nat.zero_le _⟩ hl.1 (Nat.le_of_ble_eq_true rfl) d_X_lose_28 (fun H locs hG => ?_)
    refine lv_iload_n hx hb d_X_lose_31 rfl (lv_at hl 0 rfl) ?_
    exact z_iret hF hr hlk hG (Eq.symm ((if_neg h8).trans rfl)) (Eq.symm ((if_neg h8).trans rfl)) d_X_lose_32
  ·
    refine lv_iconst (v := (-1)) hx hb d_X_lose_11 z_km1 ?_
    exact z_iret hF hr hlk hG (Eq.symm ((if_pos h8).trans rfl)) (Eq.symm ((if_pos h8).trans rfl)) d_X_lose_12
def f_X_twice (S : z_S) (x0 : Int32) : Int32 := (if (f_R_has S x0) = 0 then (-1) else (if (S.1 3 0 4) = 24 then (-3) else ((g_R_add S (S.1 4 0 x0.toNatClampNeg) (S.1 5 0 x0.toNatClampNeg) (S.1 6 0 x0.toNatClampNeg) (S.2 7 0 x0.toNatClampNeg)).1 3 0 4)))
def g_X_twice (S : z_S) (x0 : Int32) : z_S := (if (f_R_has S x0) = 0 then S else (if (S.1 3 0 4) = 24 then S else (g_R_add S (S.1 4 0 x0.toNatClampNeg) (S.1 5 0 x0.toNatClampNeg) (S.1 6 0 x0.toNatClampNeg) (S.2 7 0 x0.toNatClampNeg))))
set_option maxHeartbeats 4000000 in
set_option maxRecDepth 100000 in
theorem c_X_twice (l : Launch) (D : va_G) (C : Nat → ClassId) (ad : Nat → Nat → Nat) (hJ : z_J ad) (S : z_S) (x0 : Int32) (hok : z_Ok S) : z_M l y_X_twice b_X_twice 2 (some .int) rm_X_twice D C ad [.ref (ad 0 0), .int x0] S (z_Qi D C ad (f_X_twice S x0) (g_X_twice S x0)) := by
  refine z_enter (by decide) (Nat.le_of_ble_eq_true rfl) hJ ?_
  intro p e s m below meth c ls hF hr hlk hl hG
  obtain ⟨hx, hb, hml, hown, hts⟩ := hF.1
  have hl : lv_has ls 2 [(0, .ref (ad 0 0)), (1, .int x0)] := hl
  refine lv_aload_n hx hb d_X_twice_0 rfl (lv_at hl 0 rfl) ?_
  refine gf_X_22_0 hF hG d_X_twice_1 ?_
  refine lv_iload_n hx hb d_X_twice_4 rfl (lv_at hl 1 rfl) ?_
  refine kc_X_129 hF (c_R_has l D C ad hF.2.2 _ _ ) hG ⟨Nat.le_of_ble_eq_true rfl, Nat.le_of_ble_eq_true rfl⟩ ⟨Nat.zero_le _, Nat.zero_le _⟩ hl.1 (Nat.le_of_ble_eq_true rfl) d_X_twice_5 (fun H locs hG => ?_)
  refine lv_if_ne (tgt := 13) hx hb d_X_twice_8 rfl (fun h8 => ?_) (fun h8 => ?_)
  ·
    refine lv_aload_n hx hb d_X_twice_13 rfl (lv_at hl 0 rfl) ?_
    refine gf_X_22_0 hF hG d_X_twice_14 ?_
    refine gf_X_106_3 hF hG (v := (S.1 3 0 4)) rfl d_X_twice_17 ?_
    refine lv_bipush (v := 24) hx hb d_X_twice_20 z_bi24 ?_
    refine lv_icmp_ne (tgt := 28) hx hb d_X_twice_22 rfl (fun h22 => ?_) (fun h22 => ?_)
    ·
      refine lv_aload_n hx hb d_X_twice_28 rfl (lv_at hl 0 rfl) ?_
      refine gf_X_22_0 hF hG d_X_twice_29 ?_
      refine lv_aload_n hx hb d_X_twice_32 rfl (lv_at hl 0 rfl) ?_
      refine gf_X_22_0 hF hG d_X_twice_33 ?_
      refine gf_X_109_3 hF hG d_X_twice_36 ?_
      refine lv_iload_n hx hb d_X_twice_39 rfl (lv_at hl 1 rfl) ?_
      refine z_iald (n := 24) (j := x0.toNatClampNeg) (v := (S.1 4 0 x0.toNatClampNeg)) hF hG z_o4 (z_c4 C ad _ _ _) rfl (z_has hok h8) rfl d_X_twice_40 ?_
      refine lv_aload_n hx hb d_X_twice_41 rfl (lv_at hl 0 rfl) ?_
      refine gf_X_22_0 hF hG d_X_twice_42 ?_
      refine gf_X_118_3 hF hG d_X_twice_45 ?_
      refine lv_iload_n hx hb d_X_twice_48 rfl (lv_at hl 1 rfl) ?_
      refine z_iald (n := 24) (j := x0.toNatClampNeg) (v := (S.1 5 0 x0.toNatClampNeg)) hF hG z_o5 (z_c5 C ad _ _ _) rfl (z_has hok h8) rfl d_X_twice_49 ?_
      refine lv_aload_n hx hb d_X_twice_50 rfl (lv_at hl 0 rfl) ?_
      refine gf_X_22_0 hF hG d_X_twice_51 ?_
      refine gf_X_112_3 hF hG d_X_twice_54 ?_
      refine lv_iload_n hx hb d_X_twice_57 rfl (lv_at hl 1 rfl) ?_
      refine z_iald (n := 24) (j := x0.toNatClampNeg) (v := (S.1 6 0 x0.toNatClampNeg)) hF hG z_o6 (z_c6 C ad _ _ _) rfl (z_has hok h8) rfl d_X_twice_58 ?_
      refine lv_aload_n hx hb d_X_twice_59 rfl (lv_at hl 0 rfl) ?_
      refine gf_X_22_0 hF hG d_X_twice_60 ?_
      refine gf_X_114_3 hF hG d_X_twice_63 ?_
      refine lv_iload_n hx hb d_X_twice_66 rfl (lv_at hl 1 rfl) ?_
      refine z_lald (n := 24) (j := x0.toNatClampNeg) (v := (S.2 7 0 x0.toNatClampNeg)) hF hG z_o7 (z_c7 C ad _ _ _) rfl (z_has hok h8) rfl d_X_twice_67 ?_
      refine kc_X_132 hF (c_R_add l D C ad hF.2.2 _ _ _ _ _ (z_okc hok)) hG ⟨Nat.le_of_ble_eq_true rfl, Nat.le_of_ble_eq_true rfl⟩ ⟨Nat.zero_le _, Nat.zero_le _⟩ hl.1 (Nat.le_of_ble_eq_true rfl) d_X_twice_68 (fun H locs hG => ?_)
      refine lv_aload_n hx hb d_X_twice_71 rfl (lv_at hl 0 rfl) ?_
      refine gf_X_22_0 hF hG d_X_twice_72 ?_
      refine gf_X_106_3 hF hG (v := ((g_R_add S (S.1 4 0 x0.toNatClampNeg) (S.1 5 0 x0.toNatClampNeg) (S.1 6 0 x0.toNatClampNeg) (S.2 7 0 x0.toNatClampNeg)).1 3 0 4)) rfl d_X_twice_75 ?_
      exact z_iret hF hr hlk hG (Eq.symm ((if_neg h8).trans ((if_neg h22).trans rfl))) (Eq.symm ((if_neg h8).trans ((if_neg h22).trans rfl))) d_X_twice_78
    ·
      refine lv_bipush (v := (-3)) hx hb d_X_twice_25 z_bim3 ?_
      exact z_iret hF hr hlk hG (Eq.symm ((if_neg h8).trans ((if_pos h22).trans rfl))) (Eq.symm ((if_neg h8).trans ((if_pos h22).trans rfl))) d_X_twice_27
  ·
    refine lv_iconst (v := (-1)) hx hb d_X_twice_11 z_km1 ?_
    exact z_iret hF hr hlk hG (Eq.symm ((if_pos h8).trans rfl)) (Eq.symm ((if_pos h8).trans rfl)) d_X_twice_12
def f_X_letters (S : z_S) : Int32 := (S.1 3 0 4)
set_option maxHeartbeats 4000000 in
set_option maxRecDepth 100000 in
theorem c_X_letters (l : Launch) (D : va_G) (C : Nat → ClassId) (ad : Nat → Nat → Nat) (hJ : z_J ad) (S : z_S)  : z_M l y_X_letters b_X_letters 1 (some .int) rm_X_letters D C ad [.ref (ad 0 0)] S (z_Qi D C ad (f_X_letters S) S) := by
  refine z_enter (by decide) (Nat.le_of_ble_eq_true rfl) hJ ?_
  intro p e s m below meth c ls hF hr hlk hl hG
  obtain ⟨hx, hb, hml, hown, hts⟩ := hF.1
  have hl : lv_has ls 1 [(0, .ref (ad 0 0))] := hl
  refine lv_aload_n hx hb d_X_letters_0 rfl (lv_at hl 0 rfl) ?_
  refine gf_X_22_0 hF hG d_X_letters_1 ?_
  refine gf_X_106_3 hF hG (v := (S.1 3 0 4)) rfl d_X_letters_4 ?_
  exact z_iret hF hr hlk hG rfl rfl d_X_letters_7
def f_X_letter (S : z_S) (x0 : Int32) (x1 : Int32) : Int32 := (if (f_R_has S x0) = 0 then (-1) else (if x1 = 0 then (S.1 4 0 x0.toNatClampNeg) else (if x1 = 1 then (S.1 5 0 x0.toNatClampNeg) else (if x1 = 2 then (S.1 6 0 x0.toNatClampNeg) else (-1)))))
set_option maxHeartbeats 4000000 in
set_option maxRecDepth 100000 in
theorem c_X_letter (l : Launch) (D : va_G) (C : Nat → ClassId) (ad : Nat → Nat → Nat) (hJ : z_J ad) (S : z_S) (x0 : Int32) (x1 : Int32) (hok : z_Ok S) : z_M l y_X_letter b_X_letter 3 (some .int) rm_X_letter D C ad [.ref (ad 0 0), .int x0, .int x1] S (z_Qi D C ad (f_X_letter S x0 x1) S) := by
  refine z_enter (by decide) (Nat.le_of_ble_eq_true rfl) hJ ?_
  intro p e s m below meth c ls hF hr hlk hl hG
  obtain ⟨hx, hb, hml, hown, hts⟩ := hF.1
  have hl : lv_has ls 3 [(0, .ref (ad 0 0)), (1, .int x0), (2, .int x1)] := hl
  refine lv_aload_n hx hb d_X_letter_0 rfl (lv_at hl 0 rfl) ?_
  refine gf_X_22_0 hF hG d_X_letter_1 ?_
  refine lv_iload_n hx hb d_X_letter_4 rfl (lv_at hl 1 rfl) ?_
  refine kc_X_129 hF (c_R_has l D C ad hF.2.2 _ _ ) hG ⟨Nat.le_of_ble_eq_true rfl, Nat.le_of_ble_eq_true rfl⟩ ⟨Nat.zero_le _, Nat.zero_le _⟩ hl.1 (Nat.le_of_ble_eq_true rfl) d_X_letter_5 (fun H locs hG => ?_)
  refine lv_if_ne (tgt := 13) hx hb d_X_letter_8 rfl (fun h8 => ?_) (fun h8 => ?_)
  ·
    refine lv_iload_n hx hb d_X_letter_13 rfl (lv_at hl 2 rfl) ?_
    by_cases h14v0 : x1 = 0
    ·
      refine lv_tableIn (tgt := 40) (off := 26) hx hb d_X_letter_14 (by rw [h14v0]; decide) (by rw [h14v0]; decide) (by rw [h14v0]; rfl) rfl ?_
      refine lv_aload_n hx hb d_X_letter_40 rfl (lv_at hl 0 rfl) ?_
      refine gf_X_22_0 hF hG d_X_letter_41 ?_
      refine gf_X_109_3 hF hG d_X_letter_44 ?_
      refine lv_iload_n hx hb d_X_letter_47 rfl (lv_at hl 1 rfl) ?_
      refine z_iald (n := 24) (j := x0.toNatClampNeg) (v := (S.1 4 0 x0.toNatClampNeg)) hF hG z_o4 (z_c4 C ad _ _ _) rfl (z_has hok h8) rfl d_X_letter_48 ?_
      exact z_iret hF hr hlk hG (Eq.symm ((if_neg h8).trans ((if_pos h14v0).trans rfl))) rfl d_X_letter_49
    by_cases h14v1 : x1 = 1
    ·
      refine lv_tableIn (tgt := 50) (off := 36) hx hb d_X_letter_14 (by rw [h14v1]; decide) (by rw [h14v1]; decide) (by rw [h14v1]; rfl) rfl ?_
      refine lv_aload_n hx hb d_X_letter_50 rfl (lv_at hl 0 rfl) ?_
      refine gf_X_22_0 hF hG d_X_letter_51 ?_
      refine gf_X_118_3 hF hG d_X_letter_54 ?_
      refine lv_iload_n hx hb d_X_letter_57 rfl (lv_at hl 1 rfl) ?_
      refine z_iald (n := 24) (j := x0.toNatClampNeg) (v := (S.1 5 0 x0.toNatClampNeg)) hF hG z_o5 (z_c5 C ad _ _ _) rfl (z_has hok h8) rfl d_X_letter_58 ?_
      exact z_iret hF hr hlk hG (Eq.symm ((if_neg h8).trans ((if_neg h14v0).trans ((if_pos h14v1).trans rfl)))) rfl d_X_letter_59
    by_cases h14v2 : x1 = 2
    ·
      refine lv_tableIn (tgt := 60) (off := 46) hx hb d_X_letter_14 (by rw [h14v2]; decide) (by rw [h14v2]; decide) (by rw [h14v2]; rfl) rfl ?_
      refine lv_aload_n hx hb d_X_letter_60 rfl (lv_at hl 0 rfl) ?_
      refine gf_X_22_0 hF hG d_X_letter_61 ?_
      refine gf_X_112_3 hF hG d_X_letter_64 ?_
      refine lv_iload_n hx hb d_X_letter_67 rfl (lv_at hl 1 rfl) ?_
      refine z_iald (n := 24) (j := x0.toNatClampNeg) (v := (S.1 6 0 x0.toNatClampNeg)) hF hG z_o6 (z_c6 C ad _ _ _) rfl (z_has hok h8) rfl d_X_letter_68 ?_
      exact z_iret hF hr hlk hG (Eq.symm ((if_neg h8).trans ((if_neg h14v0).trans ((if_neg h14v1).trans ((if_pos h14v2).trans rfl))))) rfl d_X_letter_69
    refine lv_tableOut (tgt := 70) hx hb d_X_letter_14 (z_tab0_2 h14v0 h14v1 h14v2) rfl ?_
    refine lv_iconst (v := (-1)) hx hb d_X_letter_70 z_km1 ?_
    exact z_iret hF hr hlk hG (Eq.symm ((if_neg h8).trans ((if_neg h14v0).trans ((if_neg h14v1).trans ((if_neg h14v2).trans rfl))))) rfl d_X_letter_71
  ·
    refine lv_iconst (v := (-1)) hx hb d_X_letter_11 z_km1 ?_
    exact z_iret hF hr hlk hG (Eq.symm ((if_pos h8).trans rfl)) rfl d_X_letter_12
def f_X_giveUp (S : z_S) (x0 : Int32) : Int32 := (z_opt (f_X_runningPoll S x0) 0 (fun i2 => 1))
def g_X_giveUp (S : z_S) (x0 : Int32) : z_S := (z_opt (f_X_runningPoll S x0) S (fun i2 => (g_X_finish S i2 4)))
set_option maxHeartbeats 4000000 in
set_option maxRecDepth 100000 in
theorem c_X_giveUp (l : Launch) (D : va_G) (C : Nat → ClassId) (ad : Nat → Nat → Nat) (hJ : z_J ad) (S : z_S) (x0 : Int32) (hok : z_Ok S) : z_M l y_X_giveUp b_X_giveUp 3 (some .boolean) rm_X_giveUp D C ad [.ref (ad 0 0), .int x0] S (z_Qi D C ad (f_X_giveUp S x0) (g_X_giveUp S x0)) := by
  refine z_enter (by decide) (Nat.le_of_ble_eq_true rfl) hJ ?_
  intro p e s m below meth c ls hF hr hlk hl hG
  obtain ⟨hx, hb, hml, hown, hts⟩ := hF.1
  have hl : lv_has ls 3 [(0, .ref (ad 0 0)), (1, .int x0)] := hl
  refine lv_aload_n hx hb d_X_giveUp_0 rfl (lv_at hl 0 rfl) ?_
  refine lv_iload_n hx hb d_X_giveUp_1 rfl (lv_at hl 1 rfl) ?_
  refine kc_X_102 hF (c_X_runningPoll l D C ad hF.2.2 _ _ ) hG ⟨Nat.le_of_ble_eq_true rfl, Nat.le_of_ble_eq_true rfl⟩ ⟨Nat.zero_le _, Nat.zero_le _⟩ hl.1 (Nat.le_of_ble_eq_true rfl) d_X_giveUp_2 (fun H locs hG => ?_)
  cases h2 : (f_X_runningPoll S x0) with
  | none =>
    refine W.eq (g2 := F0 m 5 ls (.null :: [])) rfl ?_
    refine lv_astore_nN (lv' := [(2, .null), (0, .ref (ad 0 0)), (1, .int x0)]) hx hb d_X_giveUp_5 rfl hl (Nat.le_of_ble_eq_true rfl) rfl (fun ls hl => ?_)
    refine lv_aload_nN hx hb d_X_giveUp_6 rfl (lv_at hl 0 rfl) ?_
    refine lv_ifnonnullN hx hb d_X_giveUp_7 ?_
    refine lv_iconst (v := 0) hx hb d_X_giveUp_10 z_k0 ?_
    exact z_zret hF hr hlk rfl hG (Eq.symm ((z_opt_n h2).trans rfl)) (Eq.symm ((z_opt_n h2).trans rfl)) d_X_giveUp_11
  | some i2 =>
    have hi2 : i2 < z_n 14 := lt_X_runningPoll h2
    refine W.eq (g2 := F0 m 5 ls (.ref (ad 14 i2) :: [])) rfl ?_
    refine lv_astore_n (lv' := [(2, .ref (ad 14 i2)), (0, .ref (ad 0 0)), (1, .int x0)]) hx hb d_X_giveUp_5 rfl hl (Nat.le_of_ble_eq_true rfl) rfl (fun ls hl => ?_)
    refine lv_aload_n hx hb d_X_giveUp_6 rfl (lv_at hl 0 rfl) ?_
    refine lv_ifnonnull (tgt := 12) hx hb d_X_giveUp_7 rfl ?_
    refine lv_aload_n hx hb d_X_giveUp_12 rfl (lv_at hl 1 rfl) ?_
    refine lv_aload_n hx hb d_X_giveUp_13 rfl (lv_at hl 0 rfl) ?_
    refine lv_iconst (v := 4) hx hb d_X_giveUp_14 z_k4 ?_
    refine kc_X_136 hF (c_X_finish l D C ad hF.2.2 _ _ hi2 _ hok) hG ⟨Nat.le_of_ble_eq_true rfl, Nat.le_of_ble_eq_true rfl⟩ ⟨Nat.zero_le _, Nat.zero_le _⟩ hl.1 (Nat.le_of_ble_eq_true rfl) d_X_giveUp_15 (fun H locs hG => ?_)
    refine lv_iconst (v := 1) hx hb d_X_giveUp_18 z_k1 ?_
    exact z_zret hF hr hlk rfl hG (Eq.symm ((z_opt_s h2).trans rfl)) (Eq.symm ((z_opt_s h2).trans rfl)) d_X_giveUp_19
def f_X_result (S : z_S) (x0 : Int32) : Int32 := (if (f_X_isPoll S x0) = 0 then (-1) else (S.1 9 0 x0.toNatClampNeg))
set_option maxHeartbeats 4000000 in
set_option maxRecDepth 100000 in
theorem c_X_result (l : Launch) (D : va_G) (C : Nat → ClassId) (ad : Nat → Nat → Nat) (hJ : z_J ad) (S : z_S) (x0 : Int32) (hok : z_Ok S) : z_M l y_X_result b_X_result 2 (some .int) rm_X_result D C ad [.ref (ad 0 0), .int x0] S (z_Qi D C ad (f_X_result S x0) S) := by
  refine z_enter (by decide) (Nat.le_of_ble_eq_true rfl) hJ ?_
  intro p e s m below meth c ls hF hr hlk hl hG
  obtain ⟨hx, hb, hml, hown, hts⟩ := hF.1
  have hl : lv_has ls 2 [(0, .ref (ad 0 0)), (1, .int x0)] := hl
  refine lv_aload_n hx hb d_X_result_0 rfl (lv_at hl 0 rfl) ?_
  refine lv_iload_n hx hb d_X_result_1 rfl (lv_at hl 1 rfl) ?_
  refine kc_X_99 hF (c_X_isPoll l D C ad hF.2.2 _ _ ) hG ⟨Nat.le_of_ble_eq_true rfl, Nat.le_of_ble_eq_true rfl⟩ ⟨Nat.zero_le _, Nat.zero_le _⟩ hl.1 (Nat.le_of_ble_eq_true rfl) d_X_result_2 (fun H locs hG => ?_)
  refine lv_if_eq (tgt := 17) hx hb d_X_result_5 rfl (fun h5 => ?_) (fun h5 => ?_)
  ·
    refine lv_iconst (v := (-1)) hx hb d_X_result_17 z_km1 ?_
    exact z_iret hF hr hlk hG (Eq.symm ((if_pos h5).trans rfl)) rfl d_X_result_18
  ·
    refine lv_aload_n hx hb d_X_result_8 rfl (lv_at hl 0 rfl) ?_
    refine gf_X_32_0 hF hG d_X_result_9 ?_
    refine lv_iload_n hx hb d_X_result_12 rfl (lv_at hl 1 rfl) ?_
    refine z_iald (n := 513) (j := x0.toNatClampNeg) (v := (S.1 9 0 x0.toNatClampNeg)) hF hG z_o9 (z_c9 C ad _ _ _) rfl (z_pol hok h5) rfl d_X_result_13 ?_
    refine lv_goto (tgt := 18) hx hb d_X_result_14 rfl ?_
    exact z_iret hF hr hlk hG (Eq.symm ((if_neg h5).trans rfl)) rfl d_X_result_18
def f_X_close (S : z_S) (x0 : Int32) : Int32 := (if (f_X_isHouse x0) = 0 then 0 else (if (S.1 12 x0.toNatClampNeg 0) = 0 then 0 else 1))
def g_X_close (S : z_S) (x0 : Int32) : z_S := (if (f_X_isHouse x0) = 0 then S else (if (S.1 12 x0.toNatClampNeg 0) = 0 then S else (z_sI S 12 x0.toNatClampNeg 0 0)))
set_option maxHeartbeats 4000000 in
set_option maxRecDepth 100000 in
theorem c_X_close (l : Launch) (D : va_G) (C : Nat → ClassId) (ad : Nat → Nat → Nat) (hJ : z_J ad) (S : z_S) (x0 : Int32)  : z_M l y_X_close b_X_close 2 (some .boolean) rm_X_close D C ad [.ref (ad 0 0), .int x0] S (z_Qi D C ad (f_X_close S x0) (g_X_close S x0)) := by
  refine z_enter (by decide) (Nat.le_of_ble_eq_true rfl) hJ ?_
  intro p e s m below meth c ls hF hr hlk hl hG
  obtain ⟨hx, hb, hml, hown, hts⟩ := hF.1
  have hl : lv_has ls 2 [(0, .ref (ad 0 0)), (1, .int x0)] := hl
  refine lv_iload_n hx hb d_X_close_0 rfl (lv_at hl 1 rfl) ?_
  refine kc_X_63 hF (c_X_isHouse l D C ad hF.2.2 _ _ ) hG ⟨Nat.le_of_ble_eq_true rfl, Nat.le_of_ble_eq_true rfl⟩ ⟨Nat.zero_le _, Nat.zero_le _⟩ hl.1 (Nat.le_of_ble_eq_true rfl) d_X_close_1 (fun H locs hG => ?_)
  refine lv_if_eq (tgt := 19) hx hb d_X_close_4 rfl (fun h4 => ?_) (fun h4 => ?_)
  ·
    refine lv_iconst (v := 0) hx hb d_X_close_19 z_k0 ?_
    exact z_zret hF hr hlk rfl hG (Eq.symm ((if_pos h4).trans rfl)) (Eq.symm ((if_pos h4).trans rfl)) d_X_close_20
  ·
    refine lv_aload_n hx hb d_X_close_7 rfl (lv_at hl 0 rfl) ?_
    refine gf_X_11_0 hF hG d_X_close_8 ?_
    refine lv_iload_n hx hb d_X_close_11 rfl (lv_at hl 1 rfl) ?_
    have ho12 : x0.toNatClampNeg < z_n 12 := z_lt (n := 3) (z_hou h4)
    refine z_aald (n := 3) (K := 3) (t0 := 3) (Cn := R_H) (j := x0.toNatClampNeg) (v := ad 12 x0.toNatClampNeg) hF hG z_o1 (z_c1 C ad _ _ _) rfl rfl (z_hou h4) rfl d_X_close_12 ?_
    refine gf_X_140_12 hF hG ho12 (v := (S.1 12 x0.toNatClampNeg 0)) rfl d_X_close_13 ?_
    refine lv_if_ne (tgt := 21) hx hb d_X_close_16 rfl (fun h16 => ?_) (fun h16 => ?_)
    ·
      refine lv_aload_n hx hb d_X_close_21 rfl (lv_at hl 0 rfl) ?_
      refine gf_X_11_0 hF hG d_X_close_22 ?_
      refine lv_iload_n hx hb d_X_close_25 rfl (lv_at hl 1 rfl) ?_
      have ho26 : x0.toNatClampNeg < z_n 12 := z_lt (n := 3) (z_hou h4)
      refine z_aald (n := 3) (K := 3) (t0 := 3) (Cn := R_H) (j := x0.toNatClampNeg) (v := ad 12 x0.toNatClampNeg) hF hG z_o1 (z_c1 C ad _ _ _) rfl rfl (z_hou h4) rfl d_X_close_26 ?_
      refine lv_iconst (v := 0) hx hb d_X_close_27 z_k0 ?_
      refine pf_X_140_12 hF hG ho26 rfl rfl d_X_close_28 (fun H locs hG => ?_)
      refine lv_iconst (v := 1) hx hb d_X_close_31 z_k1 ?_
      exact z_zret hF hr hlk rfl hG (Eq.symm ((if_neg h4).trans ((if_neg h16).trans rfl))) (Eq.symm ((if_neg h4).trans ((if_neg h16).trans rfl))) d_X_close_32
    ·
      refine lv_iconst (v := 0) hx hb d_X_close_19 z_k0 ?_
      exact z_zret hF hr hlk rfl hG (Eq.symm ((if_neg h4).trans ((if_pos h16).trans rfl))) (Eq.symm ((if_neg h4).trans ((if_pos h16).trans rfl))) d_X_close_20
def f_X_open (S : z_S) (x0 : Int32) : Int32 := (if (f_X_isHouse x0) = 0 then 0 else (if (S.1 12 x0.toNatClampNeg 0) = 0 then 1 else 0))
def g_X_open (S : z_S) (x0 : Int32) : z_S := (if (f_X_isHouse x0) = 0 then S else (if (S.1 12 x0.toNatClampNeg 0) = 0 then (z_sI S 12 x0.toNatClampNeg 0 1) else S))
set_option maxHeartbeats 4000000 in
set_option maxRecDepth 100000 in
theorem c_X_open (l : Launch) (D : va_G) (C : Nat → ClassId) (ad : Nat → Nat → Nat) (hJ : z_J ad) (S : z_S) (x0 : Int32)  : z_M l y_X_open b_X_open 2 (some .boolean) rm_X_open D C ad [.ref (ad 0 0), .int x0] S (z_Qi D C ad (f_X_open S x0) (g_X_open S x0)) := by
  refine z_enter (by decide) (Nat.le_of_ble_eq_true rfl) hJ ?_
  intro p e s m below meth c ls hF hr hlk hl hG
  obtain ⟨hx, hb, hml, hown, hts⟩ := hF.1
  have hl : lv_has ls 2 [(0, .ref (ad 0 0)), (1, .int x0)] := hl
  refine lv_iload_n hx hb d_X_open_0 rfl (lv_at hl 1 rfl) ?_
  refine kc_X_63 hF (c_X_isHouse l D C ad hF.2.2 _ _ ) hG ⟨Nat.le_of_ble_eq_true rfl, Nat.le_of_ble_eq_true rfl⟩ ⟨Nat.zero_le _, Nat.zero_le _⟩ hl.1 (Nat.le_of_ble_eq_true rfl) d_X_open_1 (fun H locs hG => ?_)
  refine lv_if_eq (tgt := 19) hx hb d_X_open_4 rfl (fun h4 => ?_) (fun h4 => ?_)
  ·
    refine lv_iconst (v := 0) hx hb d_X_open_19 z_k0 ?_
    exact z_zret hF hr hlk rfl hG (Eq.symm ((if_pos h4).trans rfl)) (Eq.symm ((if_pos h4).trans rfl)) d_X_open_20
  ·
    refine lv_aload_n hx hb d_X_open_7 rfl (lv_at hl 0 rfl) ?_
    refine gf_X_11_0 hF hG d_X_open_8 ?_
    refine lv_iload_n hx hb d_X_open_11 rfl (lv_at hl 1 rfl) ?_
    have ho12 : x0.toNatClampNeg < z_n 12 := z_lt (n := 3) (z_hou h4)
    refine z_aald (n := 3) (K := 3) (t0 := 3) (Cn := R_H) (j := x0.toNatClampNeg) (v := ad 12 x0.toNatClampNeg) hF hG z_o1 (z_c1 C ad _ _ _) rfl rfl (z_hou h4) rfl d_X_open_12 ?_
    refine gf_X_140_12 hF hG ho12 (v := (S.1 12 x0.toNatClampNeg 0)) rfl d_X_open_13 ?_
    refine lv_if_eq (tgt := 21) hx hb d_X_open_16 rfl (fun h16 => ?_) (fun h16 => ?_)
    ·
      refine lv_aload_n hx hb d_X_open_21 rfl (lv_at hl 0 rfl) ?_
      refine gf_X_11_0 hF hG d_X_open_22 ?_
      refine lv_iload_n hx hb d_X_open_25 rfl (lv_at hl 1 rfl) ?_
      have ho26 : x0.toNatClampNeg < z_n 12 := z_lt (n := 3) (z_hou h4)
      refine z_aald (n := 3) (K := 3) (t0 := 3) (Cn := R_H) (j := x0.toNatClampNeg) (v := ad 12 x0.toNatClampNeg) hF hG z_o1 (z_c1 C ad _ _ _) rfl rfl (z_hou h4) rfl d_X_open_26 ?_
      refine lv_iconst (v := 1) hx hb d_X_open_27 z_k1 ?_
      refine pf_X_140_12 hF hG ho26 rfl rfl d_X_open_28 (fun H locs hG => ?_)
      refine lv_iconst (v := 1) hx hb d_X_open_31 z_k1 ?_
      exact z_zret hF hr hlk rfl hG (Eq.symm ((if_neg h4).trans ((if_pos h16).trans rfl))) (Eq.symm ((if_neg h4).trans ((if_pos h16).trans rfl))) d_X_open_32
    ·
      refine lv_iconst (v := 0) hx hb d_X_open_19 z_k0 ?_
      exact z_zret hF hr hlk rfl hG (Eq.symm ((if_neg h4).trans ((if_neg h16).trans rfl))) (Eq.symm ((if_neg h4).trans ((if_neg h16).trans rfl))) d_X_open_20
def f_X_round (S : z_S) : Int32 := (S.1 10 0 0)
set_option maxHeartbeats 4000000 in
set_option maxRecDepth 100000 in
theorem c_X_round (l : Launch) (D : va_G) (C : Nat → ClassId) (ad : Nat → Nat → Nat) (hJ : z_J ad) (S : z_S)  : z_M l y_X_round b_X_round 1 (some .int) rm_X_round D C ad [.ref (ad 0 0)] S (z_Qi D C ad (f_X_round S) S) := by
  refine z_enter (by decide) (Nat.le_of_ble_eq_true rfl) hJ ?_
  intro p e s m below meth c ls hF hr hlk hl hG
  obtain ⟨hx, hb, hml, hown, hts⟩ := hF.1
  have hl : lv_has ls 1 [(0, .ref (ad 0 0))] := hl
  refine lv_aload_n hx hb d_X_round_0 rfl (lv_at hl 0 rfl) ?_
  refine gf_X_38_0 hF hG d_X_round_1 ?_
  refine gf_X_88_10 hF hG (v := (S.1 10 0 0)) rfl d_X_round_4 ?_
  exact z_iret hF hr hlk hG rfl rfl d_X_round_7
def f_X_done (S : z_S) : Int32 := (S.1 10 0 1)
set_option maxHeartbeats 4000000 in
set_option maxRecDepth 100000 in
theorem c_X_done (l : Launch) (D : va_G) (C : Nat → ClassId) (ad : Nat → Nat → Nat) (hJ : z_J ad) (S : z_S)  : z_M l y_X_done b_X_done 1 (some .int) rm_X_done D C ad [.ref (ad 0 0)] S (z_Qi D C ad (f_X_done S) S) := by
  refine z_enter (by decide) (Nat.le_of_ble_eq_true rfl) hJ ?_
  intro p e s m below meth c ls hF hr hlk hl hG
  obtain ⟨hx, hb, hml, hown, hts⟩ := hF.1
  have hl : lv_has ls 1 [(0, .ref (ad 0 0))] := hl
  refine lv_aload_n hx hb d_X_done_0 rfl (lv_at hl 0 rfl) ?_
  refine gf_X_38_0 hF hG d_X_done_1 ?_
  refine gf_X_144_10 hF hG (v := (S.1 10 0 1)) rfl d_X_done_4 ?_
  exact z_iret hF hr hlk hG rfl rfl d_X_done_7
def f_X_mends (S : z_S) (x0 : Int32) : Int32 := (if (f_X_isHouse x0) = 0 then (-1) else (S.1 12 x0.toNatClampNeg 1))
set_option maxHeartbeats 4000000 in
set_option maxRecDepth 100000 in
theorem c_X_mends (l : Launch) (D : va_G) (C : Nat → ClassId) (ad : Nat → Nat → Nat) (hJ : z_J ad) (S : z_S) (x0 : Int32)  : z_M l y_X_mends b_X_mends 2 (some .int) rm_X_mends D C ad [.ref (ad 0 0), .int x0] S (z_Qi D C ad (f_X_mends S x0) S) := by
  refine z_enter (by decide) (Nat.le_of_ble_eq_true rfl) hJ ?_
  intro p e s m below meth c ls hF hr hlk hl hG
  obtain ⟨hx, hb, hml, hown, hts⟩ := hF.1
  have hl : lv_has ls 2 [(0, .ref (ad 0 0)), (1, .int x0)] := hl
  refine lv_iload_n hx hb d_X_mends_0 rfl (lv_at hl 1 rfl) ?_
  refine kc_X_63 hF (c_X_isHouse l D C ad hF.2.2 _ _ ) hG ⟨Nat.le_of_ble_eq_true rfl, Nat.le_of_ble_eq_true rfl⟩ ⟨Nat.zero_le _, Nat.zero_le _⟩ hl.1 (Nat.le_of_ble_eq_true rfl) d_X_mends_1 (fun H locs hG => ?_)
  refine lv_if_eq (tgt := 19) hx hb d_X_mends_4 rfl (fun h4 => ?_) (fun h4 => ?_)
  ·
    refine lv_iconst (v := (-1)) hx hb d_X_mends_19 z_km1 ?_
    exact z_iret hF hr hlk hG (Eq.symm ((if_pos h4).trans rfl)) rfl d_X_mends_20
  ·
    refine lv_aload_n hx hb d_X_mends_7 rfl (lv_at hl 0 rfl) ?_
    refine gf_X_11_0 hF hG d_X_mends_8 ?_
    refine lv_iload_n hx hb d_X_mends_11 rfl (lv_at hl 1 rfl) ?_
    have ho12 : x0.toNatClampNeg < z_n 12 := z_lt (n := 3) (z_hou h4)
    refine z_aald (n := 3) (K := 3) (t0 := 3) (Cn := R_H) (j := x0.toNatClampNeg) (v := ad 12 x0.toNatClampNeg) hF hG z_o1 (z_c1 C ad _ _ _) rfl rfl (z_hou h4) rfl d_X_mends_12 ?_
    refine gf_X_152_12 hF hG ho12 (v := (S.1 12 x0.toNatClampNeg 1)) rfl d_X_mends_13 ?_
    refine lv_goto (tgt := 20) hx hb d_X_mends_16 rfl ?_
    exact z_iret hF hr hlk hG (Eq.symm ((if_neg h4).trans rfl)) rfl d_X_mends_20
def f_X_disputes (S : z_S) : Int32 := (S.1 0 0 7)
set_option maxHeartbeats 4000000 in
set_option maxRecDepth 100000 in
theorem c_X_disputes (l : Launch) (D : va_G) (C : Nat → ClassId) (ad : Nat → Nat → Nat) (hJ : z_J ad) (S : z_S)  : z_M l y_X_disputes b_X_disputes 1 (some .int) rm_X_disputes D C ad [.ref (ad 0 0)] S (z_Qi D C ad (f_X_disputes S) S) := by
  refine z_enter (by decide) (Nat.le_of_ble_eq_true rfl) hJ ?_
  intro p e s m below meth c ls hF hr hlk hl hG
  obtain ⟨hx, hb, hml, hown, hts⟩ := hF.1
  have hl : lv_has ls 1 [(0, .ref (ad 0 0))] := hl
  refine lv_aload_n hx hb d_X_disputes_0 rfl (lv_at hl 0 rfl) ?_
  refine gf_X_46_0 hF hG (v := (S.1 0 0 7)) rfl d_X_disputes_1 ?_
  exact z_iret hF hr hlk hG rfl rfl d_X_disputes_4
