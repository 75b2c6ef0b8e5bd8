def f_H_place (x0 : Int32) (x1 : Int32) : Int32 := ((x0 * 16) + x1)
set_option maxHeartbeats 4000000 in
set_option maxRecDepth 100000 in
theorem c_H_place (l : Launch) (D : va_G) (C : Nat → ClassId) (ad : Nat → Nat → Nat) (hJ : z_J ad) (S : z_S) (x0 : Int32) (x1 : Int32)  : z_M l y_H_place b_H_place 2 (some .int) rm_H_place D C ad [.int x0, .int x1] S (z_Qi D C ad (f_H_place x0 x1) S) := by
  refine z_enter (by decide) (Nat.le_of_ble_eq_true rfl) hJ ?_
  intro p e s m below meth c ls hF hr hlk hl hG
  obtain ⟨hx, hb, hml, hown, hts⟩ := hF.1
  have hl : lv_has ls 2 [(0, .int x0), (1, .int x1)] := hl
  refine lv_iload_n hx hb d_H_place_0 rfl (lv_at hl 0 rfl) ?_
  refine lv_bipush (v := 16) hx hb d_H_place_1 z_bi16 ?_
  refine lv_imul hx hb d_H_place_3 ?_
  refine lv_iload_n hx hb d_H_place_4 rfl (lv_at hl 1 rfl) ?_
  refine lv_iadd hx hb d_H_place_5 ?_
  exact z_iret hF hr hlk hG rfl rfl d_H_place_6
def f_H_shift (x0 : Int32) : Int32 := ((x0 - x0 / 4 * 4) * 8)
set_option maxHeartbeats 4000000 in
set_option maxRecDepth 100000 in
theorem c_H_shift (l : Launch) (D : va_G) (C : Nat → ClassId) (ad : Nat → Nat → Nat) (hJ : z_J ad) (S : z_S) (x0 : Int32)  : z_M l y_H_shift b_H_shift 1 (some .int) rm_H_shift D C ad [.int x0] S (z_Qi D C ad (f_H_shift x0) S) := by
  refine z_enter (by decide) (Nat.le_of_ble_eq_true rfl) hJ ?_
  intro p e s m below meth c ls hF hr hlk hl hG
  obtain ⟨hx, hb, hml, hown, hts⟩ := hF.1
  have hl : lv_has ls 1 [(0, .int x0)] := hl
  refine lv_iload_n hx hb d_H_shift_0 rfl (lv_at hl 0 rfl) ?_
  refine lv_iconst (v := 4) hx hb d_H_shift_1 z_k4 ?_
  refine lv_irem hx hb d_H_shift_2 (by decide) ?_
  refine lv_bipush (v := 8) hx hb d_H_shift_3 z_bi8 ?_
  refine lv_imul hx hb d_H_shift_5 ?_
  exact z_iret hF hr hlk hG rfl rfl d_H_shift_6
def f_H_byteOf (S : z_S) (o : Nat) (x0 : Int32) (x1 : Int32) : Int32 := (((S.1 13 o ((f_H_place x0 (x1 / 4)).toNatClampNeg)).toUInt32 >>> ((f_H_shift x1).toUInt32 &&& Int32.toUInt32 31)).toInt32 &&& 255)
set_option maxHeartbeats 4000000 in
set_option maxRecDepth 100000 in
theorem c_H_byteOf (l : Launch) (D : va_G) (C : Nat → ClassId) (ad : Nat → Nat → Nat) (hJ : z_J ad) (S : z_S) (o : Nat) (ho : o < z_n 12) (x0 : Int32) (x1 : Int32) (hin : vp_in (f_H_place x0 (x1 / 4)) 96) : z_M l y_H_byteOf b_H_byteOf 3 (some .int) rm_H_byteOf D C ad [.ref (ad 12 o), .int x0, .int x1] S (z_Qi D C ad (f_H_byteOf S o x0 x1) S) := by
  refine z_enter (by decide) (Nat.le_of_ble_eq_true rfl) hJ ?_
  intro p e s m below meth c ls hF hr hlk hl hG
  obtain ⟨hx, hb, hml, hown, hts⟩ := hF.1
  have hl : lv_has ls 3 [(0, .ref (ad 12 o)), (1, .int x0), (2, .int x1)] := hl
  refine lv_aload_n hx hb d_H_byteOf_0 rfl (lv_at hl 0 rfl) ?_
  refine gf_H_19_12 hF hG ho d_H_byteOf_1 ?_
  refine lv_iload_n hx hb d_H_byteOf_4 rfl (lv_at hl 1 rfl) ?_
  refine lv_iload_n hx hb d_H_byteOf_5 rfl (lv_at hl 2 rfl) ?_
  refine lv_iconst (v := 4) hx hb d_H_byteOf_6 z_k4 ?_
  refine lv_idiv hx hb d_H_byteOf_7 (by decide) ?_
  refine kc_H_27 hF (c_H_place l D C ad hF.2.2 _ _ _ ) hG ⟨Nat.le_of_ble_eq_true rfl, Nat.le_of_ble_eq_true rfl⟩ ⟨Nat.zero_le _, Nat.zero_le _⟩ hl.1 (Nat.le_of_ble_eq_true rfl) d_H_byteOf_8 (fun H locs hG => ?_)
  refine z_iald (n := 96) (j := (f_H_place x0 (x1 / 4)).toNatClampNeg) (v := (S.1 13 o ((f_H_place x0 (x1 / 4)).toNatClampNeg))) hF hG ho (z_c13 C ad _ _ _) rfl hin rfl d_H_byteOf_11 ?_
  refine lv_iload_n hx hb d_H_byteOf_12 rfl (lv_at hl 2 rfl) ?_
  refine kc_H_31 hF (c_H_shift l D C ad hF.2.2 _ _ ) hG ⟨Nat.le_of_ble_eq_true rfl, Nat.le_of_ble_eq_true rfl⟩ ⟨Nat.zero_le _, Nat.zero_le _⟩ hl.1 (Nat.le_of_ble_eq_true rfl) d_H_byteOf_13 (fun H locs hG => ?_)
  refine lv_iushr hx hb d_H_byteOf_16 rfl ?_
  refine lv_sipush (v := 255) hx hb d_H_byteOf_17 z_si255 ?_
  refine lv_iand hx hb d_H_byteOf_20 ?_
  exact z_iret hF hr hlk hG rfl rfl d_H_byteOf_21
def g_H_flip (S : z_S) (o : Nat) (x0 : Int32) (x1 : Int32) (x2 : Int32) : z_S := (z_sI S 13 o ((f_H_place x0 (x1 / 4)).toNatClampNeg) ((S.1 13 o ((f_H_place x0 (x1 / 4)).toNatClampNeg)) ^^^ (x2 <<< ((f_H_shift x1) &&& 31))))
set_option maxHeartbeats 4000000 in
set_option maxRecDepth 100000 in
theorem c_H_flip (l : Launch) (D : va_G) (C : Nat → ClassId) (ad : Nat → Nat → Nat) (hJ : z_J ad) (S : z_S) (o : Nat) (ho : o < z_n 12) (x0 : Int32) (x1 : Int32) (x2 : Int32) (hin : vp_in (f_H_place x0 (x1 / 4)) 96) : z_M l y_H_flip b_H_flip 4 none rm_H_flip D C ad [.ref (ad 12 o), .int x0, .int x1, .int x2] S (z_Qv D C ad (g_H_flip S o x0 x1 x2)) := by
  refine z_enter (by decide) (Nat.le_of_ble_eq_true rfl) hJ ?_
  intro p e s m below meth c ls hF hr hlk hl hG
  obtain ⟨hx, hb, hml, hown, hts⟩ := hF.1
  have hl : lv_has ls 4 [(0, .ref (ad 12 o)), (1, .int x0), (2, .int x1), (3, .int x2)] := hl
  refine lv_aload_n hx hb d_H_flip_0 rfl (lv_at hl 0 rfl) ?_
  refine gf_H_19_12 hF hG ho d_H_flip_1 ?_
  refine lv_iload_n hx hb d_H_flip_4 rfl (lv_at hl 1 rfl) ?_
  refine lv_iload_n hx hb d_H_flip_5 rfl (lv_at hl 2 rfl) ?_
  refine lv_iconst (v := 4) hx hb d_H_flip_6 z_k4 ?_
  refine lv_idiv hx hb d_H_flip_7 (by decide) ?_
  refine kc_H_27 hF (c_H_place l D C ad hF.2.2 _ _ _ ) hG ⟨Nat.le_of_ble_eq_true rfl, Nat.le_of_ble_eq_true rfl⟩ ⟨Nat.zero_le _, Nat.zero_le _⟩ hl.1 (Nat.le_of_ble_eq_true rfl) d_H_flip_8 (fun H locs hG => ?_)
  refine lv_dup2_11 hx hb d_H_flip_11 rfl rfl ?_
  refine z_iald (n := 96) (j := (f_H_place x0 (x1 / 4)).toNatClampNeg) (v := (S.1 13 o ((f_H_place x0 (x1 / 4)).toNatClampNeg))) hF hG ho (z_c13 C ad _ _ _) rfl hin rfl d_H_flip_12 ?_
  refine lv_iload_n hx hb d_H_flip_13 rfl (lv_at hl 3 rfl) ?_
  refine lv_iload_n hx hb d_H_flip_14 rfl (lv_at hl 2 rfl) ?_
  refine kc_H_31 hF (c_H_shift l D C ad hF.2.2 _ _ ) hG ⟨Nat.le_of_ble_eq_true rfl, Nat.le_of_ble_eq_true rfl⟩ ⟨Nat.zero_le _, Nat.zero_le _⟩ hl.1 (Nat.le_of_ble_eq_true rfl) d_H_flip_15 (fun H locs hG => ?_)
  refine lv_ishl hx hb d_H_flip_18 ?_
  refine lv_ixor hx hb d_H_flip_19 ?_
  refine z_iast (n := 96) (j := (f_H_place x0 (x1 / 4)).toNatClampNeg) hF hG ho (fun f g => z_c13 C ad f g _) rfl hin d_H_flip_20 (fun H locs hG => ?_)
  exact z_vret hF hr hlk hG rfl d_H_flip_21
def g_H_mend (S : z_S) (o : Nat) (x0 : Int32) (x1 : Int32) (x2 : Int32) : z_S := (z_sI (z_sI S 13 o ((f_H_place x0 x1).toNatClampNeg) x2) 12 o 1 ((S.1 12 o 1) + 1))
set_option maxHeartbeats 4000000 in
set_option maxRecDepth 100000 in
theorem c_H_mend (l : Launch) (D : va_G) (C : Nat → ClassId) (ad : Nat → Nat → Nat) (hJ : z_J ad) (S : z_S) (o : Nat) (ho : o < z_n 12) (x0 : Int32) (x1 : Int32) (x2 : Int32) (hin : vp_in (f_H_place x0 x1) 96) : z_M l y_H_mend b_H_mend 4 none rm_H_mend D C ad [.ref (ad 12 o), .int x0, .int x1, .int x2] S (z_Qv D C ad (g_H_mend S o x0 x1 x2)) := by
  refine z_enter (by decide) (Nat.le_of_ble_eq_true rfl) hJ ?_
  intro p e s m below meth c ls hF hr hlk hl hG
  obtain ⟨hx, hb, hml, hown, hts⟩ := hF.1
  have hl : lv_has ls 4 [(0, .ref (ad 12 o)), (1, .int x0), (2, .int x1), (3, .int x2)] := hl
  refine lv_aload_n hx hb d_H_mend_0 rfl (lv_at hl 0 rfl) ?_
  refine gf_H_19_12 hF hG ho d_H_mend_1 ?_
  refine lv_iload_n hx hb d_H_mend_4 rfl (lv_at hl 1 rfl) ?_
  refine lv_iload_n hx hb d_H_mend_5 rfl (lv_at hl 2 rfl) ?_
  refine kc_H_27 hF (c_H_place l D C ad hF.2.2 _ _ _ ) hG ⟨Nat.le_of_ble_eq_true rfl, Nat.le_of_ble_eq_true rfl⟩ ⟨Nat.zero_le _, Nat.zero_le _⟩ hl.1 (Nat.le_of_ble_eq_true rfl) d_H_mend_6 (fun H locs hG => ?_)
  refine lv_iload_n hx hb d_H_mend_9 rfl (lv_at hl 3 rfl) ?_
  refine z_iast (n := 96) (j := (f_H_place x0 x1).toNatClampNeg) hF hG ho (fun f g => z_c13 C ad f g _) rfl hin d_H_mend_10 (fun H locs hG => ?_)
  refine lv_aload_n hx hb d_H_mend_11 rfl (lv_at hl 0 rfl) ?_
  refine lv_dup hx hb d_H_mend_12 rfl ?_
  refine gf_H_15_12 hF hG ho (v := (S.1 12 o 1)) rfl d_H_mend_13 ?_
  refine lv_iconst (v := 1) hx hb d_H_mend_16 z_k1 ?_
  refine lv_iadd hx hb d_H_mend_17 ?_
  refine pf_H_15_12 hF hG ho d_H_mend_18 (fun H locs hG => ?_)
  exact z_vret hF hr hlk hG rfl d_H_mend_21
def f_H_bytesOfPart (S : z_S) (o : Nat) (x0 : Int32) (x1 : Int32) : Int64 := ((((S.1 13 o ((f_H_place x0 (x1 + 8)).toNatClampNeg)).toInt64) <<< ((32 : Int32).toInt64 &&& 63)) ||| (((S.1 13 o ((f_H_place x0 x1).toNatClampNeg)).toInt64) &&& 4294967295))
set_option maxHeartbeats 4000000 in
set_option maxRecDepth 100000 in
theorem c_H_bytesOfPart (l : Launch) (D : va_G) (C : Nat → ClassId) (ad : Nat → Nat → Nat) (hJ : z_J ad) (S : z_S) (o : Nat) (ho : o < z_n 12) (x0 : Int32) (x1 : Int32) (h1 : vp_in (f_H_place x0 x1) 96) (h2 : vp_in (f_H_place x0 (x1 + 8)) 96) : z_M l y_H_bytesOfPart b_H_bytesOfPart 7 (some .long) rm_H_bytesOfPart D C ad [.ref (ad 12 o), .int x0, .int x1] S (z_Ql D C ad (f_H_bytesOfPart S o x0 x1) S) := by
  refine z_enter (by decide) (Nat.le_of_ble_eq_true rfl) hJ ?_
  intro p e s m below meth c ls hF hr hlk hl hG
  obtain ⟨hx, hb, hml, hown, hts⟩ := hF.1
  have hl : lv_has ls 7 [(0, .ref (ad 12 o)), (1, .int x0), (2, .int x1)] := hl
  refine lv_aload_n hx hb d_H_bytesOfPart_0 rfl (lv_at hl 0 rfl) ?_
  refine gf_H_19_12 hF hG ho d_H_bytesOfPart_1 ?_
  refine lv_iload_n hx hb d_H_bytesOfPart_4 rfl (lv_at hl 1 rfl) ?_
  refine lv_iload_n hx hb d_H_bytesOfPart_5 rfl (lv_at hl 2 rfl) ?_
  refine kc_H_27 hF (c_H_place l D C ad hF.2.2 _ _ _ ) hG ⟨Nat.le_of_ble_eq_true rfl, Nat.le_of_ble_eq_true rfl⟩ ⟨Nat.zero_le _, Nat.zero_le _⟩ hl.1 (Nat.le_of_ble_eq_true rfl) d_H_bytesOfPart_6 (fun H locs hG => ?_)
  refine z_iald (n := 96) (j := (f_H_place x0 x1).toNatClampNeg) (v := (S.1 13 o ((f_H_place x0 x1).toNatClampNeg))) hF hG ho (z_c13 C ad _ _ _) rfl h1 rfl d_H_bytesOfPart_9 ?_
  refine lv_i2l hx hb d_H_bytesOfPart_10 rfl ?_
  refine lv_ldc2 (v := 4294967295) hx hb hown (hts _ wk_H_35) d_H_bytesOfPart_11 ?_
  refine lv_land hx hb d_H_bytesOfPart_14 ?_
  refine lv_lstore_n (lv' := [(3, .long (((S.1 13 o ((f_H_place x0 x1).toNatClampNeg)).toInt64) &&& 4294967295)), (0, .ref (ad 12 o)), (1, .int x0), (2, .int x1)]) hx hb d_H_bytesOfPart_15 rfl hl (Nat.le_of_ble_eq_true rfl) rfl (fun ls hl => ?_)
  refine lv_aload_n hx hb d_H_bytesOfPart_16 rfl (lv_at hl 1 rfl) ?_
  refine gf_H_19_12 hF hG ho d_H_bytesOfPart_17 ?_
  refine lv_iload_n hx hb d_H_bytesOfPart_20 rfl (lv_at hl 2 rfl) ?_
  refine lv_iload_n hx hb d_H_bytesOfPart_21 rfl (lv_at hl 3 rfl) ?_
  refine lv_bipush (v := 8) hx hb d_H_bytesOfPart_22 z_bi8 ?_
  refine lv_iadd hx hb d_H_bytesOfPart_24 ?_
  refine kc_H_27 hF (c_H_place l D C ad hF.2.2 _ _ _ ) hG ⟨Nat.le_of_ble_eq_true rfl, Nat.le_of_ble_eq_true rfl⟩ ⟨Nat.zero_le _, Nat.zero_le _⟩ hl.1 (Nat.le_of_ble_eq_true rfl) d_H_bytesOfPart_25 (fun H locs hG => ?_)
  refine z_iald (n := 96) (j := (f_H_place x0 (x1 + 8)).toNatClampNeg) (v := (S.1 13 o ((f_H_place x0 (x1 + 8)).toNatClampNeg))) hF hG ho (z_c13 C ad _ _ _) rfl h2 rfl d_H_bytesOfPart_28 ?_
  refine lv_i2l hx hb d_H_bytesOfPart_29 rfl ?_
  refine lv_lstore (lv' := [(5, .long ((S.1 13 o ((f_H_place x0 (x1 + 8)).toNatClampNeg)).toInt64)), (3, .long (((S.1 13 o ((f_H_place x0 x1).toNatClampNeg)).toInt64) &&& 4294967295)), (0, .ref (ad 12 o)), (1, .int x0), (2, .int x1)]) hx hb d_H_bytesOfPart_30 hl (Nat.le_of_ble_eq_true rfl) rfl (fun ls hl => ?_)
  refine lv_lload hx hb d_H_bytesOfPart_32 (lv_at hl 0 rfl) ?_
  refine lv_bipush (v := 32) hx hb d_H_bytesOfPart_34 z_bi32 ?_
  refine lv_lshl hx hb d_H_bytesOfPart_36 rfl ?_
  refine lv_lload_n hx hb d_H_bytesOfPart_37 rfl (lv_at hl 1 rfl) ?_
  refine lv_lor hx hb d_H_bytesOfPart_38 ?_
  exact z_lret hF hr hlk hG rfl rfl d_H_bytesOfPart_39
def f_H_sumOfPart (S : z_S) (o : Nat) (x0 : Int32) (x1 : Int32) (x2 : Int32) (x3 : Int64) : Int64 := (if x2 ≤ x1 then x3 else (if x2 ≤ (x1 + 8) then ((((((((((((x3 ^^^ (x0.toInt64)) * 1099511628211) ^^^ (x1.toInt64)) * 1099511628211) ^^^ ((f_H_byteOf S o x0 ((x1 * 4) + 0)).toInt64)) * 1099511628211) ^^^ ((f_H_byteOf S o x0 ((x1 * 4) + 1)).toInt64)) * 1099511628211) ^^^ ((f_H_byteOf S o x0 ((x1 * 4) + 2)).toInt64)) * 1099511628211) ^^^ ((f_H_byteOf S o x0 ((x1 * 4) + 3)).toInt64)) * 1099511628211) else ((((((((((((((((((((((((x3 ^^^ (x0.toInt64)) * 1099511628211) ^^^ (x1.toInt64)) * 1099511628211) ^^^ ((f_H_byteOf S o x0 ((x1 * 4) + 0)).toInt64)) * 1099511628211) ^^^ ((f_H_byteOf S o x0 ((x1 * 4) + 1)).toInt64)) * 1099511628211) ^^^ ((f_H_byteOf S o x0 ((x1 * 4) + 2)).toInt64)) * 1099511628211) ^^^ ((f_H_byteOf S o x0 ((x1 * 4) + 3)).toInt64)) * 1099511628211) ^^^ (x0.toInt64)) * 1099511628211) ^^^ ((x1 + 8).toInt64)) * 1099511628211) ^^^ ((f_H_byteOf S o x0 (((x1 + 8) * 4) + 0)).toInt64)) * 1099511628211) ^^^ ((f_H_byteOf S o x0 (((x1 + 8) * 4) + 1)).toInt64)) * 1099511628211) ^^^ ((f_H_byteOf S o x0 (((x1 + 8) * 4) + 2)).toInt64)) * 1099511628211) ^^^ ((f_H_byteOf S o x0 (((x1 + 8) * 4) + 3)).toInt64)) * 1099511628211)))
set_option maxHeartbeats 4000000 in
set_option maxRecDepth 100000 in
theorem c_H_sumOfPart (l : Launch) (D : va_G) (C : Nat → ClassId) (ad : Nat → Nat → Nat) (hJ : z_J ad) (S : z_S) (o : Nat) (ho : o < z_n 12) (x0 : Int32) (x1 : Int32) (x2 : Int32) (x3 : Int64) (hd : vp_in x0 6) (hp : vp_in x1 8) (hq : x2.toInt ≤ 16) : z_M l y_H_sumOfPart b_H_sumOfPart 10 (some .long) rm_H_sumOfPart D C ad [.ref (ad 12 o), .int x0, .int x1, .int x2, .long x3] S (z_Ql D C ad (f_H_sumOfPart S o x0 x1 x2 x3) S) := by
  refine z_enter (by decide) (Nat.le_of_ble_eq_true rfl) hJ ?_
  intro p e s m below meth c ls hF hr hlk hl hG
  obtain ⟨hx, hb, hml, hown, hts⟩ := hF.1
  have hl : lv_has ls 10 [(0, .ref (ad 12 o)), (1, .int x0), (2, .int x1), (3, .int x2), (4, .long x3)] := hl
  refine lv_lload hx hb d_H_sumOfPart_0 (lv_at hl 4 rfl) ?_
  refine lv_lstore (lv' := [(6, .long x3), (0, .ref (ad 12 o)), (1, .int x0), (2, .int x1), (3, .int x2), (4, .long x3)]) hx hb d_H_sumOfPart_2 hl (Nat.le_of_ble_eq_true rfl) rfl (fun ls hl => ?_)
  refine lv_iload_n hx hb d_H_sumOfPart_4 rfl (lv_at hl 3 rfl) ?_
  refine lv_istore (lv' := [(8, .int x1), (6, .long x3), (0, .ref (ad 12 o)), (1, .int x0), (2, .int x1), (3, .int x2), (4, .long x3)]) hx hb d_H_sumOfPart_5 hl (Nat.le_of_ble_eq_true rfl) rfl (fun ls hl => ?_)
  refine lv_iload hx hb d_H_sumOfPart_7 (lv_at hl 0 rfl) ?_
  refine lv_iload_n hx hb d_H_sumOfPart_9 rfl (lv_at hl 5 rfl) ?_
  refine lv_icmp_ge (tgt := 79) hx hb d_H_sumOfPart_10 rfl (fun h10 => ?_) (fun h10 => ?_)
  ·
    refine lv_lload hx hb d_H_sumOfPart_79 (lv_at hl 1 rfl) ?_
    exact z_lret hF hr hlk hG (Eq.symm ((if_pos h10).trans rfl)) rfl d_H_sumOfPart_81
  ·
    refine lv_lload hx hb d_H_sumOfPart_13 (lv_at hl 1 rfl) ?_
    refine lv_iload_n hx hb d_H_sumOfPart_15 rfl (lv_at hl 3 rfl) ?_
    refine lv_i2l hx hb d_H_sumOfPart_16 rfl ?_
    refine lv_lxor hx hb d_H_sumOfPart_17 ?_
    refine lv_ldc2 (v := 1099511628211) hx hb hown (hts _ wk_H_37) d_H_sumOfPart_18 ?_
    refine lv_lmul hx hb d_H_sumOfPart_21 ?_
    refine lv_lstore (lv' := [(6, .long ((x3 ^^^ (x0.toInt64)) * 1099511628211)), (8, .int x1), (0, .ref (ad 12 o)), (1, .int x0), (2, .int x1), (3, .int x2), (4, .long x3)]) hx hb d_H_sumOfPart_22 hl (Nat.le_of_ble_eq_true rfl) rfl (fun ls hl => ?_)
    refine lv_lload hx hb d_H_sumOfPart_24 (lv_at hl 0 rfl) ?_
    refine lv_iload hx hb d_H_sumOfPart_26 (lv_at hl 1 rfl) ?_
    refine lv_i2l hx hb d_H_sumOfPart_28 rfl ?_
    refine lv_lxor hx hb d_H_sumOfPart_29 ?_
    refine lv_ldc2 (v := 1099511628211) hx hb hown (hts _ wk_H_37) d_H_sumOfPart_30 ?_
    refine lv_lmul hx hb d_H_sumOfPart_33 ?_
    refine lv_lstore (lv' := [(6, .long ((((x3 ^^^ (x0.toInt64)) * 1099511628211) ^^^ (x1.toInt64)) * 1099511628211)), (8, .int x1), (0, .ref (ad 12 o)), (1, .int x0), (2, .int x1), (3, .int x2), (4, .long x3)]) hx hb d_H_sumOfPart_34 hl (Nat.le_of_ble_eq_true rfl) rfl (fun ls hl => ?_)
    refine lv_iconst (v := 0) hx hb d_H_sumOfPart_36 z_k0 ?_
    refine lv_istore (lv' := [(9, .int 0), (6, .long ((((x3 ^^^ (x0.toInt64)) * 1099511628211) ^^^ (x1.toInt64)) * 1099511628211)), (8, .int x1), (0, .ref (ad 12 o)), (1, .int x0), (2, .int x1), (3, .int x2), (4, .long x3)]) hx hb d_H_sumOfPart_37 hl (Nat.le_of_ble_eq_true rfl) rfl (fun ls hl => ?_)
    refine lv_iload hx hb d_H_sumOfPart_39 (lv_at hl 0 rfl) ?_
    refine lv_iconst (v := 4) hx hb d_H_sumOfPart_41 z_k4 ?_
    refine lv_icmp_ge (tgt := 73) hx hb d_H_sumOfPart_42 rfl (fun h => absurd h (by decide)) (fun _ => ?_)
    refine lv_lload hx hb d_H_sumOfPart_45 (lv_at hl 1 rfl) ?_
    refine lv_aload_n hx hb d_H_sumOfPart_47 rfl (lv_at hl 3 rfl) ?_
    refine lv_iload_n hx hb d_H_sumOfPart_48 rfl (lv_at hl 4 rfl) ?_
    refine lv_iload hx hb d_H_sumOfPart_49 (lv_at hl 2 rfl) ?_
    refine lv_iconst (v := 4) hx hb d_H_sumOfPart_51 z_k4 ?_
    refine lv_imul hx hb d_H_sumOfPart_52 ?_
    refine lv_iload hx hb d_H_sumOfPart_53 (lv_at hl 0 rfl) ?_
    refine lv_iadd hx hb d_H_sumOfPart_55 ?_
    refine kc_H_39 hF (c_H_byteOf l D C ad hF.2.2 _ _ ho _ _ (z_spa0 hd hp)) hG ho ⟨Nat.le_of_ble_eq_true rfl, Nat.le_of_ble_eq_true rfl⟩ ⟨Nat.zero_le _, Nat.zero_le _⟩ hl.1 (Nat.le_of_ble_eq_true rfl) d_H_sumOfPart_56 (fun H locs hG => ?_)
    refine lv_i2l hx hb d_H_sumOfPart_59 rfl ?_
    refine lv_lxor hx hb d_H_sumOfPart_60 ?_
    refine lv_ldc2 (v := 1099511628211) hx hb hown (hts _ wk_H_37) d_H_sumOfPart_61 ?_
    refine lv_lmul hx hb d_H_sumOfPart_64 ?_
    refine lv_lstore (lv' := [(6, .long ((((((x3 ^^^ (x0.toInt64)) * 1099511628211) ^^^ (x1.toInt64)) * 1099511628211) ^^^ ((f_H_byteOf S o x0 ((x1 * 4) + 0)).toInt64)) * 1099511628211)), (9, .int 0), (8, .int x1), (0, .ref (ad 12 o)), (1, .int x0), (2, .int x1), (3, .int x2), (4, .long x3)]) hx hb d_H_sumOfPart_65 hl (Nat.le_of_ble_eq_true rfl) rfl (fun ls hl => ?_)
    refine lv_iinc (k := 1) (v := 1) (lv' := [(9, .int 1), (6, .long ((((((x3 ^^^ (x0.toInt64)) * 1099511628211) ^^^ (x1.toInt64)) * 1099511628211) ^^^ ((f_H_byteOf S o x0 ((x1 * 4) + 0)).toInt64)) * 1099511628211)), (8, .int x1), (0, .ref (ad 12 o)), (1, .int x0), (2, .int x1), (3, .int x2), (4, .long x3)]) hx hb d_H_sumOfPart_67 hl rfl (by decide) (Nat.le_of_ble_eq_true rfl) rfl (fun ls hl => ?_)
    refine lv_goto (tgt := 39) hx hb d_H_sumOfPart_70 rfl ?_
    refine lv_iload hx hb d_H_sumOfPart_39 (lv_at hl 0 rfl) ?_
    refine lv_iconst (v := 4) hx hb d_H_sumOfPart_41 z_k4 ?_
    refine lv_icmp_ge (tgt := 73) hx hb d_H_sumOfPart_42 rfl (fun h => absurd h (by decide)) (fun _ => ?_)
    refine lv_lload hx hb d_H_sumOfPart_45 (lv_at hl 1 rfl) ?_
    refine lv_aload_n hx hb d_H_sumOfPart_47 rfl (lv_at hl 3 rfl) ?_
    refine lv_iload_n hx hb d_H_sumOfPart_48 rfl (lv_at hl 4 rfl) ?_
    refine lv_iload hx hb d_H_sumOfPart_49 (lv_at hl 2 rfl) ?_
    refine lv_iconst (v := 4) hx hb d_H_sumOfPart_51 z_k4 ?_
    refine lv_imul hx hb d_H_sumOfPart_52 ?_
    refine lv_iload hx hb d_H_sumOfPart_53 (lv_at hl 0 rfl) ?_
    refine lv_iadd hx hb d_H_sumOfPart_55 ?_
    refine kc_H_39 hF (c_H_byteOf l D C ad hF.2.2 _ _ ho _ _ (z_spa1 hd hp)) hG ho ⟨Nat.le_of_ble_eq_true rfl, Nat.le_of_ble_eq_true rfl⟩ ⟨Nat.zero_le _, Nat.zero_le _⟩ hl.1 (Nat.le_of_ble_eq_true rfl) d_H_sumOfPart_56 (fun H locs hG => ?_)
    refine lv_i2l hx hb d_H_sumOfPart_59 rfl ?_
    refine lv_lxor hx hb d_H_sumOfPart_60 ?_
    refine lv_ldc2 (v := 1099511628211) hx hb hown (hts _ wk_H_37) d_H_sumOfPart_61 ?_
    refine lv_lmul hx hb d_H_sumOfPart_64 ?_
    refine lv_lstore (lv' := [(6, .long ((((((((x3 ^^^ (x0.toInt64)) * 1099511628211) ^^^ (x1.toInt64)) * 1099511628211) ^^^ ((f_H_byteOf S o x0 ((x1 * 4) + 0)).toInt64)) * 1099511628211) ^^^ ((f_H_byteOf S o x0 ((x1 * 4) + 1)).toInt64)) * 1099511628211)), (9, .int 1), (8, .int x1), (0, .ref (ad 12 o)), (1, .int x0), (2, .int x1), (3, .int x2), (4, .long x3)]) hx hb d_H_sumOfPart_65 hl (Nat.le_of_ble_eq_true rfl) rfl (fun ls hl => ?_)
    refine lv_iinc (k := 1) (v := 2) (lv' := [(9, .int 2), (6, .long ((((((((x3 ^^^ (x0.toInt64)) * 1099511628211) ^^^ (x1.toInt64)) * 1099511628211) ^^^ ((f_H_byteOf S o x0 ((x1 * 4) + 0)).toInt64)) * 1099511628211) ^^^ ((f_H_byteOf S o x0 ((x1 * 4) + 1)).toInt64)) * 1099511628211)), (8, .int x1), (0, .ref (ad 12 o)), (1, .int x0), (2, .int x1), (3, .int x2), (4, .long x3)]) hx hb d_H_sumOfPart_67 hl rfl (by decide) (Nat.le_of_ble_eq_true rfl) rfl (fun ls hl => ?_)
    refine lv_goto (tgt := 39) hx hb d_H_sumOfPart_70 rfl ?_
    refine lv_iload hx hb d_H_sumOfPart_39 (lv_at hl 0 rfl) ?_
    refine lv_iconst (v := 4) hx hb d_H_sumOfPart_41 z_k4 ?_
    refine lv_icmp_ge (tgt := 73) hx hb d_H_sumOfPart_42 rfl (fun h => absurd h (by decide)) (fun _ => ?_)
    refine lv_lload hx hb d_H_sumOfPart_45 (lv_at hl 1 rfl) ?_
    refine lv_aload_n hx hb d_H_sumOfPart_47 rfl (lv_at hl 3 rfl) ?_
    refine lv_iload_n hx hb d_H_sumOfPart_48 rfl (lv_at hl 4 rfl) ?_
    refine lv_iload hx hb d_H_sumOfPart_49 (lv_at hl 2 rfl) ?_
    refine lv_iconst (v := 4) hx hb d_H_sumOfPart_51 z_k4 ?_
    refine lv_imul hx hb d_H_sumOfPart_52 ?_
    refine lv_iload hx hb d_H_sumOfPart_53 (lv_at hl 0 rfl) ?_
    refine lv_iadd hx hb d_H_sumOfPart_55 ?_
    refine kc_H_39 hF (c_H_byteOf l D C ad hF.2.2 _ _ ho _ _ (z_spa2 hd hp)) hG ho ⟨Nat.le_of_ble_eq_true rfl, Nat.le_of_ble_eq_true rfl⟩ ⟨Nat.zero_le _, Nat.zero_le _⟩ hl.1 (Nat.le_of_ble_eq_true rfl) d_H_sumOfPart_56 (fun H locs hG => ?_)
    refine lv_i2l hx hb d_H_sumOfPart_59 rfl ?_
    refine lv_lxor hx hb d_H_sumOfPart_60 ?_
    refine lv_ldc2 (v := 1099511628211) hx hb hown (hts _ wk_H_37) d_H_sumOfPart_61 ?_
    refine lv_lmul hx hb d_H_sumOfPart_64 ?_
    refine lv_lstore (lv' := [(6, .long ((((((((((x3 ^^^ (x0.toInt64)) * 1099511628211) ^^^ (x1.toInt64)) * 1099511628211) ^^^ ((f_H_byteOf S o x0 ((x1 * 4) + 0)).toInt64)) * 1099511628211) ^^^ ((f_H_byteOf S o x0 ((x1 * 4) + 1)).toInt64)) * 1099511628211) ^^^ ((f_H_byteOf S o x0 ((x1 * 4) + 2)).toInt64)) * 1099511628211)), (9, .int 2), (8, .int x1), (0, .ref (ad 12 o)), (1, .int x0), (2, .int x1), (3, .int x2), (4, .long x3)]) hx hb d_H_sumOfPart_65 hl (Nat.le_of_ble_eq_true rfl) rfl (fun ls hl => ?_)
    refine lv_iinc (k := 1) (v := 3) (lv' := [(9, .int 3), (6, .long ((((((((((x3 ^^^ (x0.toInt64)) * 1099511628211) ^^^ (x1.toInt64)) * 1099511628211) ^^^ ((f_H_byteOf S o x0 ((x1 * 4) + 0)).toInt64)) * 1099511628211) ^^^ ((f_H_byteOf S o x0 ((x1 * 4) + 1)).toInt64)) * 1099511628211) ^^^ ((f_H_byteOf S o x0 ((x1 * 4) + 2)).toInt64)) * 1099511628211)), (8, .int x1), (0, .ref (ad 12 o)), (1, .int x0), (2, .int x1), (3, .int x2), (4, .long x3)]) hx hb d_H_sumOfPart_67 hl rfl (by decide) (Nat.le_of_ble_eq_true rfl) rfl (fun ls hl => ?_)
    refine lv_goto (tgt := 39) hx hb d_H_sumOfPart_70 rfl ?_
    refine lv_iload hx hb d_H_sumOfPart_39 (lv_at hl 0 rfl) ?_
    refine lv_iconst (v := 4) hx hb d_H_sumOfPart_41 z_k4 ?_
    refine lv_icmp_ge (tgt := 73) hx hb d_H_sumOfPart_42 rfl (fun h => absurd h (by decide)) (fun _ => ?_)
    refine lv_lload hx hb d_H_sumOfPart_45 (lv_at hl 1 rfl) ?_
    refine lv_aload_n hx hb d_H_sumOfPart_47 rfl (lv_at hl 3 rfl) ?_
    refine lv_iload_n hx hb d_H_sumOfPart_48 rfl (lv_at hl 4 rfl) ?_
    refine lv_iload hx hb d_H_sumOfPart_49 (lv_at hl 2 rfl) ?_
    refine lv_iconst (v := 4) hx hb d_H_sumOfPart_51 z_k4 ?_
    refine lv_imul hx hb d_H_sumOfPart_52 ?_
    refine lv_iload hx hb d_H_sumOfPart_53 (lv_at hl 0 rfl) ?_
    refine lv_iadd hx hb d_H_sumOfPart_55 ?_
    refine kc_H_39 hF (c_H_byteOf l D C ad hF.2.2 _ _ ho _ _ (z_spa3 hd hp)) hG ho ⟨Nat.le_of_ble_eq_true rfl, Nat.le_of_ble_eq_true rfl⟩ ⟨Nat.zero_le _, Nat.zero_le _⟩ hl.1 (Nat.le_of_ble_eq_true rfl) d_H_sumOfPart_56 (fun H locs hG => ?_)
    refine lv_i2l hx hb d_H_sumOfPart_59 rfl ?_
    refine lv_lxor hx hb d_H_sumOfPart_60 ?_
    refine lv_ldc2 (v := 1099511628211) hx hb hown (hts _ wk_H_37) d_H_sumOfPart_61 ?_
    refine lv_lmul hx hb d_H_sumOfPart_64 ?_
    refine lv_lstore (lv' := [(6, .long ((((((((((((x3 ^^^ (x0.toInt64)) * 1099511628211) ^^^ (x1.toInt64)) * 1099511628211) ^^^ ((f_H_byteOf S o x0 ((x1 * 4) + 0)).toInt64)) * 1099511628211) ^^^ ((f_H_byteOf S o x0 ((x1 * 4) + 1)).toInt64)) * 1099511628211) ^^^ ((f_H_byteOf S o x0 ((x1 * 4) + 2)).toInt64)) * 1099511628211) ^^^ ((f_H_byteOf S o x0 ((x1 * 4) + 3)).toInt64)) * 1099511628211)), (9, .int 3), (8, .int x1), (0, .ref (ad 12 o)), (1, .int x0), (2, .int x1), (3, .int x2), (4, .long x3)]) hx hb d_H_sumOfPart_65 hl (Nat.le_of_ble_eq_true rfl) rfl (fun ls hl => ?_)
    refine lv_iinc (k := 1) (v := 4) (lv' := [(9, .int 4), (6, .long ((((((((((((x3 ^^^ (x0.toInt64)) * 1099511628211) ^^^ (x1.toInt64)) * 1099511628211) ^^^ ((f_H_byteOf S o x0 ((x1 * 4) + 0)).toInt64)) * 1099511628211) ^^^ ((f_H_byteOf S o x0 ((x1 * 4) + 1)).toInt64)) * 1099511628211) ^^^ ((f_H_byteOf S o x0 ((x1 * 4) + 2)).toInt64)) * 1099511628211) ^^^ ((f_H_byteOf S o x0 ((x1 * 4) + 3)).toInt64)) * 1099511628211)), (8, .int x1), (0, .ref (ad 12 o)), (1, .int x0), (2, .int x1), (3, .int x2), (4, .long x3)]) hx hb d_H_sumOfPart_67 hl rfl (by decide) (Nat.le_of_ble_eq_true rfl) rfl (fun ls hl => ?_)
    refine lv_goto (tgt := 39) hx hb d_H_sumOfPart_70 rfl ?_
    refine lv_iload hx hb d_H_sumOfPart_39 (lv_at hl 0 rfl) ?_
    refine lv_iconst (v := 4) hx hb d_H_sumOfPart_41 z_k4 ?_
    refine lv_icmp_ge (tgt := 73) hx hb d_H_sumOfPart_42 rfl (fun _ => ?_) (fun h => absurd h (by decide))
    refine lv_iinc (k := 2) (v := (x1 + 8)) (lv' := [(8, .int (x1 + 8)), (9, .int 4), (6, .long ((((((((((((x3 ^^^ (x0.toInt64)) * 1099511628211) ^^^ (x1.toInt64)) * 1099511628211) ^^^ ((f_H_byteOf S o x0 ((x1 * 4) + 0)).toInt64)) * 1099511628211) ^^^ ((f_H_byteOf S o x0 ((x1 * 4) + 1)).toInt64)) * 1099511628211) ^^^ ((f_H_byteOf S o x0 ((x1 * 4) + 2)).toInt64)) * 1099511628211) ^^^ ((f_H_byteOf S o x0 ((x1 * 4) + 3)).toInt64)) * 1099511628211)), (0, .ref (ad 12 o)), (1, .int x0), (2, .int x1), (3, .int x2), (4, .long x3)]) hx hb d_H_sumOfPart_73 hl rfl (by rw [z_k8]) (Nat.le_of_ble_eq_true rfl) rfl (fun ls hl => ?_)
    refine lv_goto (tgt := 7) hx hb d_H_sumOfPart_76 rfl ?_
    refine lv_iload hx hb d_H_sumOfPart_7 (lv_at hl 0 rfl) ?_
    refine lv_iload_n hx hb d_H_sumOfPart_9 rfl (lv_at hl 6 rfl) ?_
    refine lv_icmp_ge (tgt := 79) hx hb d_H_sumOfPart_10 rfl (fun h10_1 => ?_) (fun h10_1 => ?_)
    ·
      refine lv_lload hx hb d_H_sumOfPart_79 (lv_at hl 2 rfl) ?_
      exact z_lret hF hr hlk hG (Eq.symm ((if_neg h10).trans ((if_pos h10_1).trans rfl))) rfl d_H_sumOfPart_81
    ·
      refine lv_lload hx hb d_H_sumOfPart_13 (lv_at hl 2 rfl) ?_
      refine lv_iload_n hx hb d_H_sumOfPart_15 rfl (lv_at hl 4 rfl) ?_
      refine lv_i2l hx hb d_H_sumOfPart_16 rfl ?_
      refine lv_lxor hx hb d_H_sumOfPart_17 ?_
      refine lv_ldc2 (v := 1099511628211) hx hb hown (hts _ wk_H_37) d_H_sumOfPart_18 ?_
      refine lv_lmul hx hb d_H_sumOfPart_21 ?_
      refine lv_lstore (lv' := [(6, .long ((((((((((((((x3 ^^^ (x0.toInt64)) * 1099511628211) ^^^ (x1.toInt64)) * 1099511628211) ^^^ ((f_H_byteOf S o x0 ((x1 * 4) + 0)).toInt64)) * 1099511628211) ^^^ ((f_H_byteOf S o x0 ((x1 * 4) + 1)).toInt64)) * 1099511628211) ^^^ ((f_H_byteOf S o x0 ((x1 * 4) + 2)).toInt64)) * 1099511628211) ^^^ ((f_H_byteOf S o x0 ((x1 * 4) + 3)).toInt64)) * 1099511628211) ^^^ (x0.toInt64)) * 1099511628211)), (8, .int (x1 + 8)), (9, .int 4), (0, .ref (ad 12 o)), (1, .int x0), (2, .int x1), (3, .int x2), (4, .long x3)]) hx hb d_H_sumOfPart_22 hl (Nat.le_of_ble_eq_true rfl) rfl (fun ls hl => ?_)
      refine lv_lload hx hb d_H_sumOfPart_24 (lv_at hl 0 rfl) ?_
      refine lv_iload hx hb d_H_sumOfPart_26 (lv_at hl 1 rfl) ?_
      refine lv_i2l hx hb d_H_sumOfPart_28 rfl ?_
      refine lv_lxor hx hb d_H_sumOfPart_29 ?_
      refine lv_ldc2 (v := 1099511628211) hx hb hown (hts _ wk_H_37) d_H_sumOfPart_30 ?_
      refine lv_lmul hx hb d_H_sumOfPart_33 ?_
      refine lv_lstore (lv' := [(6, .long ((((((((((((((((x3 ^^^ (x0.toInt64)) * 1099511628211) ^^^ (x1.toInt64)) * 1099511628211) ^^^ ((f_H_byteOf S o x0 ((x1 * 4) + 0)).toInt64)) * 1099511628211) ^^^ ((f_H_byteOf S o x0 ((x1 * 4) + 1)).toInt64)) * 1099511628211) ^^^ ((f_H_byteOf S o x0 ((x1 * 4) + 2)).toInt64)) * 1099511628211) ^^^ ((f_H_byteOf S o x0 ((x1 * 4) + 3)).toInt64)) * 1099511628211) ^^^ (x0.toInt64)) * 1099511628211) ^^^ ((x1 + 8).toInt64)) * 1099511628211)), (8, .int (x1 + 8)), (9, .int 4), (0, .ref (ad 12 o)), (1, .int x0), (2, .int x1), (3, .int x2), (4, .long x3)]) hx hb d_H_sumOfPart_34 hl (Nat.le_of_ble_eq_true rfl) rfl (fun ls hl => ?_)
      refine lv_iconst (v := 0) hx hb d_H_sumOfPart_36 z_k0 ?_
      refine lv_istore (lv' := [(9, .int 0), (6, .long ((((((((((((((((x3 ^^^ (x0.toInt64)) * 1099511628211) ^^^ (x1.toInt64)) * 1099511628211) ^^^ ((f_H_byteOf S o x0 ((x1 * 4) + 0)).toInt64)) * 1099511628211) ^^^ ((f_H_byteOf S o x0 ((x1 * 4) + 1)).toInt64)) * 1099511628211) ^^^ ((f_H_byteOf S o x0 ((x1 * 4) + 2)).toInt64)) * 1099511628211) ^^^ ((f_H_byteOf S o x0 ((x1 * 4) + 3)).toInt64)) * 1099511628211) ^^^ (x0.toInt64)) * 1099511628211) ^^^ ((x1 + 8).toInt64)) * 1099511628211)), (8, .int (x1 + 8)), (0, .ref (ad 12 o)), (1, .int x0), (2, .int x1), (3, .int x2), (4, .long x3)]) hx hb d_H_sumOfPart_37 hl (Nat.le_of_ble_eq_true rfl) rfl (fun ls hl => ?_)
      refine lv_iload hx hb d_H_sumOfPart_39 (lv_at hl 0 rfl) ?_
      refine lv_iconst (v := 4) hx hb d_H_sumOfPart_41 z_k4 ?_
      refine lv_icmp_ge (tgt := 73) hx hb d_H_sumOfPart_42 rfl (fun h => absurd h (by decide)) (fun _ => ?_)
      refine lv_lload hx hb d_H_sumOfPart_45 (lv_at hl 1 rfl) ?_
      refine lv_aload_n hx hb d_H_sumOfPart_47 rfl (lv_at hl 3 rfl) ?_
      refine lv_iload_n hx hb d_H_sumOfPart_48 rfl (lv_at hl 4 rfl) ?_
      refine lv_iload hx hb d_H_sumOfPart_49 (lv_at hl 2 rfl) ?_
      refine lv_iconst (v := 4) hx hb d_H_sumOfPart_51 z_k4 ?_
      refine lv_imul hx hb d_H_sumOfPart_52 ?_
      refine lv_iload hx hb d_H_sumOfPart_53 (lv_at hl 0 rfl) ?_
      refine lv_iadd hx hb d_H_sumOfPart_55 ?_
      refine kc_H_39 hF (c_H_byteOf l D C ad hF.2.2 _ _ ho _ _ (z_spb0 hd hp)) hG ho ⟨Nat.le_of_ble_eq_true rfl, Nat.le_of_ble_eq_true rfl⟩ ⟨Nat.zero_le _, Nat.zero_le _⟩ hl.1 (Nat.le_of_ble_eq_true rfl) d_H_sumOfPart_56 (fun H locs hG => ?_)
      refine lv_i2l hx hb d_H_sumOfPart_59 rfl ?_
      refine lv_lxor hx hb d_H_sumOfPart_60 ?_
      refine lv_ldc2 (v := 1099511628211) hx hb hown (hts _ wk_H_37) d_H_sumOfPart_61 ?_
      refine lv_lmul hx hb d_H_sumOfPart_64 ?_
      refine lv_lstore (lv' := [(6, .long ((((((((((((((((((x3 ^^^ (x0.toInt64)) * 1099511628211) ^^^ (x1.toInt64)) * 1099511628211) ^^^ ((f_H_byteOf S o x0 ((x1 * 4) + 0)).toInt64)) * 1099511628211) ^^^ ((f_H_byteOf S o x0 ((x1 * 4) + 1)).toInt64)) * 1099511628211) ^^^ ((f_H_byteOf S o x0 ((x1 * 4) + 2)).toInt64)) * 1099511628211) ^^^ ((f_H_byteOf S o x0 ((x1 * 4) + 3)).toInt64)) * 1099511628211) ^^^ (x0.toInt64)) * 1099511628211) ^^^ ((x1 + 8).toInt64)) * 1099511628211) ^^^ ((f_H_byteOf S o x0 (((x1 + 8) * 4) + 0)).toInt64)) * 1099511628211)), (9, .int 0), (8, .int (x1 + 8)), (0, .ref (ad 12 o)), (1, .int x0), (2, .int x1), (3, .int x2), (4, .long x3)]) hx hb d_H_sumOfPart_65 hl (Nat.le_of_ble_eq_true rfl) rfl (fun ls hl => ?_)
      refine lv_iinc (k := 1) (v := 1) (lv' := [(9, .int 1), (6, .long ((((((((((((((((((x3 ^^^ (x0.toInt64)) * 1099511628211) ^^^ (x1.toInt64)) * 1099511628211) ^^^ ((f_H_byteOf S o x0 ((x1 * 4) + 0)).toInt64)) * 1099511628211) ^^^ ((f_H_byteOf S o x0 ((x1 * 4) + 1)).toInt64)) * 1099511628211) ^^^ ((f_H_byteOf S o x0 ((x1 * 4) + 2)).toInt64)) * 1099511628211) ^^^ ((f_H_byteOf S o x0 ((x1 * 4) + 3)).toInt64)) * 1099511628211) ^^^ (x0.toInt64)) * 1099511628211) ^^^ ((x1 + 8).toInt64)) * 1099511628211) ^^^ ((f_H_byteOf S o x0 (((x1 + 8) * 4) + 0)).toInt64)) * 1099511628211)), (8, .int (x1 + 8)), (0, .ref (ad 12 o)), (1, .int x0), (2, .int x1), (3, .int x2), (4, .long x3)]) hx hb d_H_sumOfPart_67 hl rfl (by decide) (Nat.le_of_ble_eq_true rfl) rfl (fun ls hl => ?_)
      refine lv_goto (tgt := 39) hx hb d_H_sumOfPart_70 rfl ?_
      refine lv_iload hx hb d_H_sumOfPart_39 (lv_at hl 0 rfl) ?_
      refine lv_iconst (v := 4) hx hb d_H_sumOfPart_41 z_k4 ?_
      refine lv_icmp_ge (tgt := 73) hx hb d_H_sumOfPart_42 rfl (fun h => absurd h (by decide)) (fun _ => ?_)
      refine lv_lload hx hb d_H_sumOfPart_45 (lv_at hl 1 rfl) ?_
      refine lv_aload_n hx hb d_H_sumOfPart_47 rfl (lv_at hl 3 rfl) ?_
      refine lv_iload_n hx hb d_H_sumOfPart_48 rfl (lv_at hl 4 rfl) ?_
      refine lv_iload hx hb d_H_sumOfPart_49 (lv_at hl 2 rfl) ?_
      refine lv_iconst (v := 4) hx hb d_H_sumOfPart_51 z_k4 ?_
      refine lv_imul hx hb d_H_sumOfPart_52 ?_
      refine lv_iload hx hb d_H_sumOfPart_53 (lv_at hl 0 rfl) ?_
      refine lv_iadd hx hb d_H_sumOfPart_55 ?_
      refine kc_H_39 hF (c_H_byteOf l D C ad hF.2.2 _ _ ho _ _ (z_spb1 hd hp)) hG ho ⟨Nat.le_of_ble_eq_true rfl, Nat.le_of_ble_eq_true rfl⟩ ⟨Nat.zero_le _, Nat.zero_le _⟩ hl.1 (Nat.le_of_ble_eq_true rfl) d_H_sumOfPart_56 (fun H locs hG => ?_)
      refine lv_i2l hx hb d_H_sumOfPart_59 rfl ?_
      refine lv_lxor hx hb d_H_sumOfPart_60 ?_
      refine lv_ldc2 (v := 1099511628211) hx hb hown (hts _ wk_H_37) d_H_sumOfPart_61 ?_
      refine lv_lmul hx hb d_H_sumOfPart_64 ?_
      refine lv_lstore (lv' := [(6, .long ((((((((((((((((((((x3 ^^^ (x0.toInt64)) * 1099511628211) ^^^ (x1.toInt64)) * 1099511628211) ^^^ ((f_H_byteOf S o x0 ((x1 * 4) + 0)).toInt64)) * 1099511628211) ^^^ ((f_H_byteOf S o x0 ((x1 * 4) + 1)).toInt64)) * 1099511628211) ^^^ ((f_H_byteOf S o x0 ((x1 * 4) + 2)).toInt64)) * 1099511628211) ^^^ ((f_H_byteOf S o x0 ((x1 * 4) + 3)).toInt64)) * 1099511628211) ^^^ (x0.toInt64)) * 1099511628211) ^^^ ((x1 + 8).toInt64)) * 1099511628211) ^^^ ((f_H_byteOf S o x0 (((x1 + 8) * 4) + 0)).toInt64)) * 1099511628211) ^^^ ((f_H_byteOf S o x0 (((x1 + 8) * 4) + 1)).toInt64)) * 1099511628211)), (9, .int 1), (8, .int (x1 + 8)), (0, .ref (ad 12 o)), (1, .int x0), (2, .int x1), (3, .int x2), (4, .long x3)]) hx hb d_H_sumOfPart_65 hl (Nat.le_of_ble_eq_true rfl) rfl (fun ls hl => ?_)
      refine lv_iinc (k := 1) (v := 2) (lv' := [(9, .int 2), (6, .long ((((((((((((((((((((x3 ^^^ (x0.toInt64)) * 1099511628211) ^^^ (x1.toInt64)) * 1099511628211) ^^^ ((f_H_byteOf S o x0 ((x1 * 4) + 0)).toInt64)) * 1099511628211) ^^^ ((f_H_byteOf S o x0 ((x1 * 4) + 1)).toInt64)) * 1099511628211) ^^^ ((f_H_byteOf S o x0 ((x1 * 4) + 2)).toInt64)) * 1099511628211) ^^^ ((f_H_byteOf S o x0 ((x1 * 4) + 3)).toInt64)) * 1099511628211) ^^^ (x0.toInt64)) * 1099511628211) ^^^ ((x1 + 8).toInt64)) * 1099511628211) ^^^ ((f_H_byteOf S o x0 (((x1 + 8) * 4) + 0)).toInt64)) * 1099511628211) ^^^ ((f_H_byteOf S o x0 (((x1 + 8) * 4) + 1)).toInt64)) * 1099511628211)), (8, .int (x1 + 8)), (0, .ref (ad 12 o)), (1, .int x0), (2, .int x1), (3, .int x2), (4, .long x3)]) hx hb d_H_sumOfPart_67 hl rfl (by decide) (Nat.le_of_ble_eq_true rfl) rfl (fun ls hl => ?_)
      refine lv_goto (tgt := 39) hx hb d_H_sumOfPart_70 rfl ?_
      refine lv_iload hx hb d_H_sumOfPart_39 (lv_at hl 0 rfl) ?_
      refine lv_iconst (v := 4) hx hb d_H_sumOfPart_41 z_k4 ?_
      refine lv_icmp_ge (tgt := 73) hx hb d_H_sumOfPart_42 rfl (fun h => absurd h (by decide)) (fun _ => ?_)
      refine lv_lload hx hb d_H_sumOfPart_45 (lv_at hl 1 rfl) ?_
      refine lv_aload_n hx hb d_H_sumOfPart_47 rfl (lv_at hl 3 rfl) ?_
      refine lv_iload_n hx hb d_H_sumOfPart_48 rfl (lv_at hl 4 rfl) ?_
      refine lv_iload hx hb d_H_sumOfPart_49 (lv_at hl 2 rfl) ?_
      refine lv_iconst (v := 4) hx hb d_H_sumOfPart_51 z_k4 ?_
      refine lv_imul hx hb d_H_sumOfPart_52 ?_
      refine lv_iload hx hb d_H_sumOfPart_53 (lv_at hl 0 rfl) ?_
      refine lv_iadd hx hb d_H_sumOfPart_55 ?_
      refine kc_H_39 hF (c_H_byteOf l D C ad hF.2.2 _ _ ho _ _ (z_spb2 hd hp)) hG ho ⟨Nat.le_of_ble_eq_true rfl, Nat.le_of_ble_eq_true rfl⟩ ⟨Nat.zero_le _, Nat.zero_le _⟩ hl.1 (Nat.le_of_ble_eq_true rfl) d_H_sumOfPart_56 (fun H locs hG => ?_)
      refine lv_i2l hx hb d_H_sumOfPart_59 rfl ?_
      refine lv_lxor hx hb d_H_sumOfPart_60 ?_
      refine lv_ldc2 (v := 1099511628211) hx hb hown (hts _ wk_H_37) d_H_sumOfPart_61 ?_
      refine lv_lmul hx hb d_H_sumOfPart_64 ?_
      refine lv_lstore (lv' := [(6, .long ((((((((((((((((((((((x3 ^^^ (x0.toInt64)) * 1099511628211) ^^^ (x1.toInt64)) * 1099511628211) ^^^ ((f_H_byteOf S o x0 ((x1 * 4) + 0)).toInt64)) * 1099511628211) ^^^ ((f_H_byteOf S o x0 ((x1 * 4) + 1)).toInt64)) * 1099511628211) ^^^ ((f_H_byteOf S o x0 ((x1 * 4) + 2)).toInt64)) * 1099511628211) ^^^ ((f_H_byteOf S o x0 ((x1 * 4) + 3)).toInt64)) * 1099511628211) ^^^ (x0.toInt64)) * 1099511628211) ^^^ ((x1 + 8).toInt64)) * 1099511628211) ^^^ ((f_H_byteOf S o x0 (((x1 + 8) * 4) + 0)).toInt64)) * 1099511628211) ^^^ ((f_H_byteOf S o x0 (((x1 + 8) * 4) + 1)).toInt64)) * 1099511628211) ^^^ ((f_H_byteOf S o x0 (((x1 + 8) * 4) + 2)).toInt64)) * 1099511628211)), (9, .int 2), (8, .int (x1 + 8)), (0, .ref (ad 12 o)), (1, .int x0), (2, .int x1), (3, .int x2), (4, .long x3)]) hx hb d_H_sumOfPart_65 hl (Nat.le_of_ble_eq_true rfl) rfl (fun ls hl => ?_)
      refine lv_iinc (k := 1) (v := 3) (lv' := [(9, .int 3), (6, .long ((((((((((((((((((((((x3 ^^^ (x0.toInt64)) * 1099511628211) ^^^ (x1.toInt64)) * 1099511628211) ^^^ ((f_H_byteOf S o x0 ((x1 * 4) + 0)).toInt64)) * 1099511628211) ^^^ ((f_H_byteOf S o x0 ((x1 * 4) + 1)).toInt64)) * 1099511628211) ^^^ ((f_H_byteOf S o x0 ((x1 * 4) + 2)).toInt64)) * 1099511628211) ^^^ ((f_H_byteOf S o x0 ((x1 * 4) + 3)).toInt64)) * 1099511628211) ^^^ (x0.toInt64)) * 1099511628211) ^^^ ((x1 + 8).toInt64)) * 1099511628211) ^^^ ((f_H_byteOf S o x0 (((x1 + 8) * 4) + 0)).toInt64)) * 1099511628211) ^^^ ((f_H_byteOf S o x0 (((x1 + 8) * 4) + 1)).toInt64)) * 1099511628211) ^^^ ((f_H_byteOf S o x0 (((x1 + 8) * 4) + 2)).toInt64)) * 1099511628211)), (8, .int (x1 + 8)), (0, .ref (ad 12 o)), (1, .int x0), (2, .int x1), (3, .int x2), (4, .long x3)]) hx hb d_H_sumOfPart_67 hl rfl (by decide) (Nat.le_of_ble_eq_true rfl) rfl (fun ls hl => ?_)
      refine lv_goto (tgt := 39) hx hb d_H_sumOfPart_70 rfl ?_
      refine lv_iload hx hb d_H_sumOfPart_39 (lv_at hl 0 rfl) ?_
      refine lv_iconst (v := 4) hx hb d_H_sumOfPart_41 z_k4 ?_
      refine lv_icmp_ge (tgt := 73) hx hb d_H_sumOfPart_42 rfl (fun h => absurd h (by decide)) (fun _ => ?_)
      refine lv_lload hx hb d_H_sumOfPart_45 (lv_at hl 1 rfl) ?_
      refine lv_aload_n hx hb d_H_sumOfPart_47 rfl (lv_at hl 3 rfl) ?_
      refine lv_iload_n hx hb d_H_sumOfPart_48 rfl (lv_at hl 4 rfl) ?_
      refine lv_iload hx hb d_H_sumOfPart_49 (lv_at hl 2 rfl) ?_
      refine lv_iconst (v := 4) hx hb d_H_sumOfPart_51 z_k4 ?_
      refine lv_imul hx hb d_H_sumOfPart_52 ?_
      refine lv_iload hx hb d_H_sumOfPart_53 (lv_at hl 0 rfl) ?_
      refine lv_iadd hx hb d_H_sumOfPart_55 ?_
      refine kc_H_39 hF (c_H_byteOf l D C ad hF.2.2 _ _ ho _ _ (z_spb3 hd hp)) hG ho ⟨Nat.le_of_ble_eq_true rfl, Nat.le_of_ble_eq_true rfl⟩ ⟨Nat.zero_le _, Nat.zero_le _⟩ hl.1 (Nat.le_of_ble_eq_true rfl) d_H_sumOfPart_56 (fun H locs hG => ?_)
      refine lv_i2l hx hb d_H_sumOfPart_59 rfl ?_
      refine lv_lxor hx hb d_H_sumOfPart_60 ?_
      refine lv_ldc2 (v := 1099511628211) hx hb hown (hts _ wk_H_37) d_H_sumOfPart_61 ?_
      refine lv_lmul hx hb d_H_sumOfPart_64 ?_
      refine lv_lstore (lv' := [(6, .long ((((((((((((((((((((((((x3 ^^^ (x0.toInt64)) * 1099511628211) ^^^ (x1.toInt64)) * 1099511628211) ^^^ ((f_H_byteOf S o x0 ((x1 * 4) + 0)).toInt64)) * 1099511628211) ^^^ ((f_H_byteOf S o x0 ((x1 * 4) + 1)).toInt64)) * 1099511628211) ^^^ ((f_H_byteOf S o x0 ((x1 * 4) + 2)).toInt64)) * 1099511628211) ^^^ ((f_H_byteOf S o x0 ((x1 * 4) + 3)).toInt64)) * 1099511628211) ^^^ (x0.toInt64)) * 1099511628211) ^^^ ((x1 + 8).toInt64)) * 1099511628211) ^^^ ((f_H_byteOf S o x0 (((x1 + 8) * 4) + 0)).toInt64)) * 1099511628211) ^^^ ((f_H_byteOf S o x0 (((x1 + 8) * 4) + 1)).toInt64)) * 1099511628211) ^^^ ((f_H_byteOf S o x0 (((x1 + 8) * 4) + 2)).toInt64)) * 1099511628211) ^^^ ((f_H_byteOf S o x0 (((x1 + 8) * 4) + 3)).toInt64)) * 1099511628211)), (9, .int 3), (8, .int (x1 + 8)), (0, .ref (ad 12 o)), (1, .int x0), (2, .int x1), (3, .int x2), (4, .long x3)]) hx hb d_H_sumOfPart_65 hl (Nat.le_of_ble_eq_true rfl) rfl (fun ls hl => ?_)
      refine lv_iinc (k := 1) (v := 4) (lv' := [(9, .int 4), (6, .long ((((((((((((((((((((((((x3 ^^^ (x0.toInt64)) * 1099511628211) ^^^ (x1.toInt64)) * 1099511628211) ^^^ ((f_H_byteOf S o x0 ((x1 * 4) + 0)).toInt64)) * 1099511628211) ^^^ ((f_H_byteOf S o x0 ((x1 * 4) + 1)).toInt64)) * 1099511628211) ^^^ ((f_H_byteOf S o x0 ((x1 * 4) + 2)).toInt64)) * 1099511628211) ^^^ ((f_H_byteOf S o x0 ((x1 * 4) + 3)).toInt64)) * 1099511628211) ^^^ (x0.toInt64)) * 1099511628211) ^^^ ((x1 + 8).toInt64)) * 1099511628211) ^^^ ((f_H_byteOf S o x0 (((x1 + 8) * 4) + 0)).toInt64)) * 1099511628211) ^^^ ((f_H_byteOf S o x0 (((x1 + 8) * 4) + 1)).toInt64)) * 1099511628211) ^^^ ((f_H_byteOf S o x0 (((x1 + 8) * 4) + 2)).toInt64)) * 1099511628211) ^^^ ((f_H_byteOf S o x0 (((x1 + 8) * 4) + 3)).toInt64)) * 1099511628211)), (8, .int (x1 + 8)), (0, .ref (ad 12 o)), (1, .int x0), (2, .int x1), (3, .int x2), (4, .long x3)]) hx hb d_H_sumOfPart_67 hl rfl (by decide) (Nat.le_of_ble_eq_true rfl) rfl (fun ls hl => ?_)
      refine lv_goto (tgt := 39) hx hb d_H_sumOfPart_70 rfl ?_
      refine lv_iload hx hb d_H_sumOfPart_39 (lv_at hl 0 rfl) ?_
      refine lv_iconst (v := 4) hx hb d_H_sumOfPart_41 z_k4 ?_
      refine lv_icmp_ge (tgt := 73) hx hb d_H_sumOfPart_42 rfl (fun _ => ?_) (fun h => absurd h (by decide))
      refine lv_iinc (k := 2) (v := ((x1 + 8) + 8)) (lv' := [(8, .int ((x1 + 8) + 8)), (9, .int 4), (6, .long ((((((((((((((((((((((((x3 ^^^ (x0.toInt64)) * 1099511628211) ^^^ (x1.toInt64)) * 1099511628211) ^^^ ((f_H_byteOf S o x0 ((x1 * 4) + 0)).toInt64)) * 1099511628211) ^^^ ((f_H_byteOf S o x0 ((x1 * 4) + 1)).toInt64)) * 1099511628211) ^^^ ((f_H_byteOf S o x0 ((x1 * 4) + 2)).toInt64)) * 1099511628211) ^^^ ((f_H_byteOf S o x0 ((x1 * 4) + 3)).toInt64)) * 1099511628211) ^^^ (x0.toInt64)) * 1099511628211) ^^^ ((x1 + 8).toInt64)) * 1099511628211) ^^^ ((f_H_byteOf S o x0 (((x1 + 8) * 4) + 0)).toInt64)) * 1099511628211) ^^^ ((f_H_byteOf S o x0 (((x1 + 8) * 4) + 1)).toInt64)) * 1099511628211) ^^^ ((f_H_byteOf S o x0 (((x1 + 8) * 4) + 2)).toInt64)) * 1099511628211) ^^^ ((f_H_byteOf S o x0 (((x1 + 8) * 4) + 3)).toInt64)) * 1099511628211)), (0, .ref (ad 12 o)), (1, .int x0), (2, .int x1), (3, .int x2), (4, .long x3)]) hx hb d_H_sumOfPart_73 hl rfl (by rw [z_k8]) (Nat.le_of_ble_eq_true rfl) rfl (fun ls hl => ?_)
      refine lv_goto (tgt := 7) hx hb d_H_sumOfPart_76 rfl ?_
      refine lv_iload hx hb d_H_sumOfPart_7 (lv_at hl 0 rfl) ?_
      refine lv_iload_n hx hb d_H_sumOfPart_9 rfl (lv_at hl 6 rfl) ?_
      refine lv_icmp_ge (tgt := 79) hx hb d_H_sumOfPart_10 rfl (fun _ => ?_) (fun h => absurd h (not_not_intro (z_sp3 hp hq)))
      refine lv_lload hx hb d_H_sumOfPart_79 (lv_at hl 2 rfl) ?_
      exact z_lret hF hr hlk hG (Eq.symm ((if_neg h10).trans ((if_neg h10_1).trans rfl))) rfl d_H_sumOfPart_81
def rg_H_receive_3i_S1 (S : z_S) (v0 : Nat) (v1 : Int32) (v3 : Int32) (k : Nat) : z_S := (g_H_flip S v0 v1 (nI k) ((v3 + (31 * (nI k))) &&& 255))
set_option maxHeartbeats 4000000 in
set_option maxRecDepth 100000 in
theorem rg_H_receive_3i {D : va_G} {C : Nat → ClassId} {ad : Nat → Nat → Nat} {S : z_S} {p : Program} {l : Launch} {e : Env} {s : State} {m : MethodId} {args : Array Value} {below : List Frame} {meth : Method} {c : Code} {H H0 : Heap} {locs : List Loc} {Q : State → Prop} {ls : Array Slot} {v0 : Nat} {v1 : Int32} {v2 : Int32} {v3 : Int32} {k : Nat} {N : Nat} (hF : z_F D C ad p m c b_H_receive 5 s args R_H) (hv0 : v0 < z_n 12) (hb4 : v2 * 4 = nI N) (hN : N < 2 ^ 31) (hin : ∀ k : Nat, k < N → vp_in (f_H_place v1 (nI k / 4)) 96) (hk : k < N) (hG : z_G D C ad H0 S H locs) (hl : lv_has ls 5 [(0, .ref (ad 12 v0)), (1, .int v1), (2, .int v2), (3, .int v3), (4, .int (nI k))]) (kk : ∀ (H : Heap) (locs : List Loc) (ls : Array Slot) (S1 : z_S), z_G D C ad H0 S1 H locs → lv_has ls 5 [(0, .ref (ad 12 v0)), (1, .int v1), (2, .int v2), (3, .int v3), (4, .int (nI (k + 1)))] → rg_H_receive_3i_S1 S v0 v1 v3 k = S1 → W p l e rm_H_receive s m args below meth c H locs 0 0 Q (F0 m 3 ls [])) : W p l e rm_H_receive s m args below meth c H locs 0 0 Q (F0 m 3 ls []) := by
  obtain ⟨hx, hb, hml, hown, hts⟩ := hF.1
  refine lv_iload hx hb d_H_receive_3 (lv_at hl 4 rfl) ?_
  refine lv_iload_n hx hb d_H_receive_5 rfl (lv_at hl 2 rfl) ?_
  refine lv_iconst (v := 4) hx hb d_H_receive_6 z_k4 ?_
  refine lv_imul hx hb d_H_receive_7 ?_
  refine lv_icmp_ge (tgt := 35) hx hb d_H_receive_8 rfl (fun h => absurd h (by rw [hb4]; exact nI_ge hk hN)) (fun _ => ?_)
  refine lv_aload_n hx hb d_H_receive_11 rfl (lv_at hl 0 rfl) ?_
  refine lv_iload_n hx hb d_H_receive_12 rfl (lv_at hl 1 rfl) ?_
  refine lv_iload hx hb d_H_receive_13 (lv_at hl 4 rfl) ?_
  refine lv_iload_n hx hb d_H_receive_15 rfl (lv_at hl 3 rfl) ?_
  refine lv_bipush (v := 31) hx hb d_H_receive_16 z_bi31 ?_
  refine lv_iload hx hb d_H_receive_18 (lv_at hl 4 rfl) ?_
  refine lv_imul hx hb d_H_receive_20 ?_
  refine lv_iadd hx hb d_H_receive_21 ?_
  refine lv_sipush (v := 255) hx hb d_H_receive_22 z_si255 ?_
  refine lv_iand hx hb d_H_receive_25 ?_
  refine kc_H_23 hF (c_H_flip l D C ad hF.2.2 _ _ hv0 _ _ _ (hin k hk)) hG hv0 ⟨Nat.le_of_ble_eq_true rfl, Nat.le_of_ble_eq_true rfl⟩ ⟨Nat.zero_le _, Nat.zero_le _⟩ hl.1 (Nat.le_of_ble_eq_true rfl) d_H_receive_26 (fun H locs hG => ?_)
  refine lv_iinc (k := 4) (v := (nI (k + 1))) (lv' := [(4, .int (nI (k + 1))), (0, .ref (ad 12 v0)), (1, .int v1), (2, .int v2), (3, .int v3)]) hx hb d_H_receive_29 hl rfl (z_incN _) (Nat.le_of_ble_eq_true rfl) rfl (fun ls hl => ?_)
  refine lv_goto (tgt := 3) hx hb d_H_receive_32 rfl ?_
  exact kk _ _ _ _ hG (lv_sub hl [1, 2, 3, 4, 0] rfl) rfl
set_option maxHeartbeats 4000000 in
set_option maxRecDepth 100000 in
theorem rg_H_receive_3e {D : va_G} {C : Nat → ClassId} {ad : Nat → Nat → Nat} {S : z_S} {p : Program} {l : Launch} {e : Env} {s : State} {m : MethodId} {args : Array Value} {below : List Frame} {meth : Method} {c : Code} {H H0 : Heap} {locs : List Loc} {Q : State → Prop} {ls : Array Slot} {v0 : Nat} {v1 : Int32} {v2 : Int32} {v3 : Int32} {k : Nat} {N : Nat} (hF : z_F D C ad p m c b_H_receive 5 s args R_H) (hv0 : v0 < z_n 12) (hb4 : v2 * 4 = nI N) (hN : N < 2 ^ 31) (hin : ∀ k : Nat, k < N → vp_in (f_H_place v1 (nI k / 4)) 96) (hk : k = N) (hG : z_G D C ad H0 S H locs) (hl : lv_has ls 5 [(0, .ref (ad 12 v0)), (1, .int v1), (2, .int v2), (3, .int v3), (4, .int (nI k))]) (kk : ∀ (H : Heap) (locs : List Loc) (ls : Array Slot) , z_G D C ad H0 S H locs → lv_has ls 5 [(0, .ref (ad 12 v0)), (1, .int v1), (2, .int v2), (3, .int v3), (4, .int (nI k))] → W p l e rm_H_receive s m args below meth c H locs 0 0 Q (F0 m 35 ls [])) : W p l e rm_H_receive s m args below meth c H locs 0 0 Q (F0 m 3 ls []) := by
  obtain ⟨hx, hb, hml, hown, hts⟩ := hF.1
  refine lv_iload hx hb d_H_receive_3 (lv_at hl 4 rfl) ?_
  refine lv_iload_n hx hb d_H_receive_5 rfl (lv_at hl 2 rfl) ?_
  refine lv_iconst (v := 4) hx hb d_H_receive_6 z_k4 ?_
  refine lv_imul hx hb d_H_receive_7 ?_
  refine lv_icmp_ge (tgt := 35) hx hb d_H_receive_8 rfl (fun _ => ?_) (fun h => absurd h (by rw [hb4, hk]; exact not_not_intro (nI_le (Nat.le_refl _) hN)))
  exact kk _ _ _  hG (lv_sub hl [0, 1, 2, 3, 4] rfl) 
set_option maxHeartbeats 4000000 in
set_option maxRecDepth 100000 in
theorem lp_H_receive_3 {D : va_G} {C : Nat → ClassId} {ad : Nat → Nat → Nat} {p : Program} {l : Launch} {e : Env} {s : State} {m : MethodId} {args : Array Value} {below : List Frame} {meth : Method} {c : Code} {H0 : Heap} {Q : State → Prop} {v0 : Nat} {v1 : Int32} {v2 : Int32} {v3 : Int32} {N : Nat} (hF : z_F D C ad p m c b_H_receive 5 s args R_H) (hv0 : v0 < z_n 12) (hb4 : v2 * 4 = nI N) (hN : N < 2 ^ 31) (hin : ∀ k : Nat, k < N → vp_in (f_H_place v1 (nI k / 4)) 96) : ∀ (n k : Nat) (S : z_S) (H : Heap) (locs : List Loc) (ls : Array Slot), k + n = N → z_G D C ad H0 S H locs → lv_has ls 5 [(0, .ref (ad 12 v0)), (1, .int v1), (2, .int v2), (3, .int v3), (4, .int (nI k))] → (∀ (H : Heap) (locs : List Loc) (ls : Array Slot), z_G D C ad H0 (z_it (fun (k : Nat) (S : z_S) => rg_H_receive_3i_S1 S v0 v1 v3 k) k n S) H locs → lv_has ls 5 [(0, .ref (ad 12 v0)), (1, .int v1), (2, .int v2), (3, .int v3), (4, .int (nI N))] → W p l e rm_H_receive s m args below meth c H locs 0 0 Q (F0 m 35 ls [])) → W p l e rm_H_receive s m args below meth c H locs 0 0 Q (F0 m 3 ls []) := by
  intro n
  induction n with
  | zero =>
    intro k S H locs ls hk hG hl kk
    have hk : k = N := by omega
    refine rg_H_receive_3e hF hv0 hb4 hN hin hk hG hl (fun H locs ls hG hl => ?_)
    subst hk
    exact kk H locs ls hG hl
  | succ n ih =>
    intro k S H locs ls hk hG hl kk
    refine rg_H_receive_3i hF hv0 hb4 hN hin (by omega) hG hl (fun H locs ls S1 hG hl e1 => ?_)
    subst e1
    exact ih (k + 1) (rg_H_receive_3i_S1 S v0 v1 v3 k) H locs ls (by omega) hG hl kk
def g_H_receive (S : z_S) (o : Nat) (x0 : Int32) (x2 : Int32) (N : Nat) : z_S := (z_it (fun (kk9 : Nat) (T9 : z_S) => rg_H_receive_3i_S1 T9 o x0 x2 kk9) 0 N S)
set_option maxHeartbeats 4000000 in
set_option maxRecDepth 100000 in
theorem c_H_receive (l : Launch) (D : va_G) (C : Nat → ClassId) (ad : Nat → Nat → Nat) (hJ : z_J ad) (S : z_S) (o : Nat) (ho : o < z_n 12) (x0 : Int32) (x1 : Int32) (x2 : Int32) (N : Nat) (hb4 : x1 * 4 = nI N) (hN : N < 2 ^ 31) (hin : ∀ k : Nat, k < N → vp_in (f_H_place x0 (nI k / 4)) 96) : z_M l y_H_receive b_H_receive 5 none rm_H_receive D C ad [.ref (ad 12 o), .int x0, .int x1, .int x2] S (z_Qv D C ad (g_H_receive S o x0 x2 N)) := by
  refine z_enter (by decide) (Nat.le_of_ble_eq_true rfl) hJ ?_
  intro p e s m below meth c ls hF hr hlk hl hG
  obtain ⟨hx, hb, hml, hown, hts⟩ := hF.1
  have hl : lv_has ls 5 [(0, .ref (ad 12 o)), (1, .int x0), (2, .int x1), (3, .int x2)] := hl
  refine lv_iconst (v := 0) hx hb d_H_receive_0 z_k0 ?_
  refine lv_istore (lv' := [(4, .int 0), (0, .ref (ad 12 o)), (1, .int x0), (2, .int x1), (3, .int x2)]) hx hb d_H_receive_1 hl (Nat.le_of_ble_eq_true rfl) rfl (fun ls hl => ?_)
  have hl : lv_has ls 5 [(0, .ref (ad 12 o)), (1, .int x0), (2, .int x1), (3, .int x2), (4, .int (nI 0))] := by
    have h9 := lv_sub hl [1, 2, 3, 4, 0] rfl
    rw [nI_0]; exact h9
  refine lp_H_receive_3  hF ho hb4 hN hin N 0 S _ _ ls (by omega) hG hl (fun H locs ls hG hl => ?_)
  exact z_vret hF hr hlk hG rfl d_H_receive_35
def g_A_forget_15 (S : z_S) (o : Nat) : z_S := (z_sI (z_sI (z_sI (z_sI S 16 o 0 0) 16 o 1 0) 16 o 2 0) 15 o 2 0)
set_option maxHeartbeats 4000000 in
set_option maxRecDepth 100000 in
theorem c_A_forget_15 (l : Launch) (D : va_G) (C : Nat → ClassId) (ad : Nat → Nat → Nat) (hJ : z_J ad) (S : z_S) (o : Nat) (ho : o < z_n 15)  : z_M l y_A_forget b_A_forget 2 none rm_A_forget D C ad [.ref (ad 15 o)] S (z_Qv D C ad (g_A_forget_15 S o)) := by
  refine z_enter (by decide) (Nat.le_of_ble_eq_true rfl) hJ ?_
  intro p e s m below meth c ls hF hr hlk hl hG
  obtain ⟨hx, hb, hml, hown, hts⟩ := hF.1
  have hl : lv_has ls 2 [(0, .ref (ad 15 o))] := hl
  refine lv_iconst (v := 0) hx hb d_A_forget_0 z_k0 ?_
  refine lv_istore_n (lv' := [(1, .int 0), (0, .ref (ad 15 o))]) hx hb d_A_forget_1 rfl hl (Nat.le_of_ble_eq_true rfl) rfl (fun ls hl => ?_)
  refine lv_iload_n hx hb d_A_forget_2 rfl (lv_at hl 0 rfl) ?_
  refine lv_iconst (v := 3) hx hb d_A_forget_3 z_k3 ?_
  refine lv_icmp_ge (tgt := 20) hx hb d_A_forget_4 rfl (fun h => absurd h (by decide)) (fun _ => ?_)
  refine lv_aload_n hx hb d_A_forget_7 rfl (lv_at hl 1 rfl) ?_
  refine gf_A_9_15 hF hG ho d_A_forget_8 ?_
  refine lv_iload_n hx hb d_A_forget_11 rfl (lv_at hl 0 rfl) ?_
  refine lv_iconst (v := 0) hx hb d_A_forget_12 z_k0 ?_
  refine z_zast (n := 3) (j := 0) hF hG ho (fun f g => z_c16 C ad f g _) z_q0 z_in0_3 rfl d_A_forget_13 (fun H locs hG => ?_)
  refine lv_iinc (k := 0) (v := 1) (lv' := [(1, .int 1), (0, .ref (ad 15 o))]) hx hb d_A_forget_14 hl rfl (by decide) (Nat.le_of_ble_eq_true rfl) rfl (fun ls hl => ?_)
  refine lv_goto (tgt := 2) hx hb d_A_forget_17 rfl ?_
  refine lv_iload_n hx hb d_A_forget_2 rfl (lv_at hl 0 rfl) ?_
  refine lv_iconst (v := 3) hx hb d_A_forget_3 z_k3 ?_
  refine lv_icmp_ge (tgt := 20) hx hb d_A_forget_4 rfl (fun h => absurd h (by decide)) (fun _ => ?_)
  refine lv_aload_n hx hb d_A_forget_7 rfl (lv_at hl 1 rfl) ?_
  refine gf_A_9_15 hF hG ho d_A_forget_8 ?_
  refine lv_iload_n hx hb d_A_forget_11 rfl (lv_at hl 0 rfl) ?_
  refine lv_iconst (v := 0) hx hb d_A_forget_12 z_k0 ?_
  refine z_zast (n := 3) (j := 1) hF hG ho (fun f g => z_c16 C ad f g _) z_q1 z_in1_3 rfl d_A_forget_13 (fun H locs hG => ?_)
  refine lv_iinc (k := 0) (v := 2) (lv' := [(1, .int 2), (0, .ref (ad 15 o))]) hx hb d_A_forget_14 hl rfl (by decide) (Nat.le_of_ble_eq_true rfl) rfl (fun ls hl => ?_)
  refine lv_goto (tgt := 2) hx hb d_A_forget_17 rfl ?_
  refine lv_iload_n hx hb d_A_forget_2 rfl (lv_at hl 0 rfl) ?_
  refine lv_iconst (v := 3) hx hb d_A_forget_3 z_k3 ?_
  refine lv_icmp_ge (tgt := 20) hx hb d_A_forget_4 rfl (fun h => absurd h (by decide)) (fun _ => ?_)
  refine lv_aload_n hx hb d_A_forget_7 rfl (lv_at hl 1 rfl) ?_
  refine gf_A_9_15 hF hG ho d_A_forget_8 ?_
  refine lv_iload_n hx hb d_A_forget_11 rfl (lv_at hl 0 rfl) ?_
  refine lv_iconst (v := 0) hx hb d_A_forget_12 z_k0 ?_
  refine z_zast (n := 3) (j := 2) hF hG ho (fun f g => z_c16 C ad f g _) z_q2 z_in2_3 rfl d_A_forget_13 (fun H locs hG => ?_)
  refine lv_iinc (k := 0) (v := 3) (lv' := [(1, .int 3), (0, .ref (ad 15 o))]) hx hb d_A_forget_14 hl rfl (by decide) (Nat.le_of_ble_eq_true rfl) rfl (fun ls hl => ?_)
  refine lv_goto (tgt := 2) hx hb d_A_forget_17 rfl ?_
  refine lv_iload_n hx hb d_A_forget_2 rfl (lv_at hl 0 rfl) ?_
  refine lv_iconst (v := 3) hx hb d_A_forget_3 z_k3 ?_
  refine lv_icmp_ge (tgt := 20) hx hb d_A_forget_4 rfl (fun _ => ?_) (fun h => absurd h (by decide))
  refine lv_aload_n hx hb d_A_forget_20 rfl (lv_at hl 1 rfl) ?_
  refine lv_iconst (v := 0) hx hb d_A_forget_21 z_k0 ?_
  refine pf_A_19_15 hF hG ho d_A_forget_22 (fun H locs hG => ?_)
  exact z_vret hF hr hlk hG rfl d_A_forget_25
def f_A_take_15 (S : z_S) (o : Nat) (x0 : Int32) : Int32 := (if (S.1 16 o x0.toNatClampNeg) = 0 then 1 else 0)
def g_A_take_15 (S : z_S) (o : Nat) (x0 : Int32) (x1 : Int64) : z_S := (if (S.1 16 o x0.toNatClampNeg) = 0 then (z_sI (z_sL (z_sI S 16 o x0.toNatClampNeg 1) 17 o x0.toNatClampNeg x1) 15 o 2 ((S.1 15 o 2) + 1)) else S)
set_option maxHeartbeats 4000000 in
set_option maxRecDepth 100000 in
theorem c_A_take_15 (l : Launch) (D : va_G) (C : Nat → ClassId) (ad : Nat → Nat → Nat) (hJ : z_J ad) (S : z_S) (o : Nat) (ho : o < z_n 15) (x0 : Int32) (x1 : Int64) (hin : vp_in x0 3) : z_M l y_A_take b_A_take 4 (some .boolean) rm_A_take D C ad [.ref (ad 15 o), .int x0, .long x1] S (z_Qi D C ad (f_A_take_15 S o x0) (g_A_take_15 S o x0 x1)) := by
  refine z_enter (by decide) (Nat.le_of_ble_eq_true rfl) hJ ?_
  intro p e s m below meth c ls hF hr hlk hl hG
  obtain ⟨hx, hb, hml, hown, hts⟩ := hF.1
  have hl : lv_has ls 4 [(0, .ref (ad 15 o)), (1, .int x0), (2, .long x1)] := hl
  refine lv_aload_n hx hb d_A_take_0 rfl (lv_at hl 0 rfl) ?_
  refine gf_A_9_15 hF hG ho d_A_take_1 ?_
  refine lv_iload_n hx hb d_A_take_4 rfl (lv_at hl 1 rfl) ?_
  refine z_zald (n := 3) (j := x0.toNatClampNeg) (v := (S.1 16 o x0.toNatClampNeg)) hF hG ho (z_c16 C ad _ _ _) rfl hin rfl d_A_take_5 ?_
  refine lv_if_eq (tgt := 11) hx hb d_A_take_6 rfl (fun h6 => ?_) (fun h6 => ?_)
  ·
    refine lv_aload_n hx hb d_A_take_11 rfl (lv_at hl 0 rfl) ?_
    refine gf_A_9_15 hF hG ho d_A_take_12 ?_
    refine lv_iload_n hx hb d_A_take_15 rfl (lv_at hl 1 rfl) ?_
    refine lv_iconst (v := 1) hx hb d_A_take_16 z_k1 ?_
    refine z_zast (n := 3) (j := x0.toNatClampNeg) hF hG ho (fun f g => z_c16 C ad f g _) rfl hin rfl d_A_take_17 (fun H locs hG => ?_)
    refine lv_aload_n hx hb d_A_take_18 rfl (lv_at hl 0 rfl) ?_
    refine gf_A_15_15 hF hG ho d_A_take_19 ?_
    refine lv_iload_n hx hb d_A_take_22 rfl (lv_at hl 1 rfl) ?_
    refine lv_lload_n hx hb d_A_take_23 rfl (lv_at hl 2 rfl) ?_
    refine z_last (n := 3) (j := x0.toNatClampNeg) hF hG ho (fun f g => z_c17 C ad f g _) rfl hin d_A_take_24 (fun H locs hG => ?_)
    refine lv_aload_n hx hb d_A_take_25 rfl (lv_at hl 0 rfl) ?_
    refine lv_dup hx hb d_A_take_26 rfl ?_
    refine gf_A_19_15 hF hG ho (v := (S.1 15 o 2)) rfl d_A_take_27 ?_
    refine lv_iconst (v := 1) hx hb d_A_take_30 z_k1 ?_
    refine lv_iadd hx hb d_A_take_31 ?_
    refine pf_A_19_15 hF hG ho d_A_take_32 (fun H locs hG => ?_)
    refine lv_iconst (v := 1) hx hb d_A_take_35 z_k1 ?_
    exact z_zret hF hr hlk rfl hG (Eq.symm ((if_pos h6).trans rfl)) (Eq.symm ((if_pos h6).trans rfl)) d_A_take_36
  ·
    refine lv_iconst (v := 0) hx hb d_A_take_9 z_k0 ?_
    exact z_zret hF hr hlk rfl hG (Eq.symm ((if_neg h6).trans rfl)) (Eq.symm ((if_neg h6).trans rfl)) d_A_take_10
def f_A_isComplete_15 (S : z_S) (o : Nat) : Int32 := (if (S.1 15 o 2) = 3 then 1 else 0)
set_option maxHeartbeats 4000000 in
set_option maxRecDepth 100000 in
theorem c_A_isComplete_15 (l : Launch) (D : va_G) (C : Nat → ClassId) (ad : Nat → Nat → Nat) (hJ : z_J ad) (S : z_S) (o : Nat) (ho : o < z_n 15)  : z_M l y_A_isComplete b_A_isComplete 1 (some .boolean) rm_A_isComplete D C ad [.ref (ad 15 o)] S (z_Qi D C ad (f_A_isComplete_15 S o) S) := by
  refine z_enter (by decide) (Nat.le_of_ble_eq_true rfl) hJ ?_
  intro p e s m below meth c ls hF hr hlk hl hG
  obtain ⟨hx, hb, hml, hown, hts⟩ := hF.1
  have hl : lv_has ls 1 [(0, .ref (ad 15 o))] := hl
  refine lv_aload_n hx hb d_A_isComplete_0 rfl (lv_at hl 0 rfl) ?_
  refine gf_A_19_15 hF hG ho (v := (S.1 15 o 2)) rfl d_A_isComplete_1 ?_
  refine lv_iconst (v := 3) hx hb d_A_isComplete_4 z_k3 ?_
  refine lv_icmp_ne (tgt := 12) hx hb d_A_isComplete_5 rfl (fun h5 => ?_) (fun h5 => ?_)
  ·
    refine lv_iconst (v := 0) hx hb d_A_isComplete_12 z_k0 ?_
    exact z_zret hF hr hlk rfl hG (Eq.symm ((if_neg h5).trans rfl)) rfl d_A_isComplete_13
  ·
    refine lv_iconst (v := 1) hx hb d_A_isComplete_8 z_k1 ?_
    refine lv_goto (tgt := 13) hx hb d_A_isComplete_9 rfl ?_
    exact z_zret hF hr hlk rfl hG (Eq.symm ((if_pos h5).trans rfl)) rfl d_A_isComplete_13
def f_A_areAlike_15 (S : z_S) (o : Nat) : Int32 := (if (lg_cmp (S.2 17 o 0) (S.2 17 o 1)) = 0 then (if (lg_cmp (S.2 17 o 1) (S.2 17 o 2)) = 0 then 1 else 0) else 0)
set_option maxHeartbeats 4000000 in
set_option maxRecDepth 100000 in
theorem c_A_areAlike_15 (l : Launch) (D : va_G) (C : Nat → ClassId) (ad : Nat → Nat → Nat) (hJ : z_J ad) (S : z_S) (o : Nat) (ho : o < z_n 15)  : z_M l y_A_areAlike b_A_areAlike 1 (some .boolean) rm_A_areAlike D C ad [.ref (ad 15 o)] S (z_Qi D C ad (f_A_areAlike_15 S o) S) := by
  refine z_enter (by decide) (Nat.le_of_ble_eq_true rfl) hJ ?_
  intro p e s m below meth c ls hF hr hlk hl hG
  obtain ⟨hx, hb, hml, hown, hts⟩ := hF.1
  have hl : lv_has ls 1 [(0, .ref (ad 15 o))] := hl
  refine lv_aload_n hx hb d_A_areAlike_0 rfl (lv_at hl 0 rfl) ?_
  refine gf_A_15_15 hF hG ho d_A_areAlike_1 ?_
  refine lv_iconst (v := 0) hx hb d_A_areAlike_4 z_k0 ?_
  refine z_lald (n := 3) (j := 0) (v := (S.2 17 o 0)) hF hG ho (z_c17 C ad _ _ _) z_q0 z_in0_3 rfl d_A_areAlike_5 ?_
  refine lv_aload_n hx hb d_A_areAlike_6 rfl (lv_at hl 0 rfl) ?_
  refine gf_A_15_15 hF hG ho d_A_areAlike_7 ?_
  refine lv_iconst (v := 1) hx hb d_A_areAlike_10 z_k1 ?_
  refine z_lald (n := 3) (j := 1) (v := (S.2 17 o 1)) hF hG ho (z_c17 C ad _ _ _) z_q1 z_in1_3 rfl d_A_areAlike_11 ?_
  refine W.lcmp hx hb d_A_areAlike_12 ?_
  refine lv_if_ne (tgt := 36) hx hb d_A_areAlike_13 rfl (fun h13 => ?_) (fun h13 => ?_)
  ·
    refine lv_iconst (v := 0) hx hb d_A_areAlike_36 z_k0 ?_
    exact z_zret hF hr hlk rfl hG (Eq.symm ((if_neg h13).trans rfl)) rfl d_A_areAlike_37
  ·
    refine lv_aload_n hx hb d_A_areAlike_16 rfl (lv_at hl 0 rfl) ?_
    refine gf_A_15_15 hF hG ho d_A_areAlike_17 ?_
    refine lv_iconst (v := 1) hx hb d_A_areAlike_20 z_k1 ?_
    refine z_lald (n := 3) (j := 1) (v := (S.2 17 o 1)) hF hG ho (z_c17 C ad _ _ _) z_q1 z_in1_3 rfl d_A_areAlike_21 ?_
    refine lv_aload_n hx hb d_A_areAlike_22 rfl (lv_at hl 0 rfl) ?_
    refine gf_A_15_15 hF hG ho d_A_areAlike_23 ?_
    refine lv_iconst (v := 2) hx hb d_A_areAlike_26 z_k2 ?_
    refine z_lald (n := 3) (j := 2) (v := (S.2 17 o 2)) hF hG ho (z_c17 C ad _ _ _) z_q2 z_in2_3 rfl d_A_areAlike_27 ?_
    refine W.lcmp hx hb d_A_areAlike_28 ?_
    refine lv_if_ne (tgt := 36) hx hb d_A_areAlike_29 rfl (fun h29 => ?_) (fun h29 => ?_)
    ·
      refine lv_iconst (v := 0) hx hb d_A_areAlike_36 z_k0 ?_
      exact z_zret hF hr hlk rfl hG (Eq.symm ((if_pos h13).trans ((if_neg h29).trans rfl))) rfl d_A_areAlike_37
    ·
      refine lv_iconst (v := 1) hx hb d_A_areAlike_32 z_k1 ?_
      refine lv_goto (tgt := 37) hx hb d_A_areAlike_33 rfl ?_
      exact z_zret hF hr hlk rfl hG (Eq.symm ((if_pos h13).trans ((if_pos h29).trans rfl))) rfl d_A_areAlike_37
def g_A_forget_18 (S : z_S) (o : Nat) : z_S := (z_sI (z_sI (z_sI (z_sI S 19 o 0 0) 19 o 1 0) 19 o 2 0) 18 o 2 0)
set_option maxHeartbeats 4000000 in
set_option maxRecDepth 100000 in
theorem c_A_forget_18 (l : Launch) (D : va_G) (C : Nat → ClassId) (ad : Nat → Nat → Nat) (hJ : z_J ad) (S : z_S) (o : Nat) (ho : o < z_n 18)  : z_M l y_A_forget b_A_forget 2 none rm_A_forget D C ad [.ref (ad 18 o)] S (z_Qv D C ad (g_A_forget_18 S o)) := by
  refine z_enter (by decide) (Nat.le_of_ble_eq_true rfl) hJ ?_
  intro p e s m below meth c ls hF hr hlk hl hG
  obtain ⟨hx, hb, hml, hown, hts⟩ := hF.1
  have hl : lv_has ls 2 [(0, .ref (ad 18 o))] := hl
  refine lv_iconst (v := 0) hx hb d_A_forget_0 z_k0 ?_
  refine lv_istore_n (lv' := [(1, .int 0), (0, .ref (ad 18 o))]) hx hb d_A_forget_1 rfl hl (Nat.le_of_ble_eq_true rfl) rfl (fun ls hl => ?_)
  refine lv_iload_n hx hb d_A_forget_2 rfl (lv_at hl 0 rfl) ?_
  refine lv_iconst (v := 3) hx hb d_A_forget_3 z_k3 ?_
  refine lv_icmp_ge (tgt := 20) hx hb d_A_forget_4 rfl (fun h => absurd h (by decide)) (fun _ => ?_)
  refine lv_aload_n hx hb d_A_forget_7 rfl (lv_at hl 1 rfl) ?_
  refine gf_A_9_18 hF hG ho d_A_forget_8 ?_
  refine lv_iload_n hx hb d_A_forget_11 rfl (lv_at hl 0 rfl) ?_
  refine lv_iconst (v := 0) hx hb d_A_forget_12 z_k0 ?_
  refine z_zast (n := 3) (j := 0) hF hG ho (fun f g => z_c19 C ad f g _) z_q0 z_in0_3 rfl d_A_forget_13 (fun H locs hG => ?_)
  refine lv_iinc (k := 0) (v := 1) (lv' := [(1, .int 1), (0, .ref (ad 18 o))]) hx hb d_A_forget_14 hl rfl (by decide) (Nat.le_of_ble_eq_true rfl) rfl (fun ls hl => ?_)
  refine lv_goto (tgt := 2) hx hb d_A_forget_17 rfl ?_
  refine lv_iload_n hx hb d_A_forget_2 rfl (lv_at hl 0 rfl) ?_
  refine lv_iconst (v := 3) hx hb d_A_forget_3 z_k3 ?_
  refine lv_icmp_ge (tgt := 20) hx hb d_A_forget_4 rfl (fun h => absurd h (by decide)) (fun _ => ?_)
  refine lv_aload_n hx hb d_A_forget_7 rfl (lv_at hl 1 rfl) ?_
  refine gf_A_9_18 hF hG ho d_A_forget_8 ?_
  refine lv_iload_n hx hb d_A_forget_11 rfl (lv_at hl 0 rfl) ?_
  refine lv_iconst (v := 0) hx hb d_A_forget_12 z_k0 ?_
  refine z_zast (n := 3) (j := 1) hF hG ho (fun f g => z_c19 C ad f g _) z_q1 z_in1_3 rfl d_A_forget_13 (fun H locs hG => ?_)
  refine lv_iinc (k := 0) (v := 2) (lv' := [(1, .int 2), (0, .ref (ad 18 o))]) hx hb d_A_forget_14 hl rfl (by decide) (Nat.le_of_ble_eq_true rfl) rfl (fun ls hl => ?_)
  refine lv_goto (tgt := 2) hx hb d_A_forget_17 rfl ?_
  refine lv_iload_n hx hb d_A_forget_2 rfl (lv_at hl 0 rfl) ?_
  refine lv_iconst (v := 3) hx hb d_A_forget_3 z_k3 ?_
  refine lv_icmp_ge (tgt := 20) hx hb d_A_forget_4 rfl (fun h => absurd h (by decide)) (fun _ => ?_)
  refine lv_aload_n hx hb d_A_forget_7 rfl (lv_at hl 1 rfl) ?_
  refine gf_A_9_18 hF hG ho d_A_forget_8 ?_
  refine lv_iload_n hx hb d_A_forget_11 rfl (lv_at hl 0 rfl) ?_
  refine lv_iconst (v := 0) hx hb d_A_forget_12 z_k0 ?_
  refine z_zast (n := 3) (j := 2) hF hG ho (fun f g => z_c19 C ad f g _) z_q2 z_in2_3 rfl d_A_forget_13 (fun H locs hG => ?_)
  refine lv_iinc (k := 0) (v := 3) (lv' := [(1, .int 3), (0, .ref (ad 18 o))]) hx hb d_A_forget_14 hl rfl (by decide) (Nat.le_of_ble_eq_true rfl) rfl (fun ls hl => ?_)
  refine lv_goto (tgt := 2) hx hb d_A_forget_17 rfl ?_
  refine lv_iload_n hx hb d_A_forget_2 rfl (lv_at hl 0 rfl) ?_
  refine lv_iconst (v := 3) hx hb d_A_forget_3 z_k3 ?_
  refine lv_icmp_ge (tgt := 20) hx hb d_A_forget_4 rfl (fun _ => ?_) (fun h => absurd h (by decide))
  refine lv_aload_n hx hb d_A_forget_20 rfl (lv_at hl 1 rfl) ?_
  refine lv_iconst (v := 0) hx hb d_A_forget_21 z_k0 ?_
  refine pf_A_19_18 hF hG ho d_A_forget_22 (fun H locs hG => ?_)
  exact z_vret hF hr hlk hG rfl d_A_forget_25
def f_A_take_18 (S : z_S) (o : Nat) (x0 : Int32) : Int32 := (if (S.1 19 o x0.toNatClampNeg) = 0 then 1 else 0)
def g_A_take_18 (S : z_S) (o : Nat) (x0 : Int32) (x1 : Int64) : z_S := (if (S.1 19 o x0.toNatClampNeg) = 0 then (z_sI (z_sL (z_sI S 19 o x0.toNatClampNeg 1) 20 o x0.toNatClampNeg x1) 18 o 2 ((S.1 18 o 2) + 1)) else S)
set_option maxHeartbeats 4000000 in
set_option maxRecDepth 100000 in
theorem c_A_take_18 (l : Launch) (D : va_G) (C : Nat → ClassId) (ad : Nat → Nat → Nat) (hJ : z_J ad) (S : z_S) (o : Nat) (ho : o < z_n 18) (x0 : Int32) (x1 : Int64) (hin : vp_in x0 3) : z_M l y_A_take b_A_take 4 (some .boolean) rm_A_take D C ad [.ref (ad 18 o), .int x0, .long x1] S (z_Qi D C ad (f_A_take_18 S o x0) (g_A_take_18 S o x0 x1)) := by
  refine z_enter (by decide) (Nat.le_of_ble_eq_true rfl) hJ ?_
  intro p e s m below meth c ls hF hr hlk hl hG
  obtain ⟨hx, hb, hml, hown, hts⟩ := hF.1
  have hl : lv_has ls 4 [(0, .ref (ad 18 o)), (1, .int x0), (2, .long x1)] := hl
  refine lv_aload_n hx hb d_A_take_0 rfl (lv_at hl 0 rfl) ?_
  refine gf_A_9_18 hF hG ho d_A_take_1 ?_
  refine lv_iload_n hx hb d_A_take_4 rfl (lv_at hl 1 rfl) ?_
  refine z_zald (n := 3) (j := x0.toNatClampNeg) (v := (S.1 19 o x0.toNatClampNeg)) hF hG ho (z_c19 C ad _ _ _) rfl hin rfl d_A_take_5 ?_
  refine lv_if_eq (tgt := 11) hx hb d_A_take_6 rfl (fun h6 => ?_) (fun h6 => ?_)
  ·
    refine lv_aload_n hx hb d_A_take_11 rfl (lv_at hl 0 rfl) ?_
    refine gf_A_9_18 hF hG ho d_A_take_12 ?_
    refine lv_iload_n hx hb d_A_take_15 rfl (lv_at hl 1 rfl) ?_
    refine lv_iconst (v := 1) hx hb d_A_take_16 z_k1 ?_
    refine z_zast (n := 3) (j := x0.toNatClampNeg) hF hG ho (fun f g => z_c19 C ad f g _) rfl hin rfl d_A_take_17 (fun H locs hG => ?_)
    refine lv_aload_n hx hb d_A_take_18 rfl (lv_at hl 0 rfl) ?_
    refine gf_A_15_18 hF hG ho d_A_take_19 ?_
    refine lv_iload_n hx hb d_A_take_22 rfl (lv_at hl 1 rfl) ?_
    refine lv_lload_n hx hb d_A_take_23 rfl (lv_at hl 2 rfl) ?_
    refine z_last (n := 3) (j := x0.toNatClampNeg) hF hG ho (fun f g => z_c20 C ad f g _) rfl hin d_A_take_24 (fun H locs hG => ?_)
    refine lv_aload_n hx hb d_A_take_25 rfl (lv_at hl 0 rfl) ?_
    refine lv_dup hx hb d_A_take_26 rfl ?_
    refine gf_A_19_18 hF hG ho (v := (S.1 18 o 2)) rfl d_A_take_27 ?_
    refine lv_iconst (v := 1) hx hb d_A_take_30 z_k1 ?_
    refine lv_iadd hx hb d_A_take_31 ?_
    refine pf_A_19_18 hF hG ho d_A_take_32 (fun H locs hG => ?_)
    refine lv_iconst (v := 1) hx hb d_A_take_35 z_k1 ?_
    exact z_zret hF hr hlk rfl hG (Eq.symm ((if_pos h6).trans rfl)) (Eq.symm ((if_pos h6).trans rfl)) d_A_take_36
  ·
    refine lv_iconst (v := 0) hx hb d_A_take_9 z_k0 ?_
    exact z_zret hF hr hlk rfl hG (Eq.symm ((if_neg h6).trans rfl)) (Eq.symm ((if_neg h6).trans rfl)) d_A_take_10
def f_A_isComplete_18 (S : z_S) (o : Nat) : Int32 := (if (S.1 18 o 2) = 3 then 1 else 0)
set_option maxHeartbeats 4000000 in
set_option maxRecDepth 100000 in
theorem c_A_isComplete_18 (l : Launch) (D : va_G) (C : Nat → ClassId) (ad : Nat → Nat → Nat) (hJ : z_J ad) (S : z_S) (o : Nat) (ho : o < z_n 18)  : z_M l y_A_isComplete b_A_isComplete 1 (some .boolean) rm_A_isComplete D C ad [.ref (ad 18 o)] S (z_Qi D C ad (f_A_isComplete_18 S o) S) := by
  refine z_enter (by decide) (Nat.le_of_ble_eq_true rfl) hJ ?_
  intro p e s m below meth c ls hF hr hlk hl hG
  obtain ⟨hx, hb, hml, hown, hts⟩ := hF.1
  have hl : lv_has ls 1 [(0, .ref (ad 18 o))] := hl
  refine lv_aload_n hx hb d_A_isComplete_0 rfl (lv_at hl 0 rfl) ?_
  refine gf_A_19_18 hF hG ho (v := (S.1 18 o 2)) rfl d_A_isComplete_1 ?_
  refine lv_iconst (v := 3) hx hb d_A_isComplete_4 z_k3 ?_
  refine lv_icmp_ne (tgt := 12) hx hb d_A_isComplete_5 rfl (fun h5 => ?_) (fun h5 => ?_)
  ·
    refine lv_iconst (v := 0) hx hb d_A_isComplete_12 z_k0 ?_
    exact z_zret hF hr hlk rfl hG (Eq.symm ((if_neg h5).trans rfl)) rfl d_A_isComplete_13
  ·
    refine lv_iconst (v := 1) hx hb d_A_isComplete_8 z_k1 ?_
    refine lv_goto (tgt := 13) hx hb d_A_isComplete_9 rfl ?_
    exact z_zret hF hr hlk rfl hG (Eq.symm ((if_pos h5).trans rfl)) rfl d_A_isComplete_13
def f_A_areAlike_18 (S : z_S) (o : Nat) : Int32 := (if (lg_cmp (S.2 20 o 0) (S.2 20 o 1)) = 0 then (if (lg_cmp (S.2 20 o 1) (S.2 20 o 2)) = 0 then 1 else 0) else 0)
set_option maxHeartbeats 4000000 in
set_option maxRecDepth 100000 in
theorem c_A_areAlike_18 (l : Launch) (D : va_G) (C : Nat → ClassId) (ad : Nat → Nat → Nat) (hJ : z_J ad) (S : z_S) (o : Nat) (ho : o < z_n 18)  : z_M l y_A_areAlike b_A_areAlike 1 (some .boolean) rm_A_areAlike D C ad [.ref (ad 18 o)] S (z_Qi D C ad (f_A_areAlike_18 S o) S) := by
  refine z_enter (by decide) (Nat.le_of_ble_eq_true rfl) hJ ?_
  intro p e s m below meth c ls hF hr hlk hl hG
  obtain ⟨hx, hb, hml, hown, hts⟩ := hF.1
  have hl : lv_has ls 1 [(0, .ref (ad 18 o))] := hl
  refine lv_aload_n hx hb d_A_areAlike_0 rfl (lv_at hl 0 rfl) ?_
  refine gf_A_15_18 hF hG ho d_A_areAlike_1 ?_
  refine lv_iconst (v := 0) hx hb d_A_areAlike_4 z_k0 ?_
  refine z_lald (n := 3) (j := 0) (v := (S.2 20 o 0)) hF hG ho (z_c20 C ad _ _ _) z_q0 z_in0_3 rfl d_A_areAlike_5 ?_
  refine lv_aload_n hx hb d_A_areAlike_6 rfl (lv_at hl 0 rfl) ?_
  refine gf_A_15_18 hF hG ho d_A_areAlike_7 ?_
  refine lv_iconst (v := 1) hx hb d_A_areAlike_10 z_k1 ?_
  refine z_lald (n := 3) (j := 1) (v := (S.2 20 o 1)) hF hG ho (z_c20 C ad _ _ _) z_q1 z_in1_3 rfl d_A_areAlike_11 ?_
  refine W.lcmp hx hb d_A_areAlike_12 ?_
  refine lv_if_ne (tgt := 36) hx hb d_A_areAlike_13 rfl (fun h13 => ?_) (fun h13 => ?_)
  ·
    refine lv_iconst (v := 0) hx hb d_A_areAlike_36 z_k0 ?_
    exact z_zret hF hr hlk rfl hG (Eq.symm ((if_neg h13).trans rfl)) rfl d_A_areAlike_37
  ·
    refine lv_aload_n hx hb d_A_areAlike_16 rfl (lv_at hl 0 rfl) ?_
    refine gf_A_15_18 hF hG ho d_A_areAlike_17 ?_
    refine lv_iconst (v := 1) hx hb d_A_areAlike_20 z_k1 ?_
    refine z_lald (n := 3) (j := 1) (v := (S.2 20 o 1)) hF hG ho (z_c20 C ad _ _ _) z_q1 z_in1_3 rfl d_A_areAlike_21 ?_
    refine lv_aload_n hx hb d_A_areAlike_22 rfl (lv_at hl 0 rfl) ?_
    refine gf_A_15_18 hF hG ho d_A_areAlike_23 ?_
    refine lv_iconst (v := 2) hx hb d_A_areAlike_26 z_k2 ?_
    refine z_lald (n := 3) (j := 2) (v := (S.2 20 o 2)) hF hG ho (z_c20 C ad _ _ _) z_q2 z_in2_3 rfl d_A_areAlike_27 ?_
    refine W.lcmp hx hb d_A_areAlike_28 ?_
    refine lv_if_ne (tgt := 36) hx hb d_A_areAlike_29 rfl (fun h29 => ?_) (fun h29 => ?_)
    ·
      refine lv_iconst (v := 0) hx hb d_A_areAlike_36 z_k0 ?_
      exact z_zret hF hr hlk rfl hG (Eq.symm ((if_pos h13).trans ((if_neg h29).trans rfl))) rfl d_A_areAlike_37
    ·
      refine lv_iconst (v := 1) hx hb d_A_areAlike_32 z_k1 ?_
      refine lv_goto (tgt := 37) hx hb d_A_areAlike_33 rfl ?_
      exact z_zret hF hr hlk rfl hG (Eq.symm ((if_pos h13).trans ((if_pos h29).trans rfl))) rfl d_A_areAlike_37
def f_R_has (S : z_S) (x0 : Int32) : Int32 := (if x0 < 0 then 0 else (if (S.1 3 0 4) ≤ x0 then 0 else 1))
set_option maxHeartbeats 4000000 in
set_option maxRecDepth 100000 in
theorem c_R_has (l : Launch) (D : va_G) (C : Nat → ClassId) (ad : Nat → Nat → Nat) (hJ : z_J ad) (S : z_S) (x0 : Int32)  : z_M l y_R_has b_R_has 2 (some .boolean) rm_R_has D C ad [.ref (ad 3 0), .int x0] S (z_Qi D C ad (f_R_has S x0) S) := by
  refine z_enter (by decide) (Nat.le_of_ble_eq_true rfl) hJ ?_
  intro p e s m below meth c ls hF hr hlk hl hG
  obtain ⟨hx, hb, hml, hown, hts⟩ := hF.1
  have hl : lv_has ls 2 [(0, .ref (ad 3 0)), (1, .int x0)] := hl
  refine lv_iload_n hx hb d_R_has_0 rfl (lv_at hl 1 rfl) ?_
  refine lv_if_lt (tgt := 16) hx hb d_R_has_1 rfl (fun h1 => ?_) (fun h1 => ?_)
  ·
    refine lv_iconst (v := 0) hx hb d_R_has_16 z_k0 ?_
    exact z_zret hF hr hlk rfl hG (Eq.symm ((if_pos h1).trans rfl)) rfl d_R_has_17
  ·
    refine lv_iload_n hx hb d_R_has_4 rfl (lv_at hl 1 rfl) ?_
    refine lv_aload_n hx hb d_R_has_5 rfl (lv_at hl 0 rfl) ?_
    refine gf_R_25_3 hF hG (v := (S.1 3 0 4)) rfl d_R_has_6 ?_
    refine lv_icmp_ge (tgt := 16) hx hb d_R_has_9 rfl (fun h9 => ?_) (fun h9 => ?_)
    ·
      refine lv_iconst (v := 0) hx hb d_R_has_16 z_k0 ?_
      exact z_zret hF hr hlk rfl hG (Eq.symm ((if_neg h1).trans ((if_pos h9).trans rfl))) rfl d_R_has_17
    ·
      refine lv_iconst (v := 1) hx hb d_R_has_12 z_k1 ?_
      refine lv_goto (tgt := 17) hx hb d_R_has_13 rfl ?_
      exact z_zret hF hr hlk rfl hG (Eq.symm ((if_neg h1).trans ((if_neg h9).trans rfl))) rfl d_R_has_17
def g_R_add (S : z_S) (x0 : Int32) (x1 : Int32) (x2 : Int32) (x3 : Int64) : z_S := (if (S.1 3 0 4) < 24 then (z_sI (z_sL (z_sI (z_sI (z_sI S 4 0 ((S.1 3 0 4).toNatClampNeg) x0) 5 0 ((S.1 3 0 4).toNatClampNeg) x1) 6 0 ((S.1 3 0 4).toNatClampNeg) x2) 7 0 ((S.1 3 0 4).toNatClampNeg) x3) 3 0 4 ((S.1 3 0 4) + 1)) else S)
set_option maxHeartbeats 4000000 in
set_option maxRecDepth 100000 in
theorem c_R_add (l : Launch) (D : va_G) (C : Nat → ClassId) (ad : Nat → Nat → Nat) (hJ : z_J ad) (S : z_S) (x0 : Int32) (x1 : Int32) (x2 : Int32) (x3 : Int64) (h0 : 0 ≤ S.1 3 0 4) : z_M l y_R_add b_R_add 6 none rm_R_add D C ad [.ref (ad 3 0), .int x0, .int x1, .int x2, .long x3] S (z_Qv D C ad (g_R_add S x0 x1 x2 x3)) := by
  refine z_enter (by decide) (Nat.le_of_ble_eq_true rfl) hJ ?_
  intro p e s m below meth c ls hF hr hlk hl hG
  obtain ⟨hx, hb, hml, hown, hts⟩ := hF.1
  have hl : lv_has ls 6 [(0, .ref (ad 3 0)), (1, .int x0), (2, .int x1), (3, .int x2), (4, .long x3)] := hl
  refine lv_aload_n hx hb d_R_add_0 rfl (lv_at hl 0 rfl) ?_
  refine gf_R_25_3 hF hG (v := (S.1 3 0 4)) rfl d_R_add_1 ?_
  refine lv_bipush (v := 24) hx hb d_R_add_4 z_bi24 ?_
  refine lv_icmp_lt (tgt := 10) hx hb d_R_add_6 rfl (fun h6 => ?_) (fun h6 => ?_)
  ·
    refine lv_aload_n hx hb d_R_add_10 rfl (lv_at hl 0 rfl) ?_
    refine gf_R_9_3 hF hG d_R_add_11 ?_
    refine lv_aload_n hx hb d_R_add_14 rfl (lv_at hl 0 rfl) ?_
    refine gf_R_25_3 hF hG (v := (S.1 3 0 4)) rfl d_R_add_15 ?_
    refine lv_iload_n hx hb d_R_add_18 rfl (lv_at hl 1 rfl) ?_
    refine z_iast (n := 24) (j := (S.1 3 0 4).toNatClampNeg) hF hG z_o4 (fun f g => z_c4 C ad f g _) rfl (z_inb (n := 24) h0 h6) d_R_add_19 (fun H locs hG => ?_)
    refine lv_aload_n hx hb d_R_add_20 rfl (lv_at hl 0 rfl) ?_
    refine gf_R_15_3 hF hG d_R_add_21 ?_
    refine lv_aload_n hx hb d_R_add_24 rfl (lv_at hl 0 rfl) ?_
    refine gf_R_25_3 hF hG (v := (S.1 3 0 4)) rfl d_R_add_25 ?_
    refine lv_iload_n hx hb d_R_add_28 rfl (lv_at hl 2 rfl) ?_
    refine z_iast (n := 24) (j := (S.1 3 0 4).toNatClampNeg) hF hG z_o5 (fun f g => z_c5 C ad f g _) rfl (z_inb (n := 24) h0 h6) d_R_add_29 (fun H locs hG => ?_)
    refine lv_aload_n hx hb d_R_add_30 rfl (lv_at hl 0 rfl) ?_
    refine gf_R_18_3 hF hG d_R_add_31 ?_
    refine lv_aload_n hx hb d_R_add_34 rfl (lv_at hl 0 rfl) ?_
    refine gf_R_25_3 hF hG (v := (S.1 3 0 4)) rfl d_R_add_35 ?_
    refine lv_iload_n hx hb d_R_add_38 rfl (lv_at hl 3 rfl) ?_
    refine z_iast (n := 24) (j := (S.1 3 0 4).toNatClampNeg) hF hG z_o6 (fun f g => z_c6 C ad f g _) rfl (z_inb (n := 24) h0 h6) d_R_add_39 (fun H locs hG => ?_)
    refine lv_aload_n hx hb d_R_add_40 rfl (lv_at hl 0 rfl) ?_
    refine gf_R_21_3 hF hG d_R_add_41 ?_
    refine lv_aload_n hx hb d_R_add_44 rfl (lv_at hl 0 rfl) ?_
    refine gf_R_25_3 hF hG (v := (S.1 3 0 4)) rfl d_R_add_45 ?_
    refine lv_lload hx hb d_R_add_48 (lv_at hl 4 rfl) ?_
    refine z_last (n := 24) (j := (S.1 3 0 4).toNatClampNeg) hF hG z_o7 (fun f g => z_c7 C ad f g _) rfl (z_inb (n := 24) h0 h6) d_R_add_50 (fun H locs hG => ?_)
    refine lv_aload_n hx hb d_R_add_51 rfl (lv_at hl 0 rfl) ?_
    refine lv_dup hx hb d_R_add_52 rfl ?_
    refine gf_R_25_3 hF hG (v := (S.1 3 0 4)) rfl d_R_add_53 ?_
    refine lv_iconst (v := 1) hx hb d_R_add_56 z_k1 ?_
    refine lv_iadd hx hb d_R_add_57 ?_
    refine pf_R_25_3 hF hG d_R_add_58 (fun H locs hG => ?_)
    exact z_vret hF hr hlk hG (Eq.symm ((if_pos h6).trans rfl)) d_R_add_61
  ·
    exact z_vret hF hr hlk hG (Eq.symm ((if_neg h6).trans rfl)) d_R_add_9
def rg_R_remove_12i_S1 (S : z_S) (k : Nat) : z_S := (z_sL (z_sI (z_sI (z_sI S 4 0 k (S.1 4 0 (k + 1))) 5 0 k (S.1 5 0 (k + 1))) 6 0 k (S.1 6 0 (k + 1))) 7 0 k (S.2 7 0 (k + 1)))
set_option maxHeartbeats 4000000 in
set_option maxRecDepth 100000 in
theorem rg_R_remove_12i {D : va_G} {C : Nat → ClassId} {ad : Nat → Nat → Nat} {S : z_S} {p : Program} {l : Launch} {e : Env} {s : State} {m : MethodId} {args : Array Value} {below : List Frame} {meth : Method} {c : Code} {H H0 : Heap} {locs : List Loc} {Q : State → Prop} {ls : Array Slot} {v1 : Int32} {k : Nat} {N : Nat} (hF : z_F D C ad p m c b_R_remove 3 s args R_R)  (hN : N < 24) (inv : S.1 3 0 4 = nI N) (hk : k < N) (hG : z_G D C ad H0 S H locs) (hl : lv_has ls 3 [(0, .ref (ad 3 0)), (1, .int v1), (2, .int (nI k))]) (kk : ∀ (H : Heap) (locs : List Loc) (ls : Array Slot) (S1 : z_S), z_G D C ad H0 S1 H locs → lv_has ls 3 [(0, .ref (ad 3 0)), (1, .int v1), (2, .int (nI (k + 1)))] → rg_R_remove_12i_S1 S k = S1 → W p l e rm_R_remove s m args below meth c H locs 0 0 Q (F0 m 12 ls [])) : W p l e rm_R_remove s m args below meth c H locs 0 0 Q (F0 m 12 ls []) := by
  obtain ⟨hx, hb, hml, hown, hts⟩ := hF.1
  refine lv_iload_n hx hb d_R_remove_12 rfl (lv_at hl 2 rfl) ?_
  refine lv_aload_n hx hb d_R_remove_13 rfl (lv_at hl 0 rfl) ?_
  refine gf_R_25_3 hF hG (v := (S.1 3 0 4)) rfl d_R_remove_14 ?_
  refine lv_icmp_ge (tgt := 82) hx hb d_R_remove_17 rfl (fun h => absurd h (by rw [inv]; exact nI_ge hk (by omega))) (fun _ => ?_)
  refine lv_aload_n hx hb d_R_remove_20 rfl (lv_at hl 0 rfl) ?_
  refine gf_R_9_3 hF hG d_R_remove_21 ?_
  refine lv_iload_n hx hb d_R_remove_24 rfl (lv_at hl 2 rfl) ?_
  refine lv_aload_n hx hb d_R_remove_25 rfl (lv_at hl 0 rfl) ?_
  refine gf_R_9_3 hF hG d_R_remove_26 ?_
  refine lv_iload_n hx hb d_R_remove_29 rfl (lv_at hl 2 rfl) ?_
  refine lv_iconst (v := 1) hx hb d_R_remove_30 z_k1 ?_
  refine lv_iadd hx hb d_R_remove_31 ?_
  refine z_topi (y := (nI (k + 1))) (nI_succ k).symm ?_
  refine z_iald (n := 24) (j := (k + 1)) (v := (S.1 4 0 (k + 1))) hF hG z_o4 (z_c4 C ad _ _ _) (nI_clamp (by omega)) (vp_in_nI (by omega) (by decide)) rfl d_R_remove_32 ?_
  refine z_iast (n := 24) (j := k) hF hG z_o4 (fun f g => z_c4 C ad f g _) (nI_clamp (by omega)) (vp_in_nI (by omega) (by decide)) d_R_remove_33 (fun H locs hG => ?_)
  refine lv_aload_n hx hb d_R_remove_34 rfl (lv_at hl 0 rfl) ?_
  refine gf_R_15_3 hF hG d_R_remove_35 ?_
  refine lv_iload_n hx hb d_R_remove_38 rfl (lv_at hl 2 rfl) ?_
  refine lv_aload_n hx hb d_R_remove_39 rfl (lv_at hl 0 rfl) ?_
  refine gf_R_15_3 hF hG d_R_remove_40 ?_
  refine lv_iload_n hx hb d_R_remove_43 rfl (lv_at hl 2 rfl) ?_
  refine lv_iconst (v := 1) hx hb d_R_remove_44 z_k1 ?_
  refine lv_iadd hx hb d_R_remove_45 ?_
  refine z_topi (y := (nI (k + 1))) (nI_succ k).symm ?_
  refine z_iald (n := 24) (j := (k + 1)) (v := (S.1 5 0 (k + 1))) hF hG z_o5 (z_c5 C ad _ _ _) (nI_clamp (by omega)) (vp_in_nI (by omega) (by decide)) rfl d_R_remove_46 ?_
  refine z_iast (n := 24) (j := k) hF hG z_o5 (fun f g => z_c5 C ad f g _) (nI_clamp (by omega)) (vp_in_nI (by omega) (by decide)) d_R_remove_47 (fun H locs hG => ?_)
  refine lv_aload_n hx hb d_R_remove_48 rfl (lv_at hl 0 rfl) ?_
  refine gf_R_18_3 hF hG d_R_remove_49 ?_
  refine lv_iload_n hx hb d_R_remove_52 rfl (lv_at hl 2 rfl) ?_
  refine lv_aload_n hx hb d_R_remove_53 rfl (lv_at hl 0 rfl) ?_
  refine gf_R_18_3 hF hG d_R_remove_54 ?_
  refine lv_iload_n hx hb d_R_remove_57 rfl (lv_at hl 2 rfl) ?_
  refine lv_iconst (v := 1) hx hb d_R_remove_58 z_k1 ?_
  refine lv_iadd hx hb d_R_remove_59 ?_
  refine z_topi (y := (nI (k + 1))) (nI_succ k).symm ?_
  refine z_iald (n := 24) (j := (k + 1)) (v := (S.1 6 0 (k + 1))) hF hG z_o6 (z_c6 C ad _ _ _) (nI_clamp (by omega)) (vp_in_nI (by omega) (by decide)) rfl d_R_remove_60 ?_
  refine z_iast (n := 24) (j := k) hF hG z_o6 (fun f g => z_c6 C ad f g _) (nI_clamp (by omega)) (vp_in_nI (by omega) (by decide)) d_R_remove_61 (fun H locs hG => ?_)
  refine lv_aload_n hx hb d_R_remove_62 rfl (lv_at hl 0 rfl) ?_
  refine gf_R_21_3 hF hG d_R_remove_63 ?_
  refine lv_iload_n hx hb d_R_remove_66 rfl (lv_at hl 2 rfl) ?_
  refine lv_aload_n hx hb d_R_remove_67 rfl (lv_at hl 0 rfl) ?_
  refine gf_R_21_3 hF hG d_R_remove_68 ?_
  refine lv_iload_n hx hb d_R_remove_71 rfl (lv_at hl 2 rfl) ?_
  refine lv_iconst (v := 1) hx hb d_R_remove_72 z_k1 ?_
  refine lv_iadd hx hb d_R_remove_73 ?_
  refine z_topi (y := (nI (k + 1))) (nI_succ k).symm ?_
  refine z_lald (n := 24) (j := (k + 1)) (v := (S.2 7 0 (k + 1))) hF hG z_o7 (z_c7 C ad _ _ _) (nI_clamp (by omega)) (vp_in_nI (by omega) (by decide)) rfl d_R_remove_74 ?_
  refine z_last (n := 24) (j := k) hF hG z_o7 (fun f g => z_c7 C ad f g _) (nI_clamp (by omega)) (vp_in_nI (by omega) (by decide)) d_R_remove_75 (fun H locs hG => ?_)
  refine lv_iinc (k := 2) (v := (nI (k + 1))) (lv' := [(2, .int (nI (k + 1))), (0, .ref (ad 3 0)), (1, .int v1)]) hx hb d_R_remove_76 hl rfl (z_incN _) (Nat.le_of_ble_eq_true rfl) rfl (fun ls hl => ?_)
  refine lv_goto (tgt := 12) hx hb d_R_remove_79 rfl ?_
  exact kk _ _ _ _ hG (lv_sub hl [1, 2, 0] rfl) rfl
set_option maxHeartbeats 4000000 in
set_option maxRecDepth 100000 in
theorem rg_R_remove_12e {D : va_G} {C : Nat → ClassId} {ad : Nat → Nat → Nat} {S : z_S} {p : Program} {l : Launch} {e : Env} {s : State} {m : MethodId} {args : Array Value} {below : List Frame} {meth : Method} {c : Code} {H H0 : Heap} {locs : List Loc} {Q : State → Prop} {ls : Array Slot} {v1 : Int32} {k : Nat} {N : Nat} (hF : z_F D C ad p m c b_R_remove 3 s args R_R)  (hN : N < 24) (inv : S.1 3 0 4 = nI N) (hk : k = N) (hG : z_G D C ad H0 S H locs) (hl : lv_has ls 3 [(0, .ref (ad 3 0)), (1, .int v1), (2, .int (nI k))]) (kk : ∀ (H : Heap) (locs : List Loc) (ls : Array Slot) , z_G D C ad H0 S H locs → lv_has ls 3 [(0, .ref (ad 3 0)), (1, .int v1), (2, .int (nI k))] → W p l e rm_R_remove s m args below meth c H locs 0 0 Q (F0 m 82 ls [])) : W p l e rm_R_remove s m args below meth c H locs 0 0 Q (F0 m 12 ls []) := by
  obtain ⟨hx, hb, hml, hown, hts⟩ := hF.1
  refine lv_iload_n hx hb d_R_remove_12 rfl (lv_at hl 2 rfl) ?_
  refine lv_aload_n hx hb d_R_remove_13 rfl (lv_at hl 0 rfl) ?_
  refine gf_R_25_3 hF hG (v := (S.1 3 0 4)) rfl d_R_remove_14 ?_
  refine lv_icmp_ge (tgt := 82) hx hb d_R_remove_17 rfl (fun _ => ?_) (fun h => absurd h (by rw [inv, hk]; exact not_not_intro (nI_le (Nat.le_refl _) (by omega))))
  exact kk _ _ _  hG (lv_sub hl [0, 1, 2] rfl) 
set_option maxHeartbeats 4000000 in
set_option maxRecDepth 100000 in
theorem lp_R_remove_12 {D : va_G} {C : Nat → ClassId} {ad : Nat → Nat → Nat} {p : Program} {l : Launch} {e : Env} {s : State} {m : MethodId} {args : Array Value} {below : List Frame} {meth : Method} {c : Code} {H0 : Heap} {Q : State → Prop} {v1 : Int32} {N : Nat} (hF : z_F D C ad p m c b_R_remove 3 s args R_R)  (hN : N < 24) : ∀ (n k : Nat) (S : z_S) (H : Heap) (locs : List Loc) (ls : Array Slot), k + n = N → (S.1 3 0 4 = nI N) → z_G D C ad H0 S H locs → lv_has ls 3 [(0, .ref (ad 3 0)), (1, .int v1), (2, .int (nI k))] → (∀ (H : Heap) (locs : List Loc) (ls : Array Slot), z_G D C ad H0 (z_it (fun (k : Nat) (S : z_S) => rg_R_remove_12i_S1 S k) k n S) H locs → lv_has ls 3 [(0, .ref (ad 3 0)), (1, .int v1), (2, .int (nI N))] → W p l e rm_R_remove s m args below meth c H locs 0 0 Q (F0 m 82 ls [])) → W p l e rm_R_remove s m args below meth c H locs 0 0 Q (F0 m 12 ls []) := by
  intro n
  induction n with
  | zero =>
    intro k S H locs ls hk inv hG hl kk
    have hk : k = N := by omega
    refine rg_R_remove_12e hF  hN inv hk hG hl (fun H locs ls hG hl => ?_)
    subst hk
    exact kk H locs ls hG hl
  | succ n ih =>
    intro k S H locs ls hk inv hG hl kk
    refine rg_R_remove_12i hF  hN inv (by omega) hG hl (fun H locs ls S1 hG hl e1 => ?_)
    subst e1
    exact ih (k + 1) (rg_R_remove_12i_S1 S k) H locs ls (by omega) (inv) hG hl kk
def g_R_remove (S : z_S) (k0 : Nat) (N : Nat) : z_S := (z_it (fun (kk9 : Nat) (T9 : z_S) => rg_R_remove_12i_S1 T9 kk9) k0 (N - k0) (z_sI S 3 0 4 ((S.1 3 0 4) - 1)))
set_option maxHeartbeats 4000000 in
set_option maxRecDepth 100000 in
theorem c_R_remove (l : Launch) (D : va_G) (C : Nat → ClassId) (ad : Nat → Nat → Nat) (hJ : z_J ad) (S : z_S) (x0 : Int32) (k0 : Nat) (N : Nat) (hx0 : x0 = nI k0) (hc : S.1 3 0 4 = nI (N + 1)) (hk0 : k0 ≤ N) (hN : N < 24) : z_M l y_R_remove b_R_remove 3 none rm_R_remove D C ad [.ref (ad 3 0), .int x0] S (z_Qv D C ad (g_R_remove S k0 N)) := by
  refine z_enter (by decide) (Nat.le_of_ble_eq_true rfl) hJ ?_
  intro p e s m below meth c ls hF hr hlk hl hG
  obtain ⟨hx, hb, hml, hown, hts⟩ := hF.1
  have hl : lv_has ls 3 [(0, .ref (ad 3 0)), (1, .int x0)] := hl
  refine lv_aload_n hx hb d_R_remove_0 rfl (lv_at hl 0 rfl) ?_
  refine lv_dup hx hb d_R_remove_1 rfl ?_
  refine gf_R_25_3 hF hG (v := (S.1 3 0 4)) rfl d_R_remove_2 ?_
  refine lv_iconst (v := 1) hx hb d_R_remove_5 z_k1 ?_
  refine lv_isub hx hb d_R_remove_6 ?_
  refine pf_R_25_3 hF hG d_R_remove_7 (fun H locs hG => ?_)
  refine lv_iload_n hx hb d_R_remove_10 rfl (lv_at hl 1 rfl) ?_
  refine lv_istore_n (lv' := [(2, .int x0), (0, .ref (ad 3 0)), (1, .int x0)]) hx hb d_R_remove_11 rfl hl (Nat.le_of_ble_eq_true rfl) rfl (fun ls hl => ?_)
  have hl : lv_has ls 3 [(0, .ref (ad 3 0)), (1, .int x0), (2, .int (nI k0))] := by
    have h9 := lv_sub hl [1, 2, 0] rfl
    rw [← hx0]; exact h9
  refine lp_R_remove_12  hF  hN (N - k0) k0 (z_sI S 3 0 4 ((S.1 3 0 4) - 1)) _ _ ls (by omega) (show S.1 3 0 4 - 1 = nI N by rw [hc]; exact z_pred N) hG hl (fun H locs ls hG hl => ?_)
  exact z_vret hF hr hlk hG rfl d_R_remove_82
def g_D_finishPart (S : z_S) (x0 : Int32) (x1 : Int32) (x2 : Int32) : z_S := (if x2 = (S.1 10 0 0) then (if (S.1 11 0 (((x0 * 8) + x1).toNatClampNeg)) = (S.1 10 0 0) then S else (z_sI (z_sI S 11 0 (((x0 * 8) + x1).toNatClampNeg) (S.1 10 0 0)) 10 0 1 ((S.1 10 0 1) + 1))) else S)
set_option maxHeartbeats 4000000 in
set_option maxRecDepth 100000 in
theorem c_D_finishPart (l : Launch) (D : va_G) (C : Nat → ClassId) (ad : Nat → Nat → Nat) (hJ : z_J ad) (S : z_S) (x0 : Int32) (x1 : Int32) (x2 : Int32) (hin : vp_in (x0 * 8 + x1) 48) : z_M l y_D_finishPart b_D_finishPart 5 none rm_D_finishPart D C ad [.ref (ad 10 0), .int x0, .int x1, .int x2] S (z_Qv D C ad (g_D_finishPart S x0 x1 x2)) := by
  refine z_enter (by decide) (Nat.le_of_ble_eq_true rfl) hJ ?_
  intro p e s m below meth c ls hF hr hlk hl hG
  obtain ⟨hx, hb, hml, hown, hts⟩ := hF.1
  have hl : lv_has ls 5 [(0, .ref (ad 10 0)), (1, .int x0), (2, .int x1), (3, .int x2)] := hl
  refine lv_iload_n hx hb d_D_finishPart_0 rfl (lv_at hl 1 rfl) ?_
  refine lv_bipush (v := 8) hx hb d_D_finishPart_1 z_bi8 ?_
  refine lv_imul hx hb d_D_finishPart_3 ?_
  refine lv_iload_n hx hb d_D_finishPart_4 rfl (lv_at hl 2 rfl) ?_
  refine lv_iadd hx hb d_D_finishPart_5 ?_
  refine lv_istore (lv' := [(4, .int ((x0 * 8) + x1)), (0, .ref (ad 10 0)), (1, .int x0), (2, .int x1), (3, .int x2)]) hx hb d_D_finishPart_6 hl (Nat.le_of_ble_eq_true rfl) rfl (fun ls hl => ?_)
  refine lv_iload_n hx hb d_D_finishPart_8 rfl (lv_at hl 4 rfl) ?_
  refine lv_aload_n hx hb d_D_finishPart_9 rfl (lv_at hl 1 rfl) ?_
  refine gf_D_9_10 hF hG (v := (S.1 10 0 0)) rfl d_D_finishPart_10 ?_
  refine lv_icmp_ne (tgt := 51) hx hb d_D_finishPart_13 rfl (fun h13 => ?_) (fun h13 => ?_)
  ·
    exact z_vret hF hr hlk hG (Eq.symm ((if_neg h13).trans rfl)) d_D_finishPart_51
  ·
    refine lv_aload_n hx hb d_D_finishPart_16 rfl (lv_at hl 1 rfl) ?_
    refine gf_D_18_10 hF hG d_D_finishPart_17 ?_
    refine lv_iload hx hb d_D_finishPart_20 (lv_at hl 0 rfl) ?_
    refine z_iald (n := 48) (j := ((x0 * 8) + x1).toNatClampNeg) (v := (S.1 11 0 (((x0 * 8) + x1).toNatClampNeg))) hF hG z_o11 (z_c11 C ad _ _ _) rfl hin rfl d_D_finishPart_22 ?_
    refine lv_aload_n hx hb d_D_finishPart_23 rfl (lv_at hl 1 rfl) ?_
    refine gf_D_9_10 hF hG (v := (S.1 10 0 0)) rfl d_D_finishPart_24 ?_
    refine lv_icmp_eq (tgt := 51) hx hb d_D_finishPart_27 rfl (fun h27 => ?_) (fun h27 => ?_)
    ·
      exact z_vret hF hr hlk hG (Eq.symm ((if_pos h13).trans ((if_pos h27).trans rfl))) d_D_finishPart_51
    ·
      refine lv_aload_n hx hb d_D_finishPart_30 rfl (lv_at hl 1 rfl) ?_
      refine gf_D_18_10 hF hG d_D_finishPart_31 ?_
      refine lv_iload hx hb d_D_finishPart_34 (lv_at hl 0 rfl) ?_
      refine lv_aload_n hx hb d_D_finishPart_36 rfl (lv_at hl 1 rfl) ?_
      refine gf_D_9_10 hF hG (v := (S.1 10 0 0)) rfl d_D_finishPart_37 ?_
      refine z_iast (n := 48) (j := ((x0 * 8) + x1).toNatClampNeg) hF hG z_o11 (fun f g => z_c11 C ad f g _) rfl hin d_D_finishPart_40 (fun H locs hG => ?_)
      refine lv_aload_n hx hb d_D_finishPart_41 rfl (lv_at hl 1 rfl) ?_
      refine lv_dup hx hb d_D_finishPart_42 rfl ?_
      refine gf_D_15_10 hF hG (v := (S.1 10 0 1)) rfl d_D_finishPart_43 ?_
      refine lv_iconst (v := 1) hx hb d_D_finishPart_46 z_k1 ?_
      refine lv_iadd hx hb d_D_finishPart_47 ?_
      refine pf_D_15_10 hF hG d_D_finishPart_48 (fun H locs hG => ?_)
      exact z_vret hF hr hlk hG (Eq.symm ((if_pos h13).trans ((if_neg h27).trans rfl))) d_D_finishPart_51
def g_D_endIfAllDone (S : z_S) (x0 : Int32) : z_S := (if (S.1 10 0 1) = x0 then (z_sI (z_sI S 10 0 0 ((S.1 10 0 0) + 1)) 10 0 1 0) else S)
set_option maxHeartbeats 4000000 in
set_option maxRecDepth 100000 in
theorem c_D_endIfAllDone (l : Launch) (D : va_G) (C : Nat → ClassId) (ad : Nat → Nat → Nat) (hJ : z_J ad) (S : z_S) (x0 : Int32)  : z_M l y_D_endIfAllDone b_D_endIfAllDone 2 none rm_D_endIfAllDone D C ad [.ref (ad 10 0), .int x0] S (z_Qv D C ad (g_D_endIfAllDone S x0)) := by
  refine z_enter (by decide) (Nat.le_of_ble_eq_true rfl) hJ ?_
  intro p e s m below meth c ls hF hr hlk hl hG
  obtain ⟨hx, hb, hml, hown, hts⟩ := hF.1
  have hl : lv_has ls 2 [(0, .ref (ad 10 0)), (1, .int x0)] := hl
  refine lv_aload_n hx hb d_D_endIfAllDone_0 rfl (lv_at hl 0 rfl) ?_
  refine gf_D_15_10 hF hG (v := (S.1 10 0 1)) rfl d_D_endIfAllDone_1 ?_
  refine lv_iload_n hx hb d_D_endIfAllDone_4 rfl (lv_at hl 1 rfl) ?_
  refine lv_icmp_ne (tgt := 23) hx hb d_D_endIfAllDone_5 rfl (fun h5 => ?_) (fun h5 => ?_)
  ·
    exact z_vret hF hr hlk hG (Eq.symm ((if_neg h5).trans rfl)) d_D_endIfAllDone_23
  ·
    refine lv_aload_n hx hb d_D_endIfAllDone_8 rfl (lv_at hl 0 rfl) ?_
    refine lv_dup hx hb d_D_endIfAllDone_9 rfl ?_
    refine gf_D_9_10 hF hG (v := (S.1 10 0 0)) rfl d_D_endIfAllDone_10 ?_
    refine lv_iconst (v := 1) hx hb d_D_endIfAllDone_13 z_k1 ?_
    refine lv_iadd hx hb d_D_endIfAllDone_14 ?_
    refine pf_D_9_10 hF hG d_D_endIfAllDone_15 (fun H locs hG => ?_)
    refine lv_aload_n hx hb d_D_endIfAllDone_18 rfl (lv_at hl 0 rfl) ?_
    refine lv_iconst (v := 0) hx hb d_D_endIfAllDone_19 z_k0 ?_
    refine pf_D_15_10 hF hG d_D_endIfAllDone_20 (fun H locs hG => ?_)
    exact z_vret hF hr hlk hG (Eq.symm ((if_pos h5).trans rfl)) d_D_endIfAllDone_23
def g_P_begin (S : z_S) (o : Nat) (x0 : Int32) (x1 : Int32) (x2 : Int32) (x3 : Int64) (x4 : Int32) : z_S := (g_A_forget_18 (g_A_forget_15 (z_sI (z_sL (z_sI (z_sI (z_sI S 14 o 0 x0) 14 o 1 x1) 14 o 2 x2) 14 o 3 x3) 14 o 4 x4) o) o)
set_option maxHeartbeats 4000000 in
set_option maxRecDepth 100000 in
theorem c_P_begin (l : Launch) (D : va_G) (C : Nat → ClassId) (ad : Nat → Nat → Nat) (hJ : z_J ad) (S : z_S) (o : Nat) (ho : o < z_n 14) (x0 : Int32) (x1 : Int32) (x2 : Int32) (x3 : Int64) (x4 : Int32)  : z_M l y_P_begin b_P_begin 7 none rm_P_begin D C ad [.ref (ad 14 o), .int x0, .int x1, .int x2, .long x3, .int x4] S (z_Qv D C ad (g_P_begin S o x0 x1 x2 x3 x4)) := by
  refine z_enter (by decide) (Nat.le_of_ble_eq_true rfl) hJ ?_
  intro p e s m below meth c ls hF hr hlk hl hG
  obtain ⟨hx, hb, hml, hown, hts⟩ := hF.1
  have hl : lv_has ls 7 [(0, .ref (ad 14 o)), (1, .int x0), (2, .int x1), (3, .int x2), (4, .long x3), (6, .int x4)] := hl
  refine lv_aload_n hx hb d_P_begin_0 rfl (lv_at hl 0 rfl) ?_
  refine lv_iload_n hx hb d_P_begin_1 rfl (lv_at hl 1 rfl) ?_
  refine pf_P_9_14 hF hG ho d_P_begin_2 (fun H locs hG => ?_)
  refine lv_aload_n hx hb d_P_begin_5 rfl (lv_at hl 0 rfl) ?_
  refine lv_iload_n hx hb d_P_begin_6 rfl (lv_at hl 2 rfl) ?_
  refine pf_P_15_14 hF hG ho d_P_begin_7 (fun H locs hG => ?_)
  refine lv_aload_n hx hb d_P_begin_10 rfl (lv_at hl 0 rfl) ?_
  refine lv_iload_n hx hb d_P_begin_11 rfl (lv_at hl 3 rfl) ?_
  refine pf_P_18_14 hF hG ho d_P_begin_12 (fun H locs hG => ?_)
  refine lv_aload_n hx hb d_P_begin_15 rfl (lv_at hl 0 rfl) ?_
  refine lv_lload hx hb d_P_begin_16 (lv_at hl 4 rfl) ?_
  refine pf_P_21_14 hF hG ho d_P_begin_18 (fun H locs hG => ?_)
  refine lv_aload_n hx hb d_P_begin_21 rfl (lv_at hl 0 rfl) ?_
  refine lv_iload hx hb d_P_begin_22 (lv_at hl 5 rfl) ?_
  refine pf_P_25_14 hF hG ho d_P_begin_24 (fun H locs hG => ?_)
  refine lv_aload_n hx hb d_P_begin_27 rfl (lv_at hl 0 rfl) ?_
  refine gf_P_31_14 hF hG ho d_P_begin_28 ?_
  refine kc_P_38_15 hF (c_A_forget_15 l D C ad hF.2.2 _ _ ho ) hG ho ⟨Nat.le_of_ble_eq_true rfl, Nat.le_of_ble_eq_true rfl⟩ ⟨Nat.zero_le _, Nat.zero_le _⟩ hl.1 (Nat.le_of_ble_eq_true rfl) d_P_begin_31 (fun H locs hG => ?_)
  refine lv_aload_n hx hb d_P_begin_34 rfl (lv_at hl 0 rfl) ?_
  refine gf_P_35_14 hF hG ho d_P_begin_35 ?_
  refine kc_P_38_18 hF (c_A_forget_18 l D C ad hF.2.2 _ _ ho ) hG ho ⟨Nat.le_of_ble_eq_true rfl, Nat.le_of_ble_eq_true rfl⟩ ⟨Nat.zero_le _, Nat.zero_le _⟩ hl.1 (Nat.le_of_ble_eq_true rfl) d_P_begin_38 (fun H locs hG => ?_)
  exact z_vret hF hr hlk hG rfl d_P_begin_41
def f_P_copiedBlock (S : z_S) (o : Nat) (x0 : Int32) (x1 : Int32) : Int32 := ((((S.2 20 o x0.toNatClampNeg).toUInt64 >>> ((32 * x1).toInt64.toUInt64 &&& Int64.toUInt64 63)).toInt64).toInt32)
set_option maxHeartbeats 4000000 in
set_option maxRecDepth 100000 in
theorem c_P_copiedBlock (l : Launch) (D : va_G) (C : Nat → ClassId) (ad : Nat → Nat → Nat) (hJ : z_J ad) (S : z_S) (o : Nat) (ho : o < z_n 14) (x0 : Int32) (x1 : Int32) (hin : vp_in x0 3) : z_M l y_P_copiedBlock b_P_copiedBlock 3 (some .int) rm_P_copiedBlock D C ad [.ref (ad 14 o), .int x0, .int x1] S (z_Qi D C ad (f_P_copiedBlock S o x0 x1) S) := by
  refine z_enter (by decide) (Nat.le_of_ble_eq_true rfl) hJ ?_
  intro p e s m below meth c ls hF hr hlk hl hG
  obtain ⟨hx, hb, hml, hown, hts⟩ := hF.1
  have hl : lv_has ls 3 [(0, .ref (ad 14 o)), (1, .int x0), (2, .int x1)] := hl
  refine lv_aload_n hx hb d_P_copiedBlock_0 rfl (lv_at hl 0 rfl) ?_
  refine gf_P_35_14 hF hG ho d_P_copiedBlock_1 ?_
  refine gf_P_41_18 hF hG ho d_P_copiedBlock_4 ?_
  refine lv_iload_n hx hb d_P_copiedBlock_7 rfl (lv_at hl 1 rfl) ?_
  refine z_lald (n := 3) (j := x0.toNatClampNeg) (v := (S.2 20 o x0.toNatClampNeg)) hF hG ho (z_c20 C ad _ _ _) rfl hin rfl d_P_copiedBlock_8 ?_
  refine lv_bipush (v := 32) hx hb d_P_copiedBlock_9 z_bi32 ?_
  refine lv_iload_n hx hb d_P_copiedBlock_11 rfl (lv_at hl 2 rfl) ?_
  refine lv_imul hx hb d_P_copiedBlock_12 ?_
  refine lv_lushr hx hb d_P_copiedBlock_13 rfl ?_
  refine lv_l2i hx hb d_P_copiedBlock_14 rfl ?_
  exact z_iret hF hr hlk hG rfl rfl d_P_copiedBlock_15
def f_P_copiesAllDiffer (S : z_S) (o : Nat) (x0 : Int32) : Int32 := (if (f_P_copiedBlock S o 0 x0) = (f_P_copiedBlock S o 1 x0) then 0 else (if (f_P_copiedBlock S o 1 x0) = (f_P_copiedBlock S o 2 x0) then 0 else (if (f_P_copiedBlock S o 0 x0) = (f_P_copiedBlock S o 2 x0) then 0 else 1)))
set_option maxHeartbeats 4000000 in
set_option maxRecDepth 100000 in
theorem c_P_copiesAllDiffer (l : Launch) (D : va_G) (C : Nat → ClassId) (ad : Nat → Nat → Nat) (hJ : z_J ad) (S : z_S) (o : Nat) (ho : o < z_n 14) (x0 : Int32)  : z_M l y_P_copiesAllDiffer b_P_copiesAllDiffer 5 (some .boolean) rm_P_copiesAllDiffer D C ad [.ref (ad 14 o), .int x0] S (z_Qi D C ad (f_P_copiesAllDiffer S o x0) S) := by
  refine z_enter (by decide) (Nat.le_of_ble_eq_true rfl) hJ ?_
  intro p e s m below meth c ls hF hr hlk hl hG
  obtain ⟨hx, hb, hml, hown, hts⟩ := hF.1
  have hl : lv_has ls 5 [(0, .ref (ad 14 o)), (1, .int x0)] := hl
  refine lv_aload_n hx hb d_P_copiesAllDiffer_0 rfl (lv_at hl 0 rfl) ?_
  refine lv_iconst (v := 0) hx hb d_P_copiesAllDiffer_1 z_k0 ?_
  refine lv_iload_n hx hb d_P_copiesAllDiffer_2 rfl (lv_at hl 1 rfl) ?_
  refine kc_P_45 hF (c_P_copiedBlock l D C ad hF.2.2 _ _ ho _ _ z_in0_3) hG ho ⟨Nat.le_of_ble_eq_true rfl, Nat.le_of_ble_eq_true rfl⟩ ⟨Nat.zero_le _, Nat.zero_le _⟩ hl.1 (Nat.le_of_ble_eq_true rfl) d_P_copiesAllDiffer_3 (fun H locs hG => ?_)
  refine lv_istore_n (lv' := [(2, .int (f_P_copiedBlock S o 0 x0)), (0, .ref (ad 14 o)), (1, .int x0)]) hx hb d_P_copiesAllDiffer_6 rfl hl (Nat.le_of_ble_eq_true rfl) rfl (fun ls hl => ?_)
  refine lv_aload_n hx hb d_P_copiesAllDiffer_7 rfl (lv_at hl 1 rfl) ?_
  refine lv_iconst (v := 1) hx hb d_P_copiesAllDiffer_8 z_k1 ?_
  refine lv_iload_n hx hb d_P_copiesAllDiffer_9 rfl (lv_at hl 2 rfl) ?_
  refine kc_P_45 hF (c_P_copiedBlock l D C ad hF.2.2 _ _ ho _ _ z_in1_3) hG ho ⟨Nat.le_of_ble_eq_true rfl, Nat.le_of_ble_eq_true rfl⟩ ⟨Nat.zero_le _, Nat.zero_le _⟩ hl.1 (Nat.le_of_ble_eq_true rfl) d_P_copiesAllDiffer_10 (fun H locs hG => ?_)
  refine lv_istore_n (lv' := [(3, .int (f_P_copiedBlock S o 1 x0)), (2, .int (f_P_copiedBlock S o 0 x0)), (0, .ref (ad 14 o)), (1, .int x0)]) hx hb d_P_copiesAllDiffer_13 rfl hl (Nat.le_of_ble_eq_true rfl) rfl (fun ls hl => ?_)
  refine lv_aload_n hx hb d_P_copiesAllDiffer_14 rfl (lv_at hl 2 rfl) ?_
  refine lv_iconst (v := 2) hx hb d_P_copiesAllDiffer_15 z_k2 ?_
  refine lv_iload_n hx hb d_P_copiesAllDiffer_16 rfl (lv_at hl 3 rfl) ?_
  refine kc_P_45 hF (c_P_copiedBlock l D C ad hF.2.2 _ _ ho _ _ z_in2_3) hG ho ⟨Nat.le_of_ble_eq_true rfl, Nat.le_of_ble_eq_true rfl⟩ ⟨Nat.zero_le _, Nat.zero_le _⟩ hl.1 (Nat.le_of_ble_eq_true rfl) d_P_copiesAllDiffer_17 (fun H locs hG => ?_)
  refine lv_istore (lv' := [(4, .int (f_P_copiedBlock S o 2 x0)), (3, .int (f_P_copiedBlock S o 1 x0)), (2, .int (f_P_copiedBlock S o 0 x0)), (0, .ref (ad 14 o)), (1, .int x0)]) hx hb d_P_copiesAllDiffer_20 hl (Nat.le_of_ble_eq_true rfl) rfl (fun ls hl => ?_)
  refine lv_iload_n hx hb d_P_copiesAllDiffer_22 rfl (lv_at hl 2 rfl) ?_
  refine lv_iload_n hx hb d_P_copiesAllDiffer_23 rfl (lv_at hl 1 rfl) ?_
  refine lv_icmp_eq (tgt := 43) hx hb d_P_copiesAllDiffer_24 rfl (fun h24 => ?_) (fun h24 => ?_)
  ·
    refine lv_iconst (v := 0) hx hb d_P_copiesAllDiffer_43 z_k0 ?_
    exact z_zret hF hr hlk rfl hG (Eq.symm ((if_pos h24).trans rfl)) rfl d_P_copiesAllDiffer_44
  ·
    refine lv_iload_n hx hb d_P_copiesAllDiffer_27 rfl (lv_at hl 1 rfl) ?_
    refine lv_iload hx hb d_P_copiesAllDiffer_28 (lv_at hl 0 rfl) ?_
    refine lv_icmp_eq (tgt := 43) hx hb d_P_copiesAllDiffer_30 rfl (fun h30 => ?_) (fun h30 => ?_)
    ·
      refine lv_iconst (v := 0) hx hb d_P_copiesAllDiffer_43 z_k0 ?_
      exact z_zret hF hr hlk rfl hG (Eq.symm ((if_neg h24).trans ((if_pos h30).trans rfl))) rfl d_P_copiesAllDiffer_44
    ·
      refine lv_iload_n hx hb d_P_copiesAllDiffer_33 rfl (lv_at hl 2 rfl) ?_
      refine lv_iload hx hb d_P_copiesAllDiffer_34 (lv_at hl 0 rfl) ?_
      refine lv_icmp_eq (tgt := 43) hx hb d_P_copiesAllDiffer_36 rfl (fun h36 => ?_) (fun h36 => ?_)
      ·
        refine lv_iconst (v := 0) hx hb d_P_copiesAllDiffer_43 z_k0 ?_
        exact z_zret hF hr hlk rfl hG (Eq.symm ((if_neg h24).trans ((if_neg h30).trans ((if_pos h36).trans rfl)))) rfl d_P_copiesAllDiffer_44
      ·
        refine lv_iconst (v := 1) hx hb d_P_copiesAllDiffer_39 z_k1 ?_
        refine lv_goto (tgt := 44) hx hb d_P_copiesAllDiffer_40 rfl ?_
        exact z_zret hF hr hlk rfl hG (Eq.symm ((if_neg h24).trans ((if_neg h30).trans ((if_neg h36).trans rfl)))) rfl d_P_copiesAllDiffer_44
