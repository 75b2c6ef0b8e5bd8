def f_X_isHouse (x0 : Int32) : Int32 := (if x0 < 0 then 0 else (if 3 ≤ x0 then 0 else 1))
set_option maxHeartbeats 4000000 in
set_option maxRecDepth 100000 in
theorem c_X_isHouse (l : Launch) (D : va_G) (C : Nat → ClassId) (ad : Nat → Nat → Nat) (hJ : z_J ad) (S : z_S) (x0 : Int32)  : z_M l y_X_isHouse b_X_isHouse 1 (some .boolean) rm_X_isHouse D C ad [.int x0] S (z_Qi D C ad (f_X_isHouse x0) S) := by
  refine z_enter (by decide) (Nat.le_of_ble_eq_true rfl) hJ ?_
  intro p e s m below meth c ls hF hr hlk hl hG
  obtain ⟨hx, hb, hml, hown, hts⟩ := hF.1
  have hl : lv_has ls 1 [(0, .int x0)] := hl
  refine lv_iload_n hx hb d_X_isHouse_0 rfl (lv_at hl 0 rfl) ?_
  refine lv_if_lt (tgt := 13) hx hb d_X_isHouse_1 rfl (fun h1 => ?_) (fun h1 => ?_)
  ·
    refine lv_iconst (v := 0) hx hb d_X_isHouse_13 z_k0 ?_
    exact z_zret hF hr hlk rfl hG (Eq.symm ((if_pos h1).trans rfl)) rfl d_X_isHouse_14
  ·
    refine lv_iload_n hx hb d_X_isHouse_4 rfl (lv_at hl 0 rfl) ?_
    refine lv_iconst (v := 3) hx hb d_X_isHouse_5 z_k3 ?_
    refine lv_icmp_ge (tgt := 13) hx hb d_X_isHouse_6 rfl (fun h6 => ?_) (fun h6 => ?_)
    ·
      refine lv_iconst (v := 0) hx hb d_X_isHouse_13 z_k0 ?_
      exact z_zret hF hr hlk rfl hG (Eq.symm ((if_neg h1).trans ((if_pos h6).trans rfl))) rfl d_X_isHouse_14
    ·
      refine lv_iconst (v := 1) hx hb d_X_isHouse_9 z_k1 ?_
      refine lv_goto (tgt := 14) hx hb d_X_isHouse_10 rfl ?_
      exact z_zret hF hr hlk rfl hG (Eq.symm ((if_neg h1).trans ((if_neg h6).trans rfl))) rfl d_X_isHouse_14
def f_X_isDeposit (x0 : Int32) : Int32 := (if x0 < 0 then 0 else (if 6 ≤ x0 then 0 else 1))
set_option maxHeartbeats 4000000 in
set_option maxRecDepth 100000 in
theorem c_X_isDeposit (l : Launch) (D : va_G) (C : Nat → ClassId) (ad : Nat → Nat → Nat) (hJ : z_J ad) (S : z_S) (x0 : Int32)  : z_M l y_X_isDeposit b_X_isDeposit 1 (some .boolean) rm_X_isDeposit D C ad [.int x0] S (z_Qi D C ad (f_X_isDeposit x0) S) := by
  refine z_enter (by decide) (Nat.le_of_ble_eq_true rfl) hJ ?_
  intro p e s m below meth c ls hF hr hlk hl hG
  obtain ⟨hx, hb, hml, hown, hts⟩ := hF.1
  have hl : lv_has ls 1 [(0, .int x0)] := hl
  refine lv_iload_n hx hb d_X_isDeposit_0 rfl (lv_at hl 0 rfl) ?_
  refine lv_if_lt (tgt := 14) hx hb d_X_isDeposit_1 rfl (fun h1 => ?_) (fun h1 => ?_)
  ·
    refine lv_iconst (v := 0) hx hb d_X_isDeposit_14 z_k0 ?_
    exact z_zret hF hr hlk rfl hG (Eq.symm ((if_pos h1).trans rfl)) rfl d_X_isDeposit_15
  ·
    refine lv_iload_n hx hb d_X_isDeposit_4 rfl (lv_at hl 0 rfl) ?_
    refine lv_bipush (v := 6) hx hb d_X_isDeposit_5 z_bi6 ?_
    refine lv_icmp_ge (tgt := 14) hx hb d_X_isDeposit_7 rfl (fun h7 => ?_) (fun h7 => ?_)
    ·
      refine lv_iconst (v := 0) hx hb d_X_isDeposit_14 z_k0 ?_
      exact z_zret hF hr hlk rfl hG (Eq.symm ((if_neg h1).trans ((if_pos h7).trans rfl))) rfl d_X_isDeposit_15
    ·
      refine lv_iconst (v := 1) hx hb d_X_isDeposit_10 z_k1 ?_
      refine lv_goto (tgt := 15) hx hb d_X_isDeposit_11 rfl ?_
      exact z_zret hF hr hlk rfl hG (Eq.symm ((if_neg h1).trans ((if_neg h7).trans rfl))) rfl d_X_isDeposit_15
def f_X_isPart (x0 : Int32) : Int32 := (if x0 < 0 then 0 else (if 8 ≤ x0 then 0 else 1))
set_option maxHeartbeats 4000000 in
set_option maxRecDepth 100000 in
theorem c_X_isPart (l : Launch) (D : va_G) (C : Nat → ClassId) (ad : Nat → Nat → Nat) (hJ : z_J ad) (S : z_S) (x0 : Int32)  : z_M l y_X_isPart b_X_isPart 1 (some .boolean) rm_X_isPart D C ad [.int x0] S (z_Qi D C ad (f_X_isPart x0) S) := by
  refine z_enter (by decide) (Nat.le_of_ble_eq_true rfl) hJ ?_
  intro p e s m below meth c ls hF hr hlk hl hG
  obtain ⟨hx, hb, hml, hown, hts⟩ := hF.1
  have hl : lv_has ls 1 [(0, .int x0)] := hl
  refine lv_iload_n hx hb d_X_isPart_0 rfl (lv_at hl 0 rfl) ?_
  refine lv_if_lt (tgt := 14) hx hb d_X_isPart_1 rfl (fun h1 => ?_) (fun h1 => ?_)
  ·
    refine lv_iconst (v := 0) hx hb d_X_isPart_14 z_k0 ?_
    exact z_zret hF hr hlk rfl hG (Eq.symm ((if_pos h1).trans rfl)) rfl d_X_isPart_15
  ·
    refine lv_iload_n hx hb d_X_isPart_4 rfl (lv_at hl 0 rfl) ?_
    refine lv_bipush (v := 8) hx hb d_X_isPart_5 z_bi8 ?_
    refine lv_icmp_ge (tgt := 14) hx hb d_X_isPart_7 rfl (fun h7 => ?_) (fun h7 => ?_)
    ·
      refine lv_iconst (v := 0) hx hb d_X_isPart_14 z_k0 ?_
      exact z_zret hF hr hlk rfl hG (Eq.symm ((if_neg h1).trans ((if_pos h7).trans rfl))) rfl d_X_isPart_15
    ·
      refine lv_iconst (v := 1) hx hb d_X_isPart_10 z_k1 ?_
      refine lv_goto (tgt := 15) hx hb d_X_isPart_11 rfl ?_
      exact z_zret hF hr hlk rfl hG (Eq.symm ((if_neg h1).trans ((if_neg h7).trans rfl))) rfl d_X_isPart_15
theorem z_rg {x : Int32} {n : Nat} (h1 : ¬ x < 0) (h2 : ¬ nI n ≤ x) (hn : n < 2 ^ 31 := by decide) : vp_in x n := by
  rw [vp_in_iff]
  rw [Int32.lt_iff_toInt_lt, Int32.toInt_zero] at h1
  rw [Int32.le_iff_toInt_le, nI_toInt hn] at h2
  omega
theorem z_dep {x : Int32} (h : ¬ f_X_isDeposit x = 0) : vp_in x 6 := by
  unfold f_X_isDeposit at h
  by_cases h1 : x < 0
  · rw [if_pos h1] at h; exact absurd rfl h
  · rw [if_neg h1] at h
    by_cases h2 : 6 ≤ x
    · rw [if_pos h2] at h; exact absurd rfl h
    · exact z_rg (n := 6) h1 h2
theorem z_hou {x : Int32} (h : ¬ f_X_isHouse x = 0) : vp_in x 3 := by
  unfold f_X_isHouse at h
  by_cases h1 : x < 0
  · rw [if_pos h1] at h; exact absurd rfl h
  · rw [if_neg h1] at h
    by_cases h2 : 3 ≤ x
    · rw [if_pos h2] at h; exact absurd rfl h
    · exact z_rg (n := 3) h1 h2
theorem z_par {x : Int32} (h : ¬ f_X_isPart x = 0) : vp_in x 8 := by
  unfold f_X_isPart at h
  by_cases h1 : x < 0
  · rw [if_pos h1] at h; exact absurd rfl h
  · rw [if_neg h1] at h
    by_cases h2 : 8 ≤ x
    · rw [if_pos h2] at h; exact absurd rfl h
    · exact z_rg (n := 8) h1 h2
def f_X_isByte (S : z_S) (x0 : Int32) (x1 : Int32) : Int32 := (if (f_X_isDeposit x0) = 0 then 0 else (if x1 < 0 then 0 else (if ((S.1 2 0 x0.toNatClampNeg) * 4) ≤ x1 then 0 else 1)))
set_option maxHeartbeats 4000000 in
set_option maxRecDepth 100000 in
theorem c_X_isByte (l : Launch) (D : va_G) (C : Nat → ClassId) (ad : Nat → Nat → Nat) (hJ : z_J ad) (S : z_S) (x0 : Int32) (x1 : Int32)  : z_M l y_X_isByte b_X_isByte 3 (some .boolean) rm_X_isByte D C ad [.ref (ad 0 0), .int x0, .int x1] S (z_Qi D C ad (f_X_isByte S x0 x1) S) := by
  refine z_enter (by decide) (Nat.le_of_ble_eq_true rfl) hJ ?_
  intro p e s m below meth c ls hF hr hlk hl hG
  obtain ⟨hx, hb, hml, hown, hts⟩ := hF.1
  have hl : lv_has ls 3 [(0, .ref (ad 0 0)), (1, .int x0), (2, .int x1)] := hl
  refine lv_iload_n hx hb d_X_isByte_0 rfl (lv_at hl 1 rfl) ?_
  refine kc_X_51 hF (c_X_isDeposit l D C ad hF.2.2 _ _ ) hG ⟨Nat.le_of_ble_eq_true rfl, Nat.le_of_ble_eq_true rfl⟩ ⟨Nat.zero_le _, Nat.zero_le _⟩ hl.1 (Nat.le_of_ble_eq_true rfl) d_X_isByte_1 (fun H locs hG => ?_)
  refine lv_if_eq (tgt := 27) hx hb d_X_isByte_4 rfl (fun h4 => ?_) (fun h4 => ?_)
  ·
    refine lv_iconst (v := 0) hx hb d_X_isByte_27 z_k0 ?_
    exact z_zret hF hr hlk rfl hG (Eq.symm ((if_pos h4).trans rfl)) rfl d_X_isByte_28
  ·
    refine lv_iload_n hx hb d_X_isByte_7 rfl (lv_at hl 2 rfl) ?_
    refine lv_if_lt (tgt := 27) hx hb d_X_isByte_8 rfl (fun h8 => ?_) (fun h8 => ?_)
    ·
      refine lv_iconst (v := 0) hx hb d_X_isByte_27 z_k0 ?_
      exact z_zret hF hr hlk rfl hG (Eq.symm ((if_neg h4).trans ((if_pos h8).trans rfl))) rfl d_X_isByte_28
    ·
      refine lv_iload_n hx hb d_X_isByte_11 rfl (lv_at hl 2 rfl) ?_
      refine lv_aload_n hx hb d_X_isByte_12 rfl (lv_at hl 0 rfl) ?_
      refine gf_X_15_0 hF hG d_X_isByte_13 ?_
      refine lv_iload_n hx hb d_X_isByte_16 rfl (lv_at hl 1 rfl) ?_
      refine z_iald (n := 6) (j := x0.toNatClampNeg) (v := (S.1 2 0 x0.toNatClampNeg)) hF hG z_o2 (z_c2 C ad _ _ _) rfl (z_dep h4) rfl d_X_isByte_17 ?_
      refine lv_iconst (v := 4) hx hb d_X_isByte_18 z_k4 ?_
      refine lv_imul hx hb d_X_isByte_19 ?_
      refine lv_icmp_ge (tgt := 27) hx hb d_X_isByte_20 rfl (fun h20 => ?_) (fun h20 => ?_)
      ·
        refine lv_iconst (v := 0) hx hb d_X_isByte_27 z_k0 ?_
        exact z_zret hF hr hlk rfl hG (Eq.symm ((if_neg h4).trans ((if_neg h8).trans ((if_pos h20).trans rfl)))) rfl d_X_isByte_28
      ·
        refine lv_iconst (v := 1) hx hb d_X_isByte_23 z_k1 ?_
        refine lv_goto (tgt := 28) hx hb d_X_isByte_24 rfl ?_
        exact z_zret hF hr hlk rfl hG (Eq.symm ((if_neg h4).trans ((if_neg h8).trans ((if_neg h20).trans rfl)))) rfl d_X_isByte_28
def f_X_isPoll (S : z_S) (x0 : Int32) : Int32 := (if x0 < 1 then 0 else (if (S.1 0 0 6) < x0 then 0 else 1))
set_option maxHeartbeats 4000000 in
set_option maxRecDepth 100000 in
theorem c_X_isPoll (l : Launch) (D : va_G) (C : Nat → ClassId) (ad : Nat → Nat → Nat) (hJ : z_J ad) (S : z_S) (x0 : Int32)  : z_M l y_X_isPoll b_X_isPoll 2 (some .boolean) rm_X_isPoll D C ad [.ref (ad 0 0), .int x0] S (z_Qi D C ad (f_X_isPoll S x0) S) := by
  refine z_enter (by decide) (Nat.le_of_ble_eq_true rfl) hJ ?_
  intro p e s m below meth c ls hF hr hlk hl hG
  obtain ⟨hx, hb, hml, hown, hts⟩ := hF.1
  have hl : lv_has ls 2 [(0, .ref (ad 0 0)), (1, .int x0)] := hl
  refine lv_iload_n hx hb d_X_isPoll_0 rfl (lv_at hl 1 rfl) ?_
  refine lv_iconst (v := 1) hx hb d_X_isPoll_1 z_k1 ?_
  refine lv_icmp_lt (tgt := 17) hx hb d_X_isPoll_2 rfl (fun h2 => ?_) (fun h2 => ?_)
  ·
    refine lv_iconst (v := 0) hx hb d_X_isPoll_17 z_k0 ?_
    exact z_zret hF hr hlk rfl hG (Eq.symm ((if_pos h2).trans rfl)) rfl d_X_isPoll_18
  ·
    refine lv_iload_n hx hb d_X_isPoll_5 rfl (lv_at hl 1 rfl) ?_
    refine lv_aload_n hx hb d_X_isPoll_6 rfl (lv_at hl 0 rfl) ?_
    refine gf_X_42_0 hF hG (v := (S.1 0 0 6)) rfl d_X_isPoll_7 ?_
    refine lv_icmp_gt (tgt := 17) hx hb d_X_isPoll_10 rfl (fun h10 => ?_) (fun h10 => ?_)
    ·
      refine lv_iconst (v := 0) hx hb d_X_isPoll_17 z_k0 ?_
      exact z_zret hF hr hlk rfl hG (Eq.symm ((if_neg h2).trans ((if_pos h10).trans rfl))) rfl d_X_isPoll_18
    ·
      refine lv_iconst (v := 1) hx hb d_X_isPoll_13 z_k1 ?_
      refine lv_goto (tgt := 18) hx hb d_X_isPoll_14 rfl ?_
      exact z_zret hF hr hlk rfl hG (Eq.symm ((if_neg h2).trans ((if_neg h10).trans rfl))) rfl d_X_isPoll_18
def f_X_allHousesOpen (S : z_S) : Int32 := (if (S.1 12 0 0) = 0 then 0 else (if (S.1 12 1 0) = 0 then 0 else (if (S.1 12 2 0) = 0 then 0 else 1)))
set_option maxHeartbeats 4000000 in
set_option maxRecDepth 100000 in
theorem c_X_allHousesOpen (l : Launch) (D : va_G) (C : Nat → ClassId) (ad : Nat → Nat → Nat) (hJ : z_J ad) (S : z_S)  : z_M l y_X_allHousesOpen b_X_allHousesOpen 2 (some .boolean) rm_X_allHousesOpen D C ad [.ref (ad 0 0)] S (z_Qi D C ad (f_X_allHousesOpen S) S) := by
  refine z_enter (by decide) (Nat.le_of_ble_eq_true rfl) hJ ?_
  intro p e s m below meth c ls hF hr hlk hl hG
  obtain ⟨hx, hb, hml, hown, hts⟩ := hF.1
  have hl : lv_has ls 2 [(0, .ref (ad 0 0))] := hl
  refine lv_iconst (v := 0) hx hb d_X_allHousesOpen_0 z_k0 ?_
  refine lv_istore_n (lv' := [(1, .int 0), (0, .ref (ad 0 0))]) hx hb d_X_allHousesOpen_1 rfl hl (Nat.le_of_ble_eq_true rfl) rfl (fun ls hl => ?_)
  refine lv_iload_n hx hb d_X_allHousesOpen_2 rfl (lv_at hl 0 rfl) ?_
  refine lv_iconst (v := 3) hx hb d_X_allHousesOpen_3 z_k3 ?_
  refine lv_icmp_ge (tgt := 27) hx hb d_X_allHousesOpen_4 rfl (fun h => absurd h (by decide)) (fun _ => ?_)
  refine lv_aload_n hx hb d_X_allHousesOpen_7 rfl (lv_at hl 1 rfl) ?_
  refine gf_X_11_0 hF hG d_X_allHousesOpen_8 ?_
  refine lv_iload_n hx hb d_X_allHousesOpen_11 rfl (lv_at hl 0 rfl) ?_
  refine z_aald (n := 3) (K := 3) (t0 := 3) (Cn := R_H) (j := 0) (v := ad 12 0) hF hG z_o1 (z_c1 C ad _ _ _) rfl z_q0 z_in0_3 rfl d_X_allHousesOpen_12 ?_
  refine gf_X_140_12 hF hG z_o12_0 (v := (S.1 12 0 0)) rfl d_X_allHousesOpen_13 ?_
  refine lv_if_ne (tgt := 21) hx hb d_X_allHousesOpen_16 rfl (fun h16 => ?_) (fun h16 => ?_)
  ·
    refine lv_iinc (k := 0) (v := 1) (lv' := [(1, .int 1), (0, .ref (ad 0 0))]) hx hb d_X_allHousesOpen_21 hl rfl (by decide) (Nat.le_of_ble_eq_true rfl) rfl (fun ls hl => ?_)
    refine lv_goto (tgt := 2) hx hb d_X_allHousesOpen_24 rfl ?_
    refine lv_iload_n hx hb d_X_allHousesOpen_2 rfl (lv_at hl 0 rfl) ?_
    refine lv_iconst (v := 3) hx hb d_X_allHousesOpen_3 z_k3 ?_
    refine lv_icmp_ge (tgt := 27) hx hb d_X_allHousesOpen_4 rfl (fun h => absurd h (by decide)) (fun _ => ?_)
    refine lv_aload_n hx hb d_X_allHousesOpen_7 rfl (lv_at hl 1 rfl) ?_
    refine gf_X_11_0 hF hG d_X_allHousesOpen_8 ?_
    refine lv_iload_n hx hb d_X_allHousesOpen_11 rfl (lv_at hl 0 rfl) ?_
    refine z_aald (n := 3) (K := 3) (t0 := 3) (Cn := R_H) (j := 1) (v := ad 12 1) hF hG z_o1 (z_c1 C ad _ _ _) rfl z_q1 z_in1_3 rfl d_X_allHousesOpen_12 ?_
    refine gf_X_140_12 hF hG z_o12_1 (v := (S.1 12 1 0)) rfl d_X_allHousesOpen_13 ?_
    refine lv_if_ne (tgt := 21) hx hb d_X_allHousesOpen_16 rfl (fun h16_1 => ?_) (fun h16_1 => ?_)
    ·
      refine lv_iinc (k := 0) (v := 2) (lv' := [(1, .int 2), (0, .ref (ad 0 0))]) hx hb d_X_allHousesOpen_21 hl rfl (by decide) (Nat.le_of_ble_eq_true rfl) rfl (fun ls hl => ?_)
      refine lv_goto (tgt := 2) hx hb d_X_allHousesOpen_24 rfl ?_
      refine lv_iload_n hx hb d_X_allHousesOpen_2 rfl (lv_at hl 0 rfl) ?_
      refine lv_iconst (v := 3) hx hb d_X_allHousesOpen_3 z_k3 ?_
      refine lv_icmp_ge (tgt := 27) hx hb d_X_allHousesOpen_4 rfl (fun h => absurd h (by decide)) (fun _ => ?_)
      refine lv_aload_n hx hb d_X_allHousesOpen_7 rfl (lv_at hl 1 rfl) ?_
      refine gf_X_11_0 hF hG d_X_allHousesOpen_8 ?_
      refine lv_iload_n hx hb d_X_allHousesOpen_11 rfl (lv_at hl 0 rfl) ?_
      refine z_aald (n := 3) (K := 3) (t0 := 3) (Cn := R_H) (j := 2) (v := ad 12 2) hF hG z_o1 (z_c1 C ad _ _ _) rfl z_q2 z_in2_3 rfl d_X_allHousesOpen_12 ?_
      refine gf_X_140_12 hF hG z_o12_2 (v := (S.1 12 2 0)) rfl d_X_allHousesOpen_13 ?_
      refine lv_if_ne (tgt := 21) hx hb d_X_allHousesOpen_16 rfl (fun h16_2 => ?_) (fun h16_2 => ?_)
      ·
        refine lv_iinc (k := 0) (v := 3) (lv' := [(1, .int 3), (0, .ref (ad 0 0))]) hx hb d_X_allHousesOpen_21 hl rfl (by decide) (Nat.le_of_ble_eq_true rfl) rfl (fun ls hl => ?_)
        refine lv_goto (tgt := 2) hx hb d_X_allHousesOpen_24 rfl ?_
        refine lv_iload_n hx hb d_X_allHousesOpen_2 rfl (lv_at hl 0 rfl) ?_
        refine lv_iconst (v := 3) hx hb d_X_allHousesOpen_3 z_k3 ?_
        refine lv_icmp_ge (tgt := 27) hx hb d_X_allHousesOpen_4 rfl (fun _ => ?_) (fun h => absurd h (by decide))
        refine lv_iconst (v := 1) hx hb d_X_allHousesOpen_27 z_k1 ?_
        exact z_zret hF hr hlk rfl hG (Eq.symm ((if_neg h16).trans ((if_neg h16_1).trans ((if_neg h16_2).trans rfl)))) rfl d_X_allHousesOpen_28
      ·
        refine lv_iconst (v := 0) hx hb d_X_allHousesOpen_19 z_k0 ?_
        exact z_zret hF hr hlk rfl hG (Eq.symm ((if_neg h16).trans ((if_neg h16_1).trans ((if_pos h16_2).trans rfl)))) rfl d_X_allHousesOpen_20
    ·
      refine lv_iconst (v := 0) hx hb d_X_allHousesOpen_19 z_k0 ?_
      exact z_zret hF hr hlk rfl hG (Eq.symm ((if_neg h16).trans ((if_pos h16_1).trans rfl))) rfl d_X_allHousesOpen_20
  ·
    refine lv_iconst (v := 0) hx hb d_X_allHousesOpen_19 z_k0 ?_
    exact z_zret hF hr hlk rfl hG (Eq.symm ((if_pos h16).trans rfl)) rfl d_X_allHousesOpen_20
def f_X_freePlace (S : z_S) : Option Nat := (if (S.1 14 0 0) = 0 then (some 0) else (if (S.1 14 1 0) = 0 then (some 1) else (if (S.1 14 2 0) = 0 then (some 2) else (if (S.1 14 3 0) = 0 then (some 3) else (if (S.1 14 4 0) = 0 then (some 4) else (if (S.1 14 5 0) = 0 then (some 5) else (none : Option Nat)))))))
set_option maxHeartbeats 4000000 in
set_option maxRecDepth 100000 in
theorem c_X_freePlace (l : Launch) (D : va_G) (C : Nat → ClassId) (ad : Nat → Nat → Nat) (hJ : z_J ad) (S : z_S)  : z_M l y_X_freePlace b_X_freePlace 2 (some (.object R_P)) rm_X_freePlace D C ad [.ref (ad 0 0)] S (z_Qq D C ad (f_X_freePlace S) S) := by
  refine z_enter (by decide) (Nat.le_of_ble_eq_true rfl) hJ ?_
  intro p e s m below meth c ls hF hr hlk hl hG
  obtain ⟨hx, hb, hml, hown, hts⟩ := hF.1
  have hl : lv_has ls 2 [(0, .ref (ad 0 0))] := hl
  refine lv_iconst (v := 0) hx hb d_X_freePlace_0 z_k0 ?_
  refine lv_istore_n (lv' := [(1, .int 0), (0, .ref (ad 0 0))]) hx hb d_X_freePlace_1 rfl hl (Nat.le_of_ble_eq_true rfl) rfl (fun ls hl => ?_)
  refine lv_iload_n hx hb d_X_freePlace_2 rfl (lv_at hl 0 rfl) ?_
  refine lv_bipush (v := 6) hx hb d_X_freePlace_3 z_bi6 ?_
  refine lv_icmp_ge (tgt := 33) hx hb d_X_freePlace_5 rfl (fun h => absurd h (by decide)) (fun _ => ?_)
  refine lv_aload_n hx hb d_X_freePlace_8 rfl (lv_at hl 1 rfl) ?_
  refine gf_X_28_0 hF hG d_X_freePlace_9 ?_
  refine lv_iload_n hx hb d_X_freePlace_12 rfl (lv_at hl 0 rfl) ?_
  refine z_aald (n := 6) (K := 4) (t0 := 4) (Cn := R_P) (j := 0) (v := ad 14 0) hF hG z_o8 (z_c8 C ad _ _ _) rfl z_q0 z_in0_6 rfl d_X_freePlace_13 ?_
  refine gf_X_155_14 hF hG z_o14_0 (v := (S.1 14 0 0)) rfl d_X_freePlace_14 ?_
  refine lv_if_ne (tgt := 27) hx hb d_X_freePlace_17 rfl (fun h17 => ?_) (fun h17 => ?_)
  ·
    refine lv_iinc (k := 0) (v := 1) (lv' := [(1, .int 1), (0, .ref (ad 0 0))]) hx hb d_X_freePlace_27 hl rfl (by decide) (Nat.le_of_ble_eq_true rfl) rfl (fun ls hl => ?_)
    refine lv_goto (tgt := 2) hx hb d_X_freePlace_30 rfl ?_
    refine lv_iload_n hx hb d_X_freePlace_2 rfl (lv_at hl 0 rfl) ?_
    refine lv_bipush (v := 6) hx hb d_X_freePlace_3 z_bi6 ?_
    refine lv_icmp_ge (tgt := 33) hx hb d_X_freePlace_5 rfl (fun h => absurd h (by decide)) (fun _ => ?_)
    refine lv_aload_n hx hb d_X_freePlace_8 rfl (lv_at hl 1 rfl) ?_
    refine gf_X_28_0 hF hG d_X_freePlace_9 ?_
    refine lv_iload_n hx hb d_X_freePlace_12 rfl (lv_at hl 0 rfl) ?_
    refine z_aald (n := 6) (K := 4) (t0 := 4) (Cn := R_P) (j := 1) (v := ad 14 1) hF hG z_o8 (z_c8 C ad _ _ _) rfl z_q1 z_in1_6 rfl d_X_freePlace_13 ?_
    refine gf_X_155_14 hF hG z_o14_1 (v := (S.1 14 1 0)) rfl d_X_freePlace_14 ?_
    refine lv_if_ne (tgt := 27) hx hb d_X_freePlace_17 rfl (fun h17_1 => ?_) (fun h17_1 => ?_)
    ·
      refine lv_iinc (k := 0) (v := 2) (lv' := [(1, .int 2), (0, .ref (ad 0 0))]) hx hb d_X_freePlace_27 hl rfl (by decide) (Nat.le_of_ble_eq_true rfl) rfl (fun ls hl => ?_)
      refine lv_goto (tgt := 2) hx hb d_X_freePlace_30 rfl ?_
      refine lv_iload_n hx hb d_X_freePlace_2 rfl (lv_at hl 0 rfl) ?_
      refine lv_bipush (v := 6) hx hb d_X_freePlace_3 z_bi6 ?_
      refine lv_icmp_ge (tgt := 33) hx hb d_X_freePlace_5 rfl (fun h => absurd h (by decide)) (fun _ => ?_)
      refine lv_aload_n hx hb d_X_freePlace_8 rfl (lv_at hl 1 rfl) ?_
      refine gf_X_28_0 hF hG d_X_freePlace_9 ?_
      refine lv_iload_n hx hb d_X_freePlace_12 rfl (lv_at hl 0 rfl) ?_
      refine z_aald (n := 6) (K := 4) (t0 := 4) (Cn := R_P) (j := 2) (v := ad 14 2) hF hG z_o8 (z_c8 C ad _ _ _) rfl z_q2 z_in2_6 rfl d_X_freePlace_13 ?_
      refine gf_X_155_14 hF hG z_o14_2 (v := (S.1 14 2 0)) rfl d_X_freePlace_14 ?_
      refine lv_if_ne (tgt := 27) hx hb d_X_freePlace_17 rfl (fun h17_2 => ?_) (fun h17_2 => ?_)
      ·
        refine lv_iinc (k := 0) (v := 3) (lv' := [(1, .int 3), (0, .ref (ad 0 0))]) hx hb d_X_freePlace_27 hl rfl (by decide) (Nat.le_of_ble_eq_true rfl) rfl (fun ls hl => ?_)
        refine lv_goto (tgt := 2) hx hb d_X_freePlace_30 rfl ?_
        refine lv_iload_n hx hb d_X_freePlace_2 rfl (lv_at hl 0 rfl) ?_
        refine lv_bipush (v := 6) hx hb d_X_freePlace_3 z_bi6 ?_
        refine lv_icmp_ge (tgt := 33) hx hb d_X_freePlace_5 rfl (fun h => absurd h (by decide)) (fun _ => ?_)
        refine lv_aload_n hx hb d_X_freePlace_8 rfl (lv_at hl 1 rfl) ?_
        refine gf_X_28_0 hF hG d_X_freePlace_9 ?_
        refine lv_iload_n hx hb d_X_freePlace_12 rfl (lv_at hl 0 rfl) ?_
        refine z_aald (n := 6) (K := 4) (t0 := 4) (Cn := R_P) (j := 3) (v := ad 14 3) hF hG z_o8 (z_c8 C ad _ _ _) rfl z_q3 z_in3_6 rfl d_X_freePlace_13 ?_
        refine gf_X_155_14 hF hG z_o14_3 (v := (S.1 14 3 0)) rfl d_X_freePlace_14 ?_
        refine lv_if_ne (tgt := 27) hx hb d_X_freePlace_17 rfl (fun h17_3 => ?_) (fun h17_3 => ?_)
        ·
          refine lv_iinc (k := 0) (v := 4) (lv' := [(1, .int 4), (0, .ref (ad 0 0))]) hx hb d_X_freePlace_27 hl rfl (by decide) (Nat.le_of_ble_eq_true rfl) rfl (fun ls hl => ?_)
          refine lv_goto (tgt := 2) hx hb d_X_freePlace_30 rfl ?_
          refine lv_iload_n hx hb d_X_freePlace_2 rfl (lv_at hl 0 rfl) ?_
          refine lv_bipush (v := 6) hx hb d_X_freePlace_3 z_bi6 ?_
          refine lv_icmp_ge (tgt := 33) hx hb d_X_freePlace_5 rfl (fun h => absurd h (by decide)) (fun _ => ?_)
          refine lv_aload_n hx hb d_X_freePlace_8 rfl (lv_at hl 1 rfl) ?_
          refine gf_X_28_0 hF hG d_X_freePlace_9 ?_
          refine lv_iload_n hx hb d_X_freePlace_12 rfl (lv_at hl 0 rfl) ?_
          refine z_aald (n := 6) (K := 4) (t0 := 4) (Cn := R_P) (j := 4) (v := ad 14 4) hF hG z_o8 (z_c8 C ad _ _ _) rfl z_q4 z_in4_6 rfl d_X_freePlace_13 ?_
          refine gf_X_155_14 hF hG z_o14_4 (v := (S.1 14 4 0)) rfl d_X_freePlace_14 ?_
          refine lv_if_ne (tgt := 27) hx hb d_X_freePlace_17 rfl (fun h17_4 => ?_) (fun h17_4 => ?_)
          ·
            refine lv_iinc (k := 0) (v := 5) (lv' := [(1, .int 5), (0, .ref (ad 0 0))]) hx hb d_X_freePlace_27 hl rfl (by decide) (Nat.le_of_ble_eq_true rfl) rfl (fun ls hl => ?_)
            refine lv_goto (tgt := 2) hx hb d_X_freePlace_30 rfl ?_
            refine lv_iload_n hx hb d_X_freePlace_2 rfl (lv_at hl 0 rfl) ?_
            refine lv_bipush (v := 6) hx hb d_X_freePlace_3 z_bi6 ?_
            refine lv_icmp_ge (tgt := 33) hx hb d_X_freePlace_5 rfl (fun h => absurd h (by decide)) (fun _ => ?_)
            refine lv_aload_n hx hb d_X_freePlace_8 rfl (lv_at hl 1 rfl) ?_
            refine gf_X_28_0 hF hG d_X_freePlace_9 ?_
            refine lv_iload_n hx hb d_X_freePlace_12 rfl (lv_at hl 0 rfl) ?_
            refine z_aald (n := 6) (K := 4) (t0 := 4) (Cn := R_P) (j := 5) (v := ad 14 5) hF hG z_o8 (z_c8 C ad _ _ _) rfl z_q5 z_in5_6 rfl d_X_freePlace_13 ?_
            refine gf_X_155_14 hF hG z_o14_5 (v := (S.1 14 5 0)) rfl d_X_freePlace_14 ?_
            refine lv_if_ne (tgt := 27) hx hb d_X_freePlace_17 rfl (fun h17_5 => ?_) (fun h17_5 => ?_)
            ·
              refine lv_iinc (k := 0) (v := 6) (lv' := [(1, .int 6), (0, .ref (ad 0 0))]) hx hb d_X_freePlace_27 hl rfl (by decide) (Nat.le_of_ble_eq_true rfl) rfl (fun ls hl => ?_)
              refine lv_goto (tgt := 2) hx hb d_X_freePlace_30 rfl ?_
              refine lv_iload_n hx hb d_X_freePlace_2 rfl (lv_at hl 0 rfl) ?_
              refine lv_bipush (v := 6) hx hb d_X_freePlace_3 z_bi6 ?_
              refine lv_icmp_ge (tgt := 33) hx hb d_X_freePlace_5 rfl (fun _ => ?_) (fun h => absurd h (by decide))
              refine lv_null hx hb d_X_freePlace_33 ?_
              exact z_qret hF hr hlk hG (congrArg (fun r : Option Nat => va_rf (r.map (ad 14))) (show (none : Option Nat) = f_X_freePlace S from (Eq.symm ((if_neg h17).trans ((if_neg h17_1).trans ((if_neg h17_2).trans ((if_neg h17_3).trans ((if_neg h17_4).trans ((if_neg h17_5).trans rfl))))))))) rfl d_X_freePlace_34
            ·
              refine lv_aload_n hx hb d_X_freePlace_20 rfl (lv_at hl 1 rfl) ?_
              refine gf_X_28_0 hF hG d_X_freePlace_21 ?_
              refine lv_iload_n hx hb d_X_freePlace_24 rfl (lv_at hl 0 rfl) ?_
              refine z_aald (n := 6) (K := 4) (t0 := 4) (Cn := R_P) (j := 5) (v := ad 14 5) hF hG z_o8 (z_c8 C ad _ _ _) rfl z_q5 z_in5_6 rfl d_X_freePlace_25 ?_
              exact z_qret hF hr hlk hG (congrArg (fun r : Option Nat => va_rf (r.map (ad 14))) (show (some 5 : Option Nat) = f_X_freePlace S from (Eq.symm ((if_neg h17).trans ((if_neg h17_1).trans ((if_neg h17_2).trans ((if_neg h17_3).trans ((if_neg h17_4).trans ((if_pos h17_5).trans rfl))))))))) rfl d_X_freePlace_26
          ·
            refine lv_aload_n hx hb d_X_freePlace_20 rfl (lv_at hl 1 rfl) ?_
            refine gf_X_28_0 hF hG d_X_freePlace_21 ?_
            refine lv_iload_n hx hb d_X_freePlace_24 rfl (lv_at hl 0 rfl) ?_
            refine z_aald (n := 6) (K := 4) (t0 := 4) (Cn := R_P) (j := 4) (v := ad 14 4) hF hG z_o8 (z_c8 C ad _ _ _) rfl z_q4 z_in4_6 rfl d_X_freePlace_25 ?_
            exact z_qret hF hr hlk hG (congrArg (fun r : Option Nat => va_rf (r.map (ad 14))) (show (some 4 : Option Nat) = f_X_freePlace S from (Eq.symm ((if_neg h17).trans ((if_neg h17_1).trans ((if_neg h17_2).trans ((if_neg h17_3).trans ((if_pos h17_4).trans rfl)))))))) rfl d_X_freePlace_26
        ·
          refine lv_aload_n hx hb d_X_freePlace_20 rfl (lv_at hl 1 rfl) ?_
          refine gf_X_28_0 hF hG d_X_freePlace_21 ?_
          refine lv_iload_n hx hb d_X_freePlace_24 rfl (lv_at hl 0 rfl) ?_
          refine z_aald (n := 6) (K := 4) (t0 := 4) (Cn := R_P) (j := 3) (v := ad 14 3) hF hG z_o8 (z_c8 C ad _ _ _) rfl z_q3 z_in3_6 rfl d_X_freePlace_25 ?_
          exact z_qret hF hr hlk hG (congrArg (fun r : Option Nat => va_rf (r.map (ad 14))) (show (some 3 : Option Nat) = f_X_freePlace S from (Eq.symm ((if_neg h17).trans ((if_neg h17_1).trans ((if_neg h17_2).trans ((if_pos h17_3).trans rfl))))))) rfl d_X_freePlace_26
      ·
        refine lv_aload_n hx hb d_X_freePlace_20 rfl (lv_at hl 1 rfl) ?_
        refine gf_X_28_0 hF hG d_X_freePlace_21 ?_
        refine lv_iload_n hx hb d_X_freePlace_24 rfl (lv_at hl 0 rfl) ?_
        refine z_aald (n := 6) (K := 4) (t0 := 4) (Cn := R_P) (j := 2) (v := ad 14 2) hF hG z_o8 (z_c8 C ad _ _ _) rfl z_q2 z_in2_6 rfl d_X_freePlace_25 ?_
        exact z_qret hF hr hlk hG (congrArg (fun r : Option Nat => va_rf (r.map (ad 14))) (show (some 2 : Option Nat) = f_X_freePlace S from (Eq.symm ((if_neg h17).trans ((if_neg h17_1).trans ((if_pos h17_2).trans rfl)))))) rfl d_X_freePlace_26
    ·
      refine lv_aload_n hx hb d_X_freePlace_20 rfl (lv_at hl 1 rfl) ?_
      refine gf_X_28_0 hF hG d_X_freePlace_21 ?_
      refine lv_iload_n hx hb d_X_freePlace_24 rfl (lv_at hl 0 rfl) ?_
      refine z_aald (n := 6) (K := 4) (t0 := 4) (Cn := R_P) (j := 1) (v := ad 14 1) hF hG z_o8 (z_c8 C ad _ _ _) rfl z_q1 z_in1_6 rfl d_X_freePlace_25 ?_
      exact z_qret hF hr hlk hG (congrArg (fun r : Option Nat => va_rf (r.map (ad 14))) (show (some 1 : Option Nat) = f_X_freePlace S from (Eq.symm ((if_neg h17).trans ((if_pos h17_1).trans rfl))))) rfl d_X_freePlace_26
  ·
    refine lv_aload_n hx hb d_X_freePlace_20 rfl (lv_at hl 1 rfl) ?_
    refine gf_X_28_0 hF hG d_X_freePlace_21 ?_
    refine lv_iload_n hx hb d_X_freePlace_24 rfl (lv_at hl 0 rfl) ?_
    refine z_aald (n := 6) (K := 4) (t0 := 4) (Cn := R_P) (j := 0) (v := ad 14 0) hF hG z_o8 (z_c8 C ad _ _ _) rfl z_q0 z_in0_6 rfl d_X_freePlace_25 ?_
    exact z_qret hF hr hlk hG (congrArg (fun r : Option Nat => va_rf (r.map (ad 14))) (show (some 0 : Option Nat) = f_X_freePlace S from (Eq.symm ((if_pos h17).trans rfl)))) rfl d_X_freePlace_26
def f_X_runningPoll (S : z_S) (x0 : Int32) : Option Nat := (if (f_X_isPoll S x0) = 0 then (none : Option Nat) else (if (S.1 14 0 0) = x0 then (some 0) else (if (S.1 14 1 0) = x0 then (some 1) else (if (S.1 14 2 0) = x0 then (some 2) else (if (S.1 14 3 0) = x0 then (some 3) else (if (S.1 14 4 0) = x0 then (some 4) else (if (S.1 14 5 0) = x0 then (some 5) else (none : Option Nat))))))))
set_option maxHeartbeats 4000000 in
set_option maxRecDepth 100000 in
theorem c_X_runningPoll (l : Launch) (D : va_G) (C : Nat → ClassId) (ad : Nat → Nat → Nat) (hJ : z_J ad) (S : z_S) (x0 : Int32)  : z_M l y_X_runningPoll b_X_runningPoll 3 (some (.object R_P)) rm_X_runningPoll D C ad [.ref (ad 0 0), .int x0] S (z_Qq D C ad (f_X_runningPoll S x0) S) := by
  refine z_enter (by decide) (Nat.le_of_ble_eq_true rfl) hJ ?_
  intro p e s m below meth c ls hF hr hlk hl hG
  obtain ⟨hx, hb, hml, hown, hts⟩ := hF.1
  have hl : lv_has ls 3 [(0, .ref (ad 0 0)), (1, .int x0)] := hl
  refine lv_aload_n hx hb d_X_runningPoll_0 rfl (lv_at hl 0 rfl) ?_
  refine lv_iload_n hx hb d_X_runningPoll_1 rfl (lv_at hl 1 rfl) ?_
  refine kc_X_99 hF (c_X_isPoll l D C ad hF.2.2 _ _ ) hG ⟨Nat.le_of_ble_eq_true rfl, Nat.le_of_ble_eq_true rfl⟩ ⟨Nat.zero_le _, Nat.zero_le _⟩ hl.1 (Nat.le_of_ble_eq_true rfl) d_X_runningPoll_2 (fun H locs hG => ?_)
  refine lv_if_ne (tgt := 10) hx hb d_X_runningPoll_5 rfl (fun h5 => ?_) (fun h5 => ?_)
  ·
    refine lv_iconst (v := 0) hx hb d_X_runningPoll_10 z_k0 ?_
    refine lv_istore_n (lv' := [(2, .int 0), (0, .ref (ad 0 0)), (1, .int x0)]) hx hb d_X_runningPoll_11 rfl hl (Nat.le_of_ble_eq_true rfl) rfl (fun ls hl => ?_)
    refine lv_iload_n hx hb d_X_runningPoll_12 rfl (lv_at hl 0 rfl) ?_
    refine lv_bipush (v := 6) hx hb d_X_runningPoll_13 z_bi6 ?_
    refine lv_icmp_ge (tgt := 44) hx hb d_X_runningPoll_15 rfl (fun h => absurd h (by decide)) (fun _ => ?_)
    refine lv_aload_n hx hb d_X_runningPoll_18 rfl (lv_at hl 1 rfl) ?_
    refine gf_X_28_0 hF hG d_X_runningPoll_19 ?_
    refine lv_iload_n hx hb d_X_runningPoll_22 rfl (lv_at hl 0 rfl) ?_
    refine z_aald (n := 6) (K := 4) (t0 := 4) (Cn := R_P) (j := 0) (v := ad 14 0) hF hG z_o8 (z_c8 C ad _ _ _) rfl z_q0 z_in0_6 rfl d_X_runningPoll_23 ?_
    refine gf_X_155_14 hF hG z_o14_0 (v := (S.1 14 0 0)) rfl d_X_runningPoll_24 ?_
    refine lv_iload_n hx hb d_X_runningPoll_27 rfl (lv_at hl 2 rfl) ?_
    refine lv_icmp_ne (tgt := 38) hx hb d_X_runningPoll_28 rfl (fun h28 => ?_) (fun h28 => ?_)
    ·
      refine lv_iinc (k := 0) (v := 1) (lv' := [(2, .int 1), (0, .ref (ad 0 0)), (1, .int x0)]) hx hb d_X_runningPoll_38 hl rfl (by decide) (Nat.le_of_ble_eq_true rfl) rfl (fun ls hl => ?_)
      refine lv_goto (tgt := 12) hx hb d_X_runningPoll_41 rfl ?_
      refine lv_iload_n hx hb d_X_runningPoll_12 rfl (lv_at hl 0 rfl) ?_
      refine lv_bipush (v := 6) hx hb d_X_runningPoll_13 z_bi6 ?_
      refine lv_icmp_ge (tgt := 44) hx hb d_X_runningPoll_15 rfl (fun h => absurd h (by decide)) (fun _ => ?_)
      refine lv_aload_n hx hb d_X_runningPoll_18 rfl (lv_at hl 1 rfl) ?_
      refine gf_X_28_0 hF hG d_X_runningPoll_19 ?_
      refine lv_iload_n hx hb d_X_runningPoll_22 rfl (lv_at hl 0 rfl) ?_
      refine z_aald (n := 6) (K := 4) (t0 := 4) (Cn := R_P) (j := 1) (v := ad 14 1) hF hG z_o8 (z_c8 C ad _ _ _) rfl z_q1 z_in1_6 rfl d_X_runningPoll_23 ?_
      refine gf_X_155_14 hF hG z_o14_1 (v := (S.1 14 1 0)) rfl d_X_runningPoll_24 ?_
      refine lv_iload_n hx hb d_X_runningPoll_27 rfl (lv_at hl 2 rfl) ?_
      refine lv_icmp_ne (tgt := 38) hx hb d_X_runningPoll_28 rfl (fun h28_1 => ?_) (fun h28_1 => ?_)
      ·
        refine lv_iinc (k := 0) (v := 2) (lv' := [(2, .int 2), (0, .ref (ad 0 0)), (1, .int x0)]) hx hb d_X_runningPoll_38 hl rfl (by decide) (Nat.le_of_ble_eq_true rfl) rfl (fun ls hl => ?_)
        refine lv_goto (tgt := 12) hx hb d_X_runningPoll_41 rfl ?_
        refine lv_iload_n hx hb d_X_runningPoll_12 rfl (lv_at hl 0 rfl) ?_
        refine lv_bipush (v := 6) hx hb d_X_runningPoll_13 z_bi6 ?_
        refine lv_icmp_ge (tgt := 44) hx hb d_X_runningPoll_15 rfl (fun h => absurd h (by decide)) (fun _ => ?_)
        refine lv_aload_n hx hb d_X_runningPoll_18 rfl (lv_at hl 1 rfl) ?_
        refine gf_X_28_0 hF hG d_X_runningPoll_19 ?_
        refine lv_iload_n hx hb d_X_runningPoll_22 rfl (lv_at hl 0 rfl) ?_
        refine z_aald (n := 6) (K := 4) (t0 := 4) (Cn := R_P) (j := 2) (v := ad 14 2) hF hG z_o8 (z_c8 C ad _ _ _) rfl z_q2 z_in2_6 rfl d_X_runningPoll_23 ?_
        refine gf_X_155_14 hF hG z_o14_2 (v := (S.1 14 2 0)) rfl d_X_runningPoll_24 ?_
        refine lv_iload_n hx hb d_X_runningPoll_27 rfl (lv_at hl 2 rfl) ?_
        refine lv_icmp_ne (tgt := 38) hx hb d_X_runningPoll_28 rfl (fun h28_2 => ?_) (fun h28_2 => ?_)
        ·
          refine lv_iinc (k := 0) (v := 3) (lv' := [(2, .int 3), (0, .ref (ad 0 0)), (1, .int x0)]) hx hb d_X_runningPoll_38 hl rfl (by decide) (Nat.le_of_ble_eq_true rfl) rfl (fun ls hl => ?_)
          refine lv_goto (tgt := 12) hx hb d_X_runningPoll_41 rfl ?_
          refine lv_iload_n hx hb d_X_runningPoll_12 rfl (lv_at hl 0 rfl) ?_
          refine lv_bipush (v := 6) hx hb d_X_runningPoll_13 z_bi6 ?_
          refine lv_icmp_ge (tgt := 44) hx hb d_X_runningPoll_15 rfl (fun h => absurd h (by decide)) (fun _ => ?_)
          refine lv_aload_n hx hb d_X_runningPoll_18 rfl (lv_at hl 1 rfl) ?_
          refine gf_X_28_0 hF hG d_X_runningPoll_19 ?_
          refine lv_iload_n hx hb d_X_runningPoll_22 rfl (lv_at hl 0 rfl) ?_
          refine z_aald (n := 6) (K := 4) (t0 := 4) (Cn := R_P) (j := 3) (v := ad 14 3) hF hG z_o8 (z_c8 C ad _ _ _) rfl z_q3 z_in3_6 rfl d_X_runningPoll_23 ?_
          refine gf_X_155_14 hF hG z_o14_3 (v := (S.1 14 3 0)) rfl d_X_runningPoll_24 ?_
          refine lv_iload_n hx hb d_X_runningPoll_27 rfl (lv_at hl 2 rfl) ?_
          refine lv_icmp_ne (tgt := 38) hx hb d_X_runningPoll_28 rfl (fun h28_3 => ?_) (fun h28_3 => ?_)
          ·
            refine lv_iinc (k := 0) (v := 4) (lv' := [(2, .int 4), (0, .ref (ad 0 0)), (1, .int x0)]) hx hb d_X_runningPoll_38 hl rfl (by decide) (Nat.le_of_ble_eq_true rfl) rfl (fun ls hl => ?_)
            refine lv_goto (tgt := 12) hx hb d_X_runningPoll_41 rfl ?_
            refine lv_iload_n hx hb d_X_runningPoll_12 rfl (lv_at hl 0 rfl) ?_
            refine lv_bipush (v := 6) hx hb d_X_runningPoll_13 z_bi6 ?_
            refine lv_icmp_ge (tgt := 44) hx hb d_X_runningPoll_15 rfl (fun h => absurd h (by decide)) (fun _ => ?_)
            refine lv_aload_n hx hb d_X_runningPoll_18 rfl (lv_at hl 1 rfl) ?_
            refine gf_X_28_0 hF hG d_X_runningPoll_19 ?_
            refine lv_iload_n hx hb d_X_runningPoll_22 rfl (lv_at hl 0 rfl) ?_
            refine z_aald (n := 6) (K := 4) (t0 := 4) (Cn := R_P) (j := 4) (v := ad 14 4) hF hG z_o8 (z_c8 C ad _ _ _) rfl z_q4 z_in4_6 rfl d_X_runningPoll_23 ?_
            refine gf_X_155_14 hF hG z_o14_4 (v := (S.1 14 4 0)) rfl d_X_runningPoll_24 ?_
            refine lv_iload_n hx hb d_X_runningPoll_27 rfl (lv_at hl 2 rfl) ?_
            refine lv_icmp_ne (tgt := 38) hx hb d_X_runningPoll_28 rfl (fun h28_4 => ?_) (fun h28_4 => ?_)
            ·
              refine lv_iinc (k := 0) (v := 5) (lv' := [(2, .int 5), (0, .ref (ad 0 0)), (1, .int x0)]) hx hb d_X_runningPoll_38 hl rfl (by decide) (Nat.le_of_ble_eq_true rfl) rfl (fun ls hl => ?_)
              refine lv_goto (tgt := 12) hx hb d_X_runningPoll_41 rfl ?_
              refine lv_iload_n hx hb d_X_runningPoll_12 rfl (lv_at hl 0 rfl) ?_
              refine lv_bipush (v := 6) hx hb d_X_runningPoll_13 z_bi6 ?_
              refine lv_icmp_ge (tgt := 44) hx hb d_X_runningPoll_15 rfl (fun h => absurd h (by decide)) (fun _ => ?_)
              refine lv_aload_n hx hb d_X_runningPoll_18 rfl (lv_at hl 1 rfl) ?_
              refine gf_X_28_0 hF hG d_X_runningPoll_19 ?_
              refine lv_iload_n hx hb d_X_runningPoll_22 rfl (lv_at hl 0 rfl) ?_
              refine z_aald (n := 6) (K := 4) (t0 := 4) (Cn := R_P) (j := 5) (v := ad 14 5) hF hG z_o8 (z_c8 C ad _ _ _) rfl z_q5 z_in5_6 rfl d_X_runningPoll_23 ?_
              refine gf_X_155_14 hF hG z_o14_5 (v := (S.1 14 5 0)) rfl d_X_runningPoll_24 ?_
              refine lv_iload_n hx hb d_X_runningPoll_27 rfl (lv_at hl 2 rfl) ?_
              refine lv_icmp_ne (tgt := 38) hx hb d_X_runningPoll_28 rfl (fun h28_5 => ?_) (fun h28_5 => ?_)
              ·
                refine lv_iinc (k := 0) (v := 6) (lv' := [(2, .int 6), (0, .ref (ad 0 0)), (1, .int x0)]) hx hb d_X_runningPoll_38 hl rfl (by decide) (Nat.le_of_ble_eq_true rfl) rfl (fun ls hl => ?_)
                refine lv_goto (tgt := 12) hx hb d_X_runningPoll_41 rfl ?_
                refine lv_iload_n hx hb d_X_runningPoll_12 rfl (lv_at hl 0 rfl) ?_
                refine lv_bipush (v := 6) hx hb d_X_runningPoll_13 z_bi6 ?_
                refine lv_icmp_ge (tgt := 44) hx hb d_X_runningPoll_15 rfl (fun _ => ?_) (fun h => absurd h (by decide))
                refine lv_null hx hb d_X_runningPoll_44 ?_
                exact z_qret hF hr hlk hG (congrArg (fun r : Option Nat => va_rf (r.map (ad 14))) (show (none : Option Nat) = f_X_runningPoll S x0 from (Eq.symm ((if_neg h5).trans ((if_neg h28).trans ((if_neg h28_1).trans ((if_neg h28_2).trans ((if_neg h28_3).trans ((if_neg h28_4).trans ((if_neg h28_5).trans rfl)))))))))) rfl d_X_runningPoll_45
              ·
                refine lv_aload_n hx hb d_X_runningPoll_31 rfl (lv_at hl 1 rfl) ?_
                refine gf_X_28_0 hF hG d_X_runningPoll_32 ?_
                refine lv_iload_n hx hb d_X_runningPoll_35 rfl (lv_at hl 0 rfl) ?_
                refine z_aald (n := 6) (K := 4) (t0 := 4) (Cn := R_P) (j := 5) (v := ad 14 5) hF hG z_o8 (z_c8 C ad _ _ _) rfl z_q5 z_in5_6 rfl d_X_runningPoll_36 ?_
                exact z_qret hF hr hlk hG (congrArg (fun r : Option Nat => va_rf (r.map (ad 14))) (show (some 5 : Option Nat) = f_X_runningPoll S x0 from (Eq.symm ((if_neg h5).trans ((if_neg h28).trans ((if_neg h28_1).trans ((if_neg h28_2).trans ((if_neg h28_3).trans ((if_neg h28_4).trans ((if_pos h28_5).trans rfl)))))))))) rfl d_X_runningPoll_37
            ·
              refine lv_aload_n hx hb d_X_runningPoll_31 rfl (lv_at hl 1 rfl) ?_
              refine gf_X_28_0 hF hG d_X_runningPoll_32 ?_
              refine lv_iload_n hx hb d_X_runningPoll_35 rfl (lv_at hl 0 rfl) ?_
              refine z_aald (n := 6) (K := 4) (t0 := 4) (Cn := R_P) (j := 4) (v := ad 14 4) hF hG z_o8 (z_c8 C ad _ _ _) rfl z_q4 z_in4_6 rfl d_X_runningPoll_36 ?_
              exact z_qret hF hr hlk hG (congrArg (fun r : Option Nat => va_rf (r.map (ad 14))) (show (some 4 : Option Nat) = f_X_runningPoll S x0 from (Eq.symm ((if_neg h5).trans ((if_neg h28).trans ((if_neg h28_1).trans ((if_neg h28_2).trans ((if_neg h28_3).trans ((if_pos h28_4).trans rfl))))))))) rfl d_X_runningPoll_37
          ·
            refine lv_aload_n hx hb d_X_runningPoll_31 rfl (lv_at hl 1 rfl) ?_
            refine gf_X_28_0 hF hG d_X_runningPoll_32 ?_
            refine lv_iload_n hx hb d_X_runningPoll_35 rfl (lv_at hl 0 rfl) ?_
            refine z_aald (n := 6) (K := 4) (t0 := 4) (Cn := R_P) (j := 3) (v := ad 14 3) hF hG z_o8 (z_c8 C ad _ _ _) rfl z_q3 z_in3_6 rfl d_X_runningPoll_36 ?_
            exact z_qret hF hr hlk hG (congrArg (fun r : Option Nat => va_rf (r.map (ad 14))) (show (some 3 : Option Nat) = f_X_runningPoll S x0 from (Eq.symm ((if_neg h5).trans ((if_neg h28).trans ((if_neg h28_1).trans ((if_neg h28_2).trans ((if_pos h28_3).trans rfl)))))))) rfl d_X_runningPoll_37
        ·
          refine lv_aload_n hx hb d_X_runningPoll_31 rfl (lv_at hl 1 rfl) ?_
          refine gf_X_28_0 hF hG d_X_runningPoll_32 ?_
          refine lv_iload_n hx hb d_X_runningPoll_35 rfl (lv_at hl 0 rfl) ?_
          refine z_aald (n := 6) (K := 4) (t0 := 4) (Cn := R_P) (j := 2) (v := ad 14 2) hF hG z_o8 (z_c8 C ad _ _ _) rfl z_q2 z_in2_6 rfl d_X_runningPoll_36 ?_
          exact z_qret hF hr hlk hG (congrArg (fun r : Option Nat => va_rf (r.map (ad 14))) (show (some 2 : Option Nat) = f_X_runningPoll S x0 from (Eq.symm ((if_neg h5).trans ((if_neg h28).trans ((if_neg h28_1).trans ((if_pos h28_2).trans rfl))))))) rfl d_X_runningPoll_37
      ·
        refine lv_aload_n hx hb d_X_runningPoll_31 rfl (lv_at hl 1 rfl) ?_
        refine gf_X_28_0 hF hG d_X_runningPoll_32 ?_
        refine lv_iload_n hx hb d_X_runningPoll_35 rfl (lv_at hl 0 rfl) ?_
        refine z_aald (n := 6) (K := 4) (t0 := 4) (Cn := R_P) (j := 1) (v := ad 14 1) hF hG z_o8 (z_c8 C ad _ _ _) rfl z_q1 z_in1_6 rfl d_X_runningPoll_36 ?_
        exact z_qret hF hr hlk hG (congrArg (fun r : Option Nat => va_rf (r.map (ad 14))) (show (some 1 : Option Nat) = f_X_runningPoll S x0 from (Eq.symm ((if_neg h5).trans ((if_neg h28).trans ((if_pos h28_1).trans rfl)))))) rfl d_X_runningPoll_37
    ·
      refine lv_aload_n hx hb d_X_runningPoll_31 rfl (lv_at hl 1 rfl) ?_
      refine gf_X_28_0 hF hG d_X_runningPoll_32 ?_
      refine lv_iload_n hx hb d_X_runningPoll_35 rfl (lv_at hl 0 rfl) ?_
      refine z_aald (n := 6) (K := 4) (t0 := 4) (Cn := R_P) (j := 0) (v := ad 14 0) hF hG z_o8 (z_c8 C ad _ _ _) rfl z_q0 z_in0_6 rfl d_X_runningPoll_36 ?_
      exact z_qret hF hr hlk hG (congrArg (fun r : Option Nat => va_rf (r.map (ad 14))) (show (some 0 : Option Nat) = f_X_runningPoll S x0 from (Eq.symm ((if_neg h5).trans ((if_pos h28).trans rfl))))) rfl d_X_runningPoll_37
  ·
    refine lv_null hx hb d_X_runningPoll_8 ?_
    exact z_qret hF hr hlk hG (congrArg (fun r : Option Nat => va_rf (r.map (ad 14))) (show (none : Option Nat) = f_X_runningPoll S x0 from (Eq.symm ((if_pos h5).trans rfl)))) rfl d_X_runningPoll_9
def f_X_parts (S : z_S) : Int32 := ((((((0 + (if 8 < (S.1 2 0 0) then 8 else (S.1 2 0 0))) + (if 8 < (S.1 2 0 1) then 8 else (S.1 2 0 1))) + (if 8 < (S.1 2 0 2) then 8 else (S.1 2 0 2))) + (if 8 < (S.1 2 0 3) then 8 else (S.1 2 0 3))) + (if 8 < (S.1 2 0 4) then 8 else (S.1 2 0 4))) + (if 8 < (S.1 2 0 5) then 8 else (S.1 2 0 5)))
set_option maxHeartbeats 4000000 in
set_option maxRecDepth 100000 in
theorem c_X_parts (l : Launch) (D : va_G) (C : Nat → ClassId) (ad : Nat → Nat → Nat) (hJ : z_J ad) (S : z_S)  : z_M l y_X_parts b_X_parts 3 (some .int) rm_X_parts D C ad [.ref (ad 0 0)] S (z_Qi D C ad (f_X_parts S) S) := by
  refine z_enter (by decide) (Nat.le_of_ble_eq_true rfl) hJ ?_
  intro p e s m below meth c ls hF hr hlk hl hG
  obtain ⟨hx, hb, hml, hown, hts⟩ := hF.1
  have hl : lv_has ls 3 [(0, .ref (ad 0 0))] := hl
  refine lv_iconst (v := 0) hx hb d_X_parts_0 z_k0 ?_
  refine lv_istore_n (lv' := [(1, .int 0), (0, .ref (ad 0 0))]) hx hb d_X_parts_1 rfl hl (Nat.le_of_ble_eq_true rfl) rfl (fun ls hl => ?_)
  refine lv_iconst (v := 0) hx hb d_X_parts_2 z_k0 ?_
  refine lv_istore_n (lv' := [(2, .int 0), (1, .int 0), (0, .ref (ad 0 0))]) hx hb d_X_parts_3 rfl hl (Nat.le_of_ble_eq_true rfl) rfl (fun ls hl => ?_)
  refine lv_iload_n hx hb d_X_parts_4 rfl (lv_at hl 0 rfl) ?_
  refine lv_bipush (v := 6) hx hb d_X_parts_5 z_bi6 ?_
  refine lv_icmp_ge (tgt := 30) hx hb d_X_parts_7 rfl (fun h => absurd h (by decide)) (fun _ => ?_)
  refine lv_iload_n hx hb d_X_parts_10 rfl (lv_at hl 1 rfl) ?_
  refine lv_aload_n hx hb d_X_parts_11 rfl (lv_at hl 2 rfl) ?_
  refine gf_X_15_0 hF hG d_X_parts_12 ?_
  refine lv_iload_n hx hb d_X_parts_15 rfl (lv_at hl 0 rfl) ?_
  refine z_iald (n := 6) (j := 0) (v := (S.1 2 0 0)) hF hG z_o2 (z_c2 C ad _ _ _) z_q0 z_in0_6 rfl d_X_parts_16 ?_
  refine lv_bipush (v := 8) hx hb d_X_parts_17 z_bi8 ?_
  refine va_mmin hx hb (hml.trans hl.1.symm) hown (hts _ wm_X_147) (hts _ wi_Math_min) (hts _ wn_Math) (hts _ wc_Math_min) (Nat.le_of_ble_eq_true rfl) (Nat.le_of_ble_eq_true rfl) (Nat.zero_le _) (Nat.zero_le _) d_X_parts_19 ?_
  refine lv_iadd hx hb d_X_parts_22 ?_
  refine lv_istore_n (lv' := [(1, .int (0 + (if 8 < (S.1 2 0 0) then 8 else (S.1 2 0 0)))), (2, .int 0), (0, .ref (ad 0 0))]) hx hb d_X_parts_23 rfl hl (Nat.le_of_ble_eq_true rfl) rfl (fun ls hl => ?_)
  refine lv_iinc (k := 1) (v := 1) (lv' := [(2, .int 1), (1, .int (0 + (if 8 < (S.1 2 0 0) then 8 else (S.1 2 0 0)))), (0, .ref (ad 0 0))]) hx hb d_X_parts_24 hl rfl (by decide) (Nat.le_of_ble_eq_true rfl) rfl (fun ls hl => ?_)
  refine lv_goto (tgt := 4) hx hb d_X_parts_27 rfl ?_
  refine lv_iload_n hx hb d_X_parts_4 rfl (lv_at hl 0 rfl) ?_
  refine lv_bipush (v := 6) hx hb d_X_parts_5 z_bi6 ?_
  refine lv_icmp_ge (tgt := 30) hx hb d_X_parts_7 rfl (fun h => absurd h (by decide)) (fun _ => ?_)
  refine lv_iload_n hx hb d_X_parts_10 rfl (lv_at hl 1 rfl) ?_
  refine lv_aload_n hx hb d_X_parts_11 rfl (lv_at hl 2 rfl) ?_
  refine gf_X_15_0 hF hG d_X_parts_12 ?_
  refine lv_iload_n hx hb d_X_parts_15 rfl (lv_at hl 0 rfl) ?_
  refine z_iald (n := 6) (j := 1) (v := (S.1 2 0 1)) hF hG z_o2 (z_c2 C ad _ _ _) z_q1 z_in1_6 rfl d_X_parts_16 ?_
  refine lv_bipush (v := 8) hx hb d_X_parts_17 z_bi8 ?_
  refine va_mmin hx hb (hml.trans hl.1.symm) hown (hts _ wm_X_147) (hts _ wi_Math_min) (hts _ wn_Math) (hts _ wc_Math_min) (Nat.le_of_ble_eq_true rfl) (Nat.le_of_ble_eq_true rfl) (Nat.zero_le _) (Nat.zero_le _) d_X_parts_19 ?_
  refine lv_iadd hx hb d_X_parts_22 ?_
  refine lv_istore_n (lv' := [(1, .int ((0 + (if 8 < (S.1 2 0 0) then 8 else (S.1 2 0 0))) + (if 8 < (S.1 2 0 1) then 8 else (S.1 2 0 1)))), (2, .int 1), (0, .ref (ad 0 0))]) hx hb d_X_parts_23 rfl hl (Nat.le_of_ble_eq_true rfl) rfl (fun ls hl => ?_)
  refine lv_iinc (k := 1) (v := 2) (lv' := [(2, .int 2), (1, .int ((0 + (if 8 < (S.1 2 0 0) then 8 else (S.1 2 0 0))) + (if 8 < (S.1 2 0 1) then 8 else (S.1 2 0 1)))), (0, .ref (ad 0 0))]) hx hb d_X_parts_24 hl rfl (by decide) (Nat.le_of_ble_eq_true rfl) rfl (fun ls hl => ?_)
  refine lv_goto (tgt := 4) hx hb d_X_parts_27 rfl ?_
  refine lv_iload_n hx hb d_X_parts_4 rfl (lv_at hl 0 rfl) ?_
  refine lv_bipush (v := 6) hx hb d_X_parts_5 z_bi6 ?_
  refine lv_icmp_ge (tgt := 30) hx hb d_X_parts_7 rfl (fun h => absurd h (by decide)) (fun _ => ?_)
  refine lv_iload_n hx hb d_X_parts_10 rfl (lv_at hl 1 rfl) ?_
  refine lv_aload_n hx hb d_X_parts_11 rfl (lv_at hl 2 rfl) ?_
  refine gf_X_15_0 hF hG d_X_parts_12 ?_
  refine lv_iload_n hx hb d_X_parts_15 rfl (lv_at hl 0 rfl) ?_
  refine z_iald (n := 6) (j := 2) (v := (S.1 2 0 2)) hF hG z_o2 (z_c2 C ad _ _ _) z_q2 z_in2_6 rfl d_X_parts_16 ?_
  refine lv_bipush (v := 8) hx hb d_X_parts_17 z_bi8 ?_
  refine va_mmin hx hb (hml.trans hl.1.symm) hown (hts _ wm_X_147) (hts _ wi_Math_min) (hts _ wn_Math) (hts _ wc_Math_min) (Nat.le_of_ble_eq_true rfl) (Nat.le_of_ble_eq_true rfl) (Nat.zero_le _) (Nat.zero_le _) d_X_parts_19 ?_
  refine lv_iadd hx hb d_X_parts_22 ?_
  refine lv_istore_n (lv' := [(1, .int (((0 + (if 8 < (S.1 2 0 0) then 8 else (S.1 2 0 0))) + (if 8 < (S.1 2 0 1) then 8 else (S.1 2 0 1))) + (if 8 < (S.1 2 0 2) then 8 else (S.1 2 0 2)))), (2, .int 2), (0, .ref (ad 0 0))]) hx hb d_X_parts_23 rfl hl (Nat.le_of_ble_eq_true rfl) rfl (fun ls hl => ?_)
  refine lv_iinc (k := 1) (v := 3) (lv' := [(2, .int 3), (1, .int (((0 + (if 8 < (S.1 2 0 0) then 8 else (S.1 2 0 0))) + (if 8 < (S.1 2 0 1) then 8 else (S.1 2 0 1))) + (if 8 < (S.1 2 0 2) then 8 else (S.1 2 0 2)))), (0, .ref (ad 0 0))]) hx hb d_X_parts_24 hl rfl (by decide) (Nat.le_of_ble_eq_true rfl) rfl (fun ls hl => ?_)
  refine lv_goto (tgt := 4) hx hb d_X_parts_27 rfl ?_
  refine lv_iload_n hx hb d_X_parts_4 rfl (lv_at hl 0 rfl) ?_
  refine lv_bipush (v := 6) hx hb d_X_parts_5 z_bi6 ?_
  refine lv_icmp_ge (tgt := 30) hx hb d_X_parts_7 rfl (fun h => absurd h (by decide)) (fun _ => ?_)
  refine lv_iload_n hx hb d_X_parts_10 rfl (lv_at hl 1 rfl) ?_
  refine lv_aload_n hx hb d_X_parts_11 rfl (lv_at hl 2 rfl) ?_
  refine gf_X_15_0 hF hG d_X_parts_12 ?_
  refine lv_iload_n hx hb d_X_parts_15 rfl (lv_at hl 0 rfl) ?_
  refine z_iald (n := 6) (j := 3) (v := (S.1 2 0 3)) hF hG z_o2 (z_c2 C ad _ _ _) z_q3 z_in3_6 rfl d_X_parts_16 ?_
  refine lv_bipush (v := 8) hx hb d_X_parts_17 z_bi8 ?_
  refine va_mmin hx hb (hml.trans hl.1.symm) hown (hts _ wm_X_147) (hts _ wi_Math_min) (hts _ wn_Math) (hts _ wc_Math_min) (Nat.le_of_ble_eq_true rfl) (Nat.le_of_ble_eq_true rfl) (Nat.zero_le _) (Nat.zero_le _) d_X_parts_19 ?_
  refine lv_iadd hx hb d_X_parts_22 ?_
  refine lv_istore_n (lv' := [(1, .int ((((0 + (if 8 < (S.1 2 0 0) then 8 else (S.1 2 0 0))) + (if 8 < (S.1 2 0 1) then 8 else (S.1 2 0 1))) + (if 8 < (S.1 2 0 2) then 8 else (S.1 2 0 2))) + (if 8 < (S.1 2 0 3) then 8 else (S.1 2 0 3)))), (2, .int 3), (0, .ref (ad 0 0))]) hx hb d_X_parts_23 rfl hl (Nat.le_of_ble_eq_true rfl) rfl (fun ls hl => ?_)
  refine lv_iinc (k := 1) (v := 4) (lv' := [(2, .int 4), (1, .int ((((0 + (if 8 < (S.1 2 0 0) then 8 else (S.1 2 0 0))) + (if 8 < (S.1 2 0 1) then 8 else (S.1 2 0 1))) + (if 8 < (S.1 2 0 2) then 8 else (S.1 2 0 2))) + (if 8 < (S.1 2 0 3) then 8 else (S.1 2 0 3)))), (0, .ref (ad 0 0))]) hx hb d_X_parts_24 hl rfl (by decide) (Nat.le_of_ble_eq_true rfl) rfl (fun ls hl => ?_)
  refine lv_goto (tgt := 4) hx hb d_X_parts_27 rfl ?_
  refine lv_iload_n hx hb d_X_parts_4 rfl (lv_at hl 0 rfl) ?_
  refine lv_bipush (v := 6) hx hb d_X_parts_5 z_bi6 ?_
  refine lv_icmp_ge (tgt := 30) hx hb d_X_parts_7 rfl (fun h => absurd h (by decide)) (fun _ => ?_)
  refine lv_iload_n hx hb d_X_parts_10 rfl (lv_at hl 1 rfl) ?_
  refine lv_aload_n hx hb d_X_parts_11 rfl (lv_at hl 2 rfl) ?_
  refine gf_X_15_0 hF hG d_X_parts_12 ?_
  refine lv_iload_n hx hb d_X_parts_15 rfl (lv_at hl 0 rfl) ?_
  refine z_iald (n := 6) (j := 4) (v := (S.1 2 0 4)) hF hG z_o2 (z_c2 C ad _ _ _) z_q4 z_in4_6 rfl d_X_parts_16 ?_
  refine lv_bipush (v := 8) hx hb d_X_parts_17 z_bi8 ?_
  refine va_mmin hx hb (hml.trans hl.1.symm) hown (hts _ wm_X_147) (hts _ wi_Math_min) (hts _ wn_Math) (hts _ wc_Math_min) (Nat.le_of_ble_eq_true rfl) (Nat.le_of_ble_eq_true rfl) (Nat.zero_le _) (Nat.zero_le _) d_X_parts_19 ?_
  refine lv_iadd hx hb d_X_parts_22 ?_
  refine lv_istore_n (lv' := [(1, .int (((((0 + (if 8 < (S.1 2 0 0) then 8 else (S.1 2 0 0))) + (if 8 < (S.1 2 0 1) then 8 else (S.1 2 0 1))) + (if 8 < (S.1 2 0 2) then 8 else (S.1 2 0 2))) + (if 8 < (S.1 2 0 3) then 8 else (S.1 2 0 3))) + (if 8 < (S.1 2 0 4) then 8 else (S.1 2 0 4)))), (2, .int 4), (0, .ref (ad 0 0))]) hx hb d_X_parts_23 rfl hl (Nat.le_of_ble_eq_true rfl) rfl (fun ls hl => ?_)
  refine lv_iinc (k := 1) (v := 5) (lv' := [(2, .int 5), (1, .int (((((0 + (if 8 < (S.1 2 0 0) then 8 else (S.1 2 0 0))) + (if 8 < (S.1 2 0 1) then 8 else (S.1 2 0 1))) + (if 8 < (S.1 2 0 2) then 8 else (S.1 2 0 2))) + (if 8 < (S.1 2 0 3) then 8 else (S.1 2 0 3))) + (if 8 < (S.1 2 0 4) then 8 else (S.1 2 0 4)))), (0, .ref (ad 0 0))]) hx hb d_X_parts_24 hl rfl (by decide) (Nat.le_of_ble_eq_true rfl) rfl (fun ls hl => ?_)
  refine lv_goto (tgt := 4) hx hb d_X_parts_27 rfl ?_
  refine lv_iload_n hx hb d_X_parts_4 rfl (lv_at hl 0 rfl) ?_
  refine lv_bipush (v := 6) hx hb d_X_parts_5 z_bi6 ?_
  refine lv_icmp_ge (tgt := 30) hx hb d_X_parts_7 rfl (fun h => absurd h (by decide)) (fun _ => ?_)
  refine lv_iload_n hx hb d_X_parts_10 rfl (lv_at hl 1 rfl) ?_
  refine lv_aload_n hx hb d_X_parts_11 rfl (lv_at hl 2 rfl) ?_
  refine gf_X_15_0 hF hG d_X_parts_12 ?_
  refine lv_iload_n hx hb d_X_parts_15 rfl (lv_at hl 0 rfl) ?_
  refine z_iald (n := 6) (j := 5) (v := (S.1 2 0 5)) hF hG z_o2 (z_c2 C ad _ _ _) z_q5 z_in5_6 rfl d_X_parts_16 ?_
  refine lv_bipush (v := 8) hx hb d_X_parts_17 z_bi8 ?_
  refine va_mmin hx hb (hml.trans hl.1.symm) hown (hts _ wm_X_147) (hts _ wi_Math_min) (hts _ wn_Math) (hts _ wc_Math_min) (Nat.le_of_ble_eq_true rfl) (Nat.le_of_ble_eq_true rfl) (Nat.zero_le _) (Nat.zero_le _) d_X_parts_19 ?_
  refine lv_iadd hx hb d_X_parts_22 ?_
  refine lv_istore_n (lv' := [(1, .int ((((((0 + (if 8 < (S.1 2 0 0) then 8 else (S.1 2 0 0))) + (if 8 < (S.1 2 0 1) then 8 else (S.1 2 0 1))) + (if 8 < (S.1 2 0 2) then 8 else (S.1 2 0 2))) + (if 8 < (S.1 2 0 3) then 8 else (S.1 2 0 3))) + (if 8 < (S.1 2 0 4) then 8 else (S.1 2 0 4))) + (if 8 < (S.1 2 0 5) then 8 else (S.1 2 0 5)))), (2, .int 5), (0, .ref (ad 0 0))]) hx hb d_X_parts_23 rfl hl (Nat.le_of_ble_eq_true rfl) rfl (fun ls hl => ?_)
  refine lv_iinc (k := 1) (v := 6) (lv' := [(2, .int 6), (1, .int ((((((0 + (if 8 < (S.1 2 0 0) then 8 else (S.1 2 0 0))) + (if 8 < (S.1 2 0 1) then 8 else (S.1 2 0 1))) + (if 8 < (S.1 2 0 2) then 8 else (S.1 2 0 2))) + (if 8 < (S.1 2 0 3) then 8 else (S.1 2 0 3))) + (if 8 < (S.1 2 0 4) then 8 else (S.1 2 0 4))) + (if 8 < (S.1 2 0 5) then 8 else (S.1 2 0 5)))), (0, .ref (ad 0 0))]) hx hb d_X_parts_24 hl rfl (by decide) (Nat.le_of_ble_eq_true rfl) rfl (fun ls hl => ?_)
  refine lv_goto (tgt := 4) hx hb d_X_parts_27 rfl ?_
  refine lv_iload_n hx hb d_X_parts_4 rfl (lv_at hl 0 rfl) ?_
  refine lv_bipush (v := 6) hx hb d_X_parts_5 z_bi6 ?_
  refine lv_icmp_ge (tgt := 30) hx hb d_X_parts_7 rfl (fun _ => ?_) (fun h => absurd h (by decide))
  refine lv_iload_n hx hb d_X_parts_30 rfl (lv_at hl 1 rfl) ?_
  exact z_iret hF hr hlk hG rfl rfl d_X_parts_31
theorem lt_X_freePlace {S : z_S} {i : Nat} (h : f_X_freePlace S = some i) : i < z_n 14 := by
  unfold f_X_freePlace at h
  repeat' split at h
  all_goals (cases h <;> decide)
theorem lt_X_runningPoll {S : z_S} {x : Int32} {i : Nat} (h : f_X_runningPoll S x = some i) : i < z_n 14 := by
  unfold f_X_runningPoll at h
  repeat' split at h
  all_goals (cases h <;> decide)
/-- what keeps the class's own indices within bounds -/
def z_Ok (S : z_S) : Prop := (∀ d : Nat, d < 6 → 0 ≤ (S.1 2 0 d).toInt ∧ (S.1 2 0 d).toInt ≤ 16) ∧ (0 ≤ (S.1 3 0 4).toInt ∧ (S.1 3 0 4).toInt ≤ 24) ∧ (∀ k : Nat, k < 24 → vp_in (S.1 6 0 k) 3) ∧ (∀ i : Nat, i < 6 → vp_in (S.1 14 i 0) 513 ∧ vp_in (S.1 14 i 1) 6 ∧ vp_in (S.1 14 i 2) 8) ∧ (0 ≤ (S.1 0 0 6).toInt ∧ (S.1 0 0 6).toInt ≤ 512)
theorem z_Ok.of {S S' : z_S} (h : z_Ok S) (e2 : S'.1 2 0 = S.1 2 0) (e3 : S'.1 3 0 4 = S.1 3 0 4) (e6 : S'.1 6 0 = S.1 6 0) (e14 : S'.1 14 = S.1 14) (e0 : S'.1 0 0 6 = S.1 0 0 6) : z_Ok S' := by
  unfold z_Ok
  rw [e2, e3, e6, e14, e0]
  exact h
theorem z_okc {S : z_S} (hok : z_Ok S) : 0 ≤ S.1 3 0 4 := by
  rw [Int32.le_iff_toInt_le, Int32.toInt_zero]; exact hok.2.1.1
theorem z_bcI {S : z_S} {x : Int32} (hok : z_Ok S) (h : vp_in x 6) : 0 ≤ (S.1 2 0 x.toNatClampNeg).toInt ∧ (S.1 2 0 x.toNatClampNeg).toInt ≤ 16 := hok.1 _ (z_lt h)
theorem z_npt {S : z_S} {i : Nat} (hok : z_Ok S) (hi : i < z_n 14) : vp_in (S.1 14 i 0) 513 := (hok.2.2.2.1 i hi).1
theorem z_dpt {S : z_S} {i : Nat} (hok : z_Ok S) (hi : i < z_n 14) : vp_in (S.1 14 i 1) 6 := (hok.2.2.2.1 i hi).2.1
theorem z_ppt {S : z_S} {i : Nat} (hok : z_Ok S) (hi : i < z_n 14) : vp_in (S.1 14 i 2) 8 := (hok.2.2.2.1 i hi).2.2
theorem z_plI {d b : Int32} (hd : vp_in d 6) (hb : vp_in b 16) : vp_in (f_H_place d b) 96 := by
  obtain ⟨x, hx, rfl⟩ := vp_in_of hd (by decide)
  obtain ⟨y, hy, rfl⟩ := vp_in_of hb (by decide)
  exact z_pla hx hy
theorem z_p8 {b : Int32} (hb : vp_in b 8) : vp_in b 16 ∧ vp_in (b + 8) 16 := by
  obtain ⟨y, hy, rfl⟩ := vp_in_of hb (by decide)
  have e : nI y + 8 = nI (y + 8) := nI_add y 8
  rw [e]
  exact ⟨vp_in_nI (by omega) (by decide), vp_in_nI (by omega) (by decide)⟩
theorem z_bp1 {S : z_S} {i : Nat} (hok : z_Ok S) (hi : i < z_n 14) : vp_in (f_H_place (S.1 14 i 1) (S.1 14 i 2)) 96 := z_plI (z_dpt hok hi) (z_p8 (z_ppt hok hi)).1
theorem z_bp2 {S : z_S} {i : Nat} (hok : z_Ok S) (hi : i < z_n 14) : vp_in (f_H_place (S.1 14 i 1) (S.1 14 i 2 + 8)) 96 := z_plI (z_dpt hok hi) (z_p8 (z_ppt hok hi)).2
theorem z_d8 {d b : Int32} (hd : vp_in d 6) (hb : vp_in b 8) : vp_in (d * 8 + b) 48 := by
  obtain ⟨x, hx, rfl⟩ := vp_in_of hd (by decide)
  obtain ⟨y, hy, rfl⟩ := vp_in_of hb (by decide)
  show vp_in (nI x * nI 8 + nI y) 48
  rw [pk_mul, nI_add]
  exact vp_in_nI (by omega) (by decide)
theorem z_fp {S : z_S} {i : Nat} (hok : z_Ok S) (hi : i < z_n 14) : vp_in (S.1 14 i 1 * 8 + S.1 14 i 2) 48 := z_d8 (z_dpt hok hi) (z_ppt hok hi)
theorem z_m31 {v : Int32} (h : vp_in v 3) : vp_in ((v + 1) - (v + 1) / 3 * 3) 3 := by
  obtain ⟨y, hy, rfl⟩ := vp_in_of h (by decide)
  have e : nI y + 1 = nI (y + 1) := nI_add y 1
  rw [e]
  show vp_in (nI (y + 1) - nI (y + 1) / nI 3 * nI 3) 3
  rw [pk_rem (by omega) (by decide) (by decide)]
  exact vp_in_nI (by omega) (by decide)
theorem z_m32 {v : Int32} (h : vp_in v 3) : vp_in ((v + 2) - (v + 2) / 3 * 3) 3 := by
  obtain ⟨y, hy, rfl⟩ := vp_in_of h (by decide)
  have e : nI y + 2 = nI (y + 2) := nI_add y 2
  rw [e]
  show vp_in (nI (y + 2) - nI (y + 2) / nI 3 * nI 3) 3
  rw [pk_rem (by omega) (by decide) (by decide)]
  exact vp_in_nI (by omega) (by decide)
theorem z_mnd {S : z_S} {i : Nat} {v : Int32} (hok : z_Ok S) (hi : i < z_n 14) (hh : vp_in v 2) : vp_in (f_H_place (S.1 14 i 1) (S.1 14 i 2 + v * 8)) 96 := by
  refine z_plI (z_dpt hok hi) ?_
  obtain ⟨y, hy, e⟩ := vp_in_of (z_ppt hok hi) (by decide)
  obtain ⟨q, hq, rfl⟩ := vp_in_of hh (by decide)
  rw [e]
  show vp_in (nI y + nI q * nI 8) 16
  rw [pk_mul, nI_add]
  exact vp_in_nI (by omega) (by decide)
theorem z_hasI {S : z_S} {x : Int32} (h : ¬ f_R_has S x = 0) : ¬ x < 0 ∧ ¬ S.1 3 0 4 ≤ x := by
  unfold f_R_has at h
  by_cases h1 : x < 0
  · rw [if_pos h1] at h; exact absurd rfl h
  · rw [if_neg h1] at h
    by_cases h2 : S.1 3 0 4 ≤ x
    · rw [if_pos h2] at h; exact absurd rfl h
    · exact ⟨h1, h2⟩
theorem z_hasN {S : z_S} {x : Int32} (hok : z_Ok S) (h : ¬ f_R_has S x = 0) : ∃ k n : Nat, x = nI k ∧ S.1 3 0 4 = nI (n + 1) ∧ k ≤ n ∧ n < 24 := by
  obtain ⟨h1, h2⟩ := z_hasI h
  obtain ⟨k, hk, rfl⟩ := nI_of h1
  obtain ⟨c, hc, e⟩ := vp_in_of (x := S.1 3 0 4) (n := 25) (vp_in_iff.mpr ⟨hok.2.1.1, by have := hok.2.1.2; omega⟩) (by decide)
  rw [e] at h2
  have hlt : k < c := by
    apply Classical.byContradiction
    intro q
    exact h2 (nI_le (by omega) hk)
  refine ⟨k, c - 1, rfl, ?_, by omega, by omega⟩
  rw [e]
  exact congrArg nI (by omega)
theorem z_has {S : z_S} {x : Int32} (hok : z_Ok S) (h : ¬ f_R_has S x = 0) : vp_in x 24 := by
  obtain ⟨k, n, rfl, -, h1, h2⟩ := z_hasN hok h
  exact vp_in_nI (by omega) (by decide)
theorem z_rm1 {S : z_S} {x : Int32} (h : ¬ f_R_has S x = 0) : x = nI x.toNatClampNeg := by
  obtain ⟨k, hk, rfl⟩ := nI_of (z_hasI h).1
  rw [nI_clamp hk]
theorem z_rm2 {S : z_S} {x : Int32} (hok : z_Ok S) (h : ¬ f_R_has S x = 0) : S.1 3 0 4 = nI ((S.1 3 0 4).toNatClampNeg - 1 + 1) := by
  obtain ⟨k, n, -, e, h1, h2⟩ := z_hasN hok h
  rw [e, nI_clamp (by omega)]
  exact congrArg nI (by omega)
theorem z_rm3 {S : z_S} {x : Int32} (hok : z_Ok S) (h : ¬ f_R_has S x = 0) : x.toNatClampNeg ≤ (S.1 3 0 4).toNatClampNeg - 1 := by
  obtain ⟨k, n, rfl, e, h1, h2⟩ := z_hasN hok h
  rw [e, nI_clamp (by omega), nI_clamp (by omega)]
  omega
theorem z_rm4 {S : z_S} {x : Int32} (hok : z_Ok S) (h : ¬ f_R_has S x = 0) : (S.1 3 0 4).toNatClampNeg - 1 < 24 := by
  obtain ⟨k, n, -, e, h1, h2⟩ := z_hasN hok h
  rw [e, nI_clamp (by omega)]
  omega
theorem z_rsN {S : z_S} (hok : z_Ok S) (h : ¬ S.1 3 0 4 = 0) : ¬ f_R_has S 0 = 0 := by
  obtain ⟨c, hc, e⟩ := vp_in_of (x := S.1 3 0 4) (n := 25) (vp_in_iff.mpr ⟨hok.2.1.1, by have := hok.2.1.2; omega⟩) (by decide)
  unfold f_R_has
  rw [if_neg (by decide), if_neg]
  · decide
  · rw [e]
    have h0 : 0 < c := by
      rcases Nat.eq_zero_or_pos c with z | z
      · subst z; exact absurd e h
      · exact z
    exact nI_ge (a := 0) h0 (by omega)
theorem z_rs2 {S : z_S} (hok : z_Ok S) (h : ¬ S.1 3 0 4 = 0) : S.1 3 0 4 = nI ((S.1 3 0 4).toNatClampNeg - 1 + 1) := z_rm2 hok (z_rsN hok h)
theorem z_rs4 {S : z_S} (hok : z_Ok S) (h : ¬ S.1 3 0 4 = 0) : (S.1 3 0 4).toNatClampNeg - 1 < 24 := z_rm4 hok (z_rsN hok h)
theorem z_pol {S : z_S} {x : Int32} (hok : z_Ok S) (h : ¬ f_X_isPoll S x = 0) : vp_in x 513 := by
  unfold f_X_isPoll at h
  by_cases h1 : x < 1
  · rw [if_pos h1] at h; exact absurd rfl h
  · rw [if_neg h1] at h
    by_cases h2 : S.1 0 0 6 < x
    · rw [if_pos h2] at h; exact absurd rfl h
    · rw [vp_in_iff]
      rw [Int32.lt_iff_toInt_lt] at h1 h2
      have h3 : (1 : Int32).toInt = 1 := by decide
      have := hok.2.2.2.2.2
      omega
theorem z_pc1 {S : z_S} (hok : z_Ok S) (h : S.1 0 0 6 < 512) : vp_in (S.1 0 0 6 + 1) 513 := by
  rw [Int32.lt_iff_toInt_lt] at h
  have h3 : (512 : Int32).toInt = 512 := by decide
  obtain ⟨c, hc, e⟩ := vp_in_of (x := S.1 0 0 6) (n := 512) (vp_in_iff.mpr ⟨hok.2.2.2.2.1, by omega⟩) (by decide)
  rw [e]
  have e2 : nI c + 1 = nI (c + 1) := nI_add c 1
  rw [e2]
  exact vp_in_nI (by omega) (by decide)
theorem z_deN {x : Int32} (h9 : ¬ x < 1) (h15 : x ≤ 16) : ∃ n : Nat, n ≤ 16 ∧ x = nI n := by
  rw [Int32.lt_iff_toInt_lt] at h9
  rw [Int32.le_iff_toInt_le] at h15
  have h3 : (1 : Int32).toInt = 1 := by decide
  have h4 : (16 : Int32).toInt = 16 := by decide
  obtain ⟨c, hc, e⟩ := vp_in_of (x := x) (n := 17) (vp_in_iff.mpr ⟨by omega, by omega⟩) (by decide)
  exact ⟨c, by omega, e⟩
theorem z_de1 {x : Int32} (h9 : ¬ x < 1) (h15 : x ≤ 16) : x * 4 = nI (4 * x.toNatClampNeg) := by
  obtain ⟨n, hn, rfl⟩ := z_deN h9 h15
  rw [nI_clamp (by omega), Nat.mul_comm]
  exact pk_mul n 4
theorem z_de2 {x : Int32} (h9 : ¬ x < 1) (h15 : x ≤ 16) : 4 * x.toNatClampNeg < 2 ^ 31 := by
  obtain ⟨n, hn, rfl⟩ := z_deN h9 h15
  rw [nI_clamp (by omega)]
  omega
theorem z_de3 {x d : Int32} (h9 : ¬ x < 1) (h15 : x ≤ 16) (hd : vp_in d 6) : ∀ k : Nat, k < 4 * x.toNatClampNeg → vp_in (f_H_place d (nI k / 4)) 96 := by
  obtain ⟨n, hn, rfl⟩ := z_deN h9 h15
  rw [nI_clamp (by omega)]
  intro k hk
  refine z_plI hd ?_
  show vp_in (nI k / nI 4) 16
  rw [pk_div (by omega) (by decide) (by decide)]
  exact vp_in_nI (by omega) (by decide)
theorem z_bytN {S : z_S} {d i : Int32} (hok : z_Ok S) (h : ¬ f_X_isByte S d i = 0) : ∃ (x k : Nat), x < 6 ∧ k < 64 ∧ d = nI x ∧ i = nI k ∧ (k : Int) < 4 * (S.1 2 0 x).toInt := by
  unfold f_X_isByte at h
  by_cases h0 : f_X_isDeposit d = 0
  · rw [if_pos h0] at h; exact absurd rfl h
  · rw [if_neg h0] at h
    by_cases h1 : i < 0
    · rw [if_pos h1] at h; exact absurd rfl h
    · rw [if_neg h1] at h
      by_cases h2 : S.1 2 0 d.toNatClampNeg * 4 ≤ i
      · rw [if_pos h2] at h; exact absurd rfl h
      · obtain ⟨x, hx, rfl⟩ := vp_in_of (z_dep h0) (by decide)
        obtain ⟨k, hk, rfl⟩ := nI_of h1
        rw [nI_clamp (by omega)] at h2
        have hb := hok.1 x hx
        obtain ⟨b, hb2, e⟩ := vp_in_of (x := S.1 2 0 x) (n := 17) (vp_in_iff.mpr ⟨hb.1, by omega⟩) (by decide)
        rw [e] at h2
        have h3 : ¬ nI b * nI 4 ≤ nI k := h2
        rw [pk_mul, nI_leI (by omega) hk] at h3
        refine ⟨x, k, hx, by omega, rfl, rfl, ?_⟩
        rw [e, nI_toInt (by omega)]
        omega
theorem z_byt {S : z_S} {d i : Int32} (hok : z_Ok S) (h : ¬ f_X_isByte S d i = 0) : vp_in (f_H_place d (i / 4)) 96 := by
  obtain ⟨x, k, hx, hk, rfl, rfl, -⟩ := z_bytN hok h
  refine z_plI (vp_in_nI hx (by decide)) ?_
  show vp_in (nI k / nI 4) 16
  rw [pk_div (by omega) (by decide) (by decide)]
  exact vp_in_nI (by omega) (by decide)
theorem ok_H_mend {S : z_S} {o : Nat} {x0 x1 x2 : Int32} (hok : z_Ok S) : z_Ok (g_H_mend S o x0 x1 x2) := hok.of rfl rfl rfl rfl rfl
theorem ok_A_take_15 {S : z_S} {o : Nat} {x0 : Int32} {x1 : Int64} (hok : z_Ok S) : z_Ok (g_A_take_15 S o x0 x1) := by
  unfold g_A_take_15
  split
  · exact hok.of rfl rfl rfl rfl rfl
  · exact hok.of rfl rfl rfl rfl rfl
theorem ok_A_take_18 {S : z_S} {o : Nat} {x0 : Int32} {x1 : Int64} (hok : z_Ok S) : z_Ok (g_A_take_18 S o x0 x1) := by
  unfold g_A_take_18
  split
  · exact hok.of rfl rfl rfl rfl rfl
  · exact hok.of rfl rfl rfl rfl rfl
theorem ok_R_add {S : z_S} {x0 x1 x2 : Int32} {x3 : Int64} (hok : z_Ok S) (hh : vp_in x2 3) : z_Ok (g_R_add S x0 x1 x2 x3) := by
  unfold g_R_add
  split
  · rename_i h
    refine ⟨hok.1, ?_, ?_, hok.2.2.2.1, hok.2.2.2.2⟩
    · rw [Int32.lt_iff_toInt_lt] at h
      have h3 : (24 : Int32).toInt = 24 := by decide
      obtain ⟨c, hc, e⟩ := vp_in_of (x := S.1 3 0 4) (n := 24) (vp_in_iff.mpr ⟨hok.2.1.1, by omega⟩) (by decide)
      show 0 ≤ (S.1 3 0 4 + 1).toInt ∧ (S.1 3 0 4 + 1).toInt ≤ 24
      have e2 : nI c + 1 = nI (c + 1) := nI_add c 1
      rw [e, e2, nI_toInt (by omega)]
      omega
    · intro k hk
      show vp_in ((z_sI (z_sI (z_sI S 4 0 _ x0) 5 0 _ x1) 6 0 _ x2).1 6 0 k) 3
      rw [z_rI]
      split
      · exact hh
      · exact hok.2.2.1 k hk
  · exact hok
theorem ok_P_begin {S : z_S} {o : Nat} {x0 x1 x2 : Int32} {x3 : Int64} {x4 : Int32} (hok : z_Ok S) (h0 : vp_in x0 513) (h1 : vp_in x1 6) (h2 : vp_in x2 8) : z_Ok (g_P_begin S o x0 x1 x2 x3 x4) := by
  refine ⟨hok.1, hok.2.1, hok.2.2.1, fun i hi => ?_, hok.2.2.2.2⟩
  have h := hok.2.2.2.1 i hi
  by_cases e : i = o
  · subst e
    simp [g_P_begin, g_A_forget_15, g_A_forget_18, z_rI, z_rIL, z_rLI, h0, h1, h2]
  · simp [g_P_begin, g_A_forget_15, g_A_forget_18, z_rI, z_rIL, z_rLI, e, h]
theorem ok_pc {S : z_S} {j : Nat} {v : Int32} (hok : z_Ok S) (h : S.1 0 0 6 < 512) : z_Ok (z_sI (z_sI S 0 0 6 (S.1 0 0 6 + 1)) 9 0 j v) := by
  refine ⟨hok.1, hok.2.1, hok.2.2.1, hok.2.2.2.1, ?_⟩
  have h2 := vp_in_iff.mp (z_pc1 hok h)
  exact ⟨h2.1, by have := h2.2; show (S.1 0 0 6 + 1).toInt ≤ 512; omega⟩
theorem z_it_inv {α : Type} {f : Nat → α → α} {P : α → Prop} (h : ∀ k x, P x → P (f k x)) : ∀ {n k : Nat} {x : α}, P x → P (z_it f k n x)
  | 0, _, _, hx => hx
  | n + 1, k, x, hx => z_it_inv h (n := n) (k := k + 1) (h k x hx)
theorem z_it_invB {α : Type} {f : Nat → α → α} {P : α → Prop} {K : Nat} (h : ∀ k x, k < K → P x → P (f k x)) : ∀ (n k : Nat) (x : α), k + n ≤ K → P x → P (z_it f k n x)
  | 0, _, _, _, hx => hx
  | n + 1, k, x, hk, hx => z_it_invB h n (k + 1) (f k x) (by omega) (h k x (by omega) hx)
theorem ok_R_remove {S : z_S} {k0 N : Nat} (hok : z_Ok S) (hc : S.1 3 0 4 = nI (N + 1)) (hk0 : k0 ≤ N) (hN : N < 24) : z_Ok (g_R_remove S k0 N) := by
  unfold g_R_remove
  refine z_it_invB (K := N) (P := z_Ok) ?_ _ _ _ (by omega) ?_
  · intro k T hk hT
    refine ⟨hT.1, hT.2.1, ?_, hT.2.2.2.1, hT.2.2.2.2⟩
    intro j hj
    have h1 := hT.2.2.1 (k + 1) (by omega)
    have h2 := hT.2.2.1 j hj
    show vp_in ((z_sI (z_sI (z_sI T 4 0 k _) 5 0 k _) 6 0 k (T.1 6 0 (k + 1))).1 6 0 j) 3
    rw [z_rI]
    split
    · exact h1
    · exact h2
  · refine ⟨hok.1, ?_, hok.2.2.1, hok.2.2.2.1, hok.2.2.2.2⟩
    show 0 ≤ (S.1 3 0 4 - 1).toInt ∧ (S.1 3 0 4 - 1).toInt ≤ 24
    rw [hc, z_pred, nI_toInt (by omega)]
    omega
