def z_mi (v : Int32) : Prop := v = -1 ∨ vp_in v 6
def z_b01 (v : Int32) : Prop := v = 0 ∨ v = 1
theorem z_nb {v : Int32} (h : z_b01 v) : narrow .boolean (.int v) = .int v := by
  rcases h with rfl | rfl <;> rfl
theorem z_mi_pos {v : Int32} (h : z_mi v) (h0 : 0 ≤ v) : vp_in v 6 := by
  rcases h with rfl | h
  · exact absurd h0 (by decide)
  · exact h
theorem z_mi_nn {v : Int32} (h : z_mi v) (h0 : ¬ v < 0) : vp_in v 6 := by
  rcases h with rfl | h
  · exact absurd (by decide) h0
  · exact h
theorem z_rg7 {x : Int32} (h1 : ¬ x < 0) (h2 : ¬ 7 < x) : vp_in x 8 := by
  rw [vp_in_iff]
  rw [Int32.lt_iff_toInt_lt] at h1 h2
  have h3 : (7 : Int32).toInt = 7 := by decide
  have h4 : (0 : Int32).toInt = 0 := by decide
  omega
theorem z_l8 {x : Int32} (h : vp_in x 25) : ∀ k : Nat, k < 8 → vp_in (8 * x + nI k) 200 := by
  obtain ⟨a, ha, rfl⟩ := vp_in_of h (by decide)
  intro k hk
  show vp_in (nI 8 * nI a + nI k) 200
  rw [pk_mul, nI_add]
  exact vp_in_nI (by omega) (by decide)
theorem z_s3a {p h : Int32} (hp : vp_in p 6) (hh : vp_in h 3) : vp_in (3 * p + h) 18 := by
  obtain ⟨a, ha, rfl⟩ := vp_in_of hp (by decide)
  obtain ⟨b, hb, rfl⟩ := vp_in_of hh (by decide)
  show vp_in (nI 3 * nI a + nI b) 18
  rw [pk_mul, nI_add]
  exact vp_in_nI (by omega) (by decide)
theorem z_s30 {p : Int32} (hp : vp_in p 6) : vp_in (3 * p) 18 := by
  obtain ⟨a, ha, rfl⟩ := vp_in_of hp (by decide)
  show vp_in (nI 3 * nI a) 18
  rw [pk_mul]
  exact vp_in_nI (by omega) (by decide)
theorem z_s31 {p : Int32} (hp : vp_in p 6) : vp_in (3 * p + 1) 18 := z_s3a hp (show vp_in (nI 1) 3 from vp_in_nI (by decide) (by decide))
theorem z_s32 {p : Int32} (hp : vp_in p 6) : vp_in (3 * p + 2) 18 := z_s3a hp (show vp_in (nI 2) 3 from vp_in_nI (by decide) (by decide))
theorem z_4n {x : Int32} {n : Nat} (h : x = nI n) : 4 * x = nI (4 * n) := by
  subst h
  exact pk_mul 4 n
theorem z_4k4 {x : Int32} {n : Nat} (h : x = nI n) : 4 * x + 4 = nI (4 * n + 4) := by
  rw [z_4n h]
  exact nI_add _ 4
theorem z_4k {x : Int32} {n : Nat} (h : x = nI n) : nI (4 * n) = 4 * x := (z_4n h).symm
theorem z_cp {p h : Int32} (hp : vp_in p 6) (hh : vp_in h 3) : ∀ k : Nat, k < 8 → vp_in (24 * p + 8 * h + nI k) 144 := by
  obtain ⟨a, ha, rfl⟩ := vp_in_of hp (by decide)
  obtain ⟨b, hb, rfl⟩ := vp_in_of hh (by decide)
  intro k hk
  show vp_in (nI 24 * nI a + nI 8 * nI b + nI k) 144
  rw [pk_mul, pk_mul, nI_add, nI_add]
  exact vp_in_nI (by omega) (by decide)
theorem z_192 {k : Nat} (hk : k < 8) : vp_in (192 + nI k) 200 := by
  show vp_in (nI 192 + nI k) 200
  rw [nI_add]
  exact vp_in_nI (by omega) (by decide)
theorem z_smG {x0 x1 : Int32} {b j : Nat} (hh : vp_in x0 3) (hd : vp_in x1 6) (hb : b < 16) (hj : j < 4) : vp_in (384 * x0 + 64 * x1 + 4 * nI b + nI j) 1152 := by
  obtain ⟨h, hh', rfl⟩ := vp_in_of hh (by decide)
  obtain ⟨d, hd', rfl⟩ := vp_in_of hd (by decide)
  show vp_in (nI 384 * nI h + nI 64 * nI d + nI 4 * nI b + nI j) 1152
  rw [pk_mul, pk_mul, pk_mul, nI_add, nI_add, nI_add]
  exact vp_in_nI (by omega) (by decide)
theorem z_smA {x0 x1 x2 : Int32} {j : Nat} (hh : vp_in x0 3) (hd : vp_in x1 6) (hp : vp_in x2 8) (hj : j < 4) : vp_in (384 * x0 + 64 * x1 + 4 * (x2 + 0) + nI j) 1152 := by
  obtain ⟨b, hb, rfl⟩ := vp_in_of hp (by decide)
  rw [show nI b + 0 = nI b from nI_add b 0]
  exact z_smG hh hd (by omega) hj
theorem z_smB {x0 x1 x2 : Int32} {j : Nat} (hh : vp_in x0 3) (hd : vp_in x1 6) (hp : vp_in x2 8) (hj : j < 4) : vp_in (384 * x0 + 64 * x1 + 4 * (x2 + 8) + nI j) 1152 := by
  obtain ⟨b, hb, rfl⟩ := vp_in_of hp (by decide)
  rw [show nI b + 8 = nI (b + 8) from nI_add b 8]
  exact z_smG hh hd (by omega) hj
theorem z_sma0 {x0 x1 x2 : Int32} (hh : vp_in x0 3) (hd : vp_in x1 6) (hp : vp_in x2 8) : vp_in (384 * x0 + 64 * x1 + 4 * (x2 + 0) + 0) 1152 := z_smA (j := 0) hh hd hp (by decide)
theorem z_sma1 {x0 x1 x2 : Int32} (hh : vp_in x0 3) (hd : vp_in x1 6) (hp : vp_in x2 8) : vp_in (384 * x0 + 64 * x1 + 4 * (x2 + 0) + 1) 1152 := z_smA (j := 1) hh hd hp (by decide)
theorem z_sma2 {x0 x1 x2 : Int32} (hh : vp_in x0 3) (hd : vp_in x1 6) (hp : vp_in x2 8) : vp_in (384 * x0 + 64 * x1 + 4 * (x2 + 0) + 2) 1152 := z_smA (j := 2) hh hd hp (by decide)
theorem z_sma3 {x0 x1 x2 : Int32} (hh : vp_in x0 3) (hd : vp_in x1 6) (hp : vp_in x2 8) : vp_in (384 * x0 + 64 * x1 + 4 * (x2 + 0) + 3) 1152 := z_smA (j := 3) hh hd hp (by decide)
theorem z_smb0 {x0 x1 x2 : Int32} (hh : vp_in x0 3) (hd : vp_in x1 6) (hp : vp_in x2 8) : vp_in (384 * x0 + 64 * x1 + 4 * (x2 + 8) + 0) 1152 := z_smB (j := 0) hh hd hp (by decide)
theorem z_smb1 {x0 x1 x2 : Int32} (hh : vp_in x0 3) (hd : vp_in x1 6) (hp : vp_in x2 8) : vp_in (384 * x0 + 64 * x1 + 4 * (x2 + 8) + 1) 1152 := z_smB (j := 1) hh hd hp (by decide)
theorem z_smb2 {x0 x1 x2 : Int32} (hh : vp_in x0 3) (hd : vp_in x1 6) (hp : vp_in x2 8) : vp_in (384 * x0 + 64 * x1 + 4 * (x2 + 8) + 2) 1152 := z_smB (j := 2) hh hd hp (by decide)
theorem z_smb3 {x0 x1 x2 : Int32} (hh : vp_in x0 3) (hd : vp_in x1 6) (hp : vp_in x2 8) : vp_in (384 * x0 + 64 * x1 + 4 * (x2 + 8) + 3) 1152 := z_smB (j := 3) hh hd hp (by decide)
def f_M_isHouse (x0 : Int32) : Int32 := (if x0 < 0 then 0 else (if 3 ≤ x0 then 0 else 1))
set_option maxHeartbeats 4000000 in
set_option maxRecDepth 100000 in
theorem c_M_isHouse (l : Launch) (D : va_G) (C : Nat → ClassId) (ad : Nat → Nat → Nat) (hJ : z_J ad) (S : z_S) (x0 : Int32)  : z_M l y_M_isHouse b_M_isHouse 1 (some .boolean) rm_M_isHouse D C ad [.int x0] S (z_Qi D C ad (f_M_isHouse x0) S) := by
  refine z_enter (by decide) (Nat.le_of_ble_eq_true rfl) hJ ?_
  intro p e s m below meth c ls hF hr hlk hl hG
  obtain ⟨hx, hb, hml, hown, hts⟩ := hF.1
  have hl : lv_has ls 1 [(0, .int x0)] := hl
  refine lv_iload_n hx hb d_M_isHouse_0 rfl (lv_at hl 0 rfl) ?_
  refine lv_if_lt (tgt := 13) hx hb d_M_isHouse_1 rfl (fun h1 => ?_) (fun h1 => ?_)
  ·
    refine lv_iconst (v := 0) hx hb d_M_isHouse_13 z_k0 ?_
    exact z_zret hF hr hlk rfl hG (Eq.symm ((if_pos h1).trans rfl)) rfl d_M_isHouse_14
  ·
    refine lv_iload_n hx hb d_M_isHouse_4 rfl (lv_at hl 0 rfl) ?_
    refine lv_iconst (v := 3) hx hb d_M_isHouse_5 z_k3 ?_
    refine lv_icmp_ge (tgt := 13) hx hb d_M_isHouse_6 rfl (fun h6 => ?_) (fun h6 => ?_)
    ·
      refine lv_iconst (v := 0) hx hb d_M_isHouse_13 z_k0 ?_
      exact z_zret hF hr hlk rfl hG (Eq.symm ((if_neg h1).trans ((if_pos h6).trans rfl))) rfl d_M_isHouse_14
    ·
      refine lv_iconst (v := 1) hx hb d_M_isHouse_9 z_k1 ?_
      refine lv_goto (tgt := 14) hx hb d_M_isHouse_10 rfl ?_
      exact z_zret hF hr hlk rfl hG (Eq.symm ((if_neg h1).trans ((if_neg h6).trans rfl))) rfl d_M_isHouse_14
def f_M_blocksOf (S : z_S) (x0 : Int32) : Int32 := (if x0 < 0 then 0 else (if 6 ≤ x0 then 0 else (S.1 23 0 x0.toNatClampNeg)))
set_option maxHeartbeats 4000000 in
set_option maxRecDepth 100000 in
theorem c_M_blocksOf (l : Launch) (D : va_G) (C : Nat → ClassId) (ad : Nat → Nat → Nat) (hJ : z_J ad) (S : z_S) (x0 : Int32)  : z_M l y_M_blocksOf b_M_blocksOf 2 (some .int) rm_M_blocksOf D C ad [.ref (ad 21 0), .int x0] S (z_Qi D C ad (f_M_blocksOf S x0) S) := by
  refine z_enter (by decide) (Nat.le_of_ble_eq_true rfl) hJ ?_
  intro p e s m below meth c ls hF hr hlk hl hG
  obtain ⟨hx, hb, hml, hown, hts⟩ := hF.1
  have hl : lv_has ls 2 [(0, .ref (ad 21 0)), (1, .int x0)] := hl
  refine lv_iload_n hx hb d_M_blocksOf_0 rfl (lv_at hl 1 rfl) ?_
  refine lv_if_lt (tgt := 19) hx hb d_M_blocksOf_1 rfl (fun h1 => ?_) (fun h1 => ?_)
  ·
    refine lv_iconst (v := 0) hx hb d_M_blocksOf_19 z_k0 ?_
    exact z_iret hF hr hlk hG (Eq.symm ((if_pos h1).trans rfl)) rfl d_M_blocksOf_20
  ·
    refine lv_iload_n hx hb d_M_blocksOf_4 rfl (lv_at hl 1 rfl) ?_
    refine lv_bipush (v := 6) hx hb d_M_blocksOf_5 z_bi6 ?_
    refine lv_icmp_ge (tgt := 19) hx hb d_M_blocksOf_7 rfl (fun h7 => ?_) (fun h7 => ?_)
    ·
      refine lv_iconst (v := 0) hx hb d_M_blocksOf_19 z_k0 ?_
      exact z_iret hF hr hlk hG (Eq.symm ((if_neg h1).trans ((if_pos h7).trans rfl))) rfl d_M_blocksOf_20
    ·
      refine lv_aload_n hx hb d_M_blocksOf_10 rfl (lv_at hl 0 rfl) ?_
      refine gf_M_13_21 hF hG d_M_blocksOf_11 ?_
      refine lv_iload_n hx hb d_M_blocksOf_14 rfl (lv_at hl 1 rfl) ?_
      refine z_iald (n := 6) (j := x0.toNatClampNeg) (v := (S.1 23 0 x0.toNatClampNeg)) hF hG z_o23 (z_c23 C ad _ _ _) rfl (z_rg (n := 6) h1 h7) rfl d_M_blocksOf_15 ?_
      refine lv_goto (tgt := 20) hx hb d_M_blocksOf_16 rfl ?_
      exact z_iret hF hr hlk hG (Eq.symm ((if_neg h1).trans ((if_neg h7).trans rfl))) rfl d_M_blocksOf_20
def f_M_isByte (S : z_S) (x0 : Int32) (x1 : Int32) (x2 : Int32) : Int32 := (if (f_M_isHouse x0) = 0 then 0 else (if x2 < 0 then 0 else (if (4 * (f_M_blocksOf S x1)) ≤ x2 then 0 else 1)))
set_option maxHeartbeats 4000000 in
set_option maxRecDepth 100000 in
theorem c_M_isByte (l : Launch) (D : va_G) (C : Nat → ClassId) (ad : Nat → Nat → Nat) (hJ : z_J ad) (S : z_S) (x0 : Int32) (x1 : Int32) (x2 : Int32)  : z_M l y_M_isByte b_M_isByte 4 (some .boolean) rm_M_isByte D C ad [.ref (ad 21 0), .int x0, .int x1, .int x2] S (z_Qi D C ad (f_M_isByte S x0 x1 x2) S) := by
  refine z_enter (by decide) (Nat.le_of_ble_eq_true rfl) hJ ?_
  intro p e s m below meth c ls hF hr hlk hl hG
  obtain ⟨hx, hb, hml, hown, hts⟩ := hF.1
  have hl : lv_has ls 4 [(0, .ref (ad 21 0)), (1, .int x0), (2, .int x1), (3, .int x2)] := hl
  refine lv_iload_n hx hb d_M_isByte_0 rfl (lv_at hl 1 rfl) ?_
  refine kc_M_76 hF (c_M_isHouse l D C ad hF.2.2 _ _ ) hG ⟨Nat.le_of_ble_eq_true rfl, Nat.le_of_ble_eq_true rfl⟩ ⟨Nat.zero_le _, Nat.zero_le _⟩ hl.1 (Nat.le_of_ble_eq_true rfl) d_M_isByte_1 (fun H locs hG => ?_)
  refine lv_if_eq (tgt := 26) hx hb d_M_isByte_4 rfl (fun h4 => ?_) (fun h4 => ?_)
  ·
    refine lv_iconst (v := 0) hx hb d_M_isByte_26 z_k0 ?_
    exact z_zret hF hr hlk rfl hG (Eq.symm ((if_pos h4).trans rfl)) rfl d_M_isByte_27
  ·
    refine lv_iload_n hx hb d_M_isByte_7 rfl (lv_at hl 3 rfl) ?_
    refine lv_if_lt (tgt := 26) hx hb d_M_isByte_8 rfl (fun h8 => ?_) (fun h8 => ?_)
    ·
      refine lv_iconst (v := 0) hx hb d_M_isByte_26 z_k0 ?_
      exact z_zret hF hr hlk rfl hG (Eq.symm ((if_neg h4).trans ((if_pos h8).trans rfl))) rfl d_M_isByte_27
    ·
      refine lv_iload_n hx hb d_M_isByte_11 rfl (lv_at hl 3 rfl) ?_
      refine lv_iconst (v := 4) hx hb d_M_isByte_12 z_k4 ?_
      refine lv_aload_n hx hb d_M_isByte_13 rfl (lv_at hl 0 rfl) ?_
      refine lv_iload_n hx hb d_M_isByte_14 rfl (lv_at hl 2 rfl) ?_
      refine kc_M_80 hF (c_M_blocksOf l D C ad hF.2.2 _ _ ) hG ⟨Nat.le_of_ble_eq_true rfl, Nat.le_of_ble_eq_true rfl⟩ ⟨Nat.zero_le _, Nat.zero_le _⟩ hl.1 (Nat.le_of_ble_eq_true rfl) d_M_isByte_15 (fun H locs hG => ?_)
      refine lv_imul hx hb d_M_isByte_18 ?_
      refine lv_icmp_ge (tgt := 26) hx hb d_M_isByte_19 rfl (fun h19 => ?_) (fun h19 => ?_)
      ·
        refine lv_iconst (v := 0) hx hb d_M_isByte_26 z_k0 ?_
        exact z_zret hF hr hlk rfl hG (Eq.symm ((if_neg h4).trans ((if_neg h8).trans ((if_pos h19).trans rfl)))) rfl d_M_isByte_27
      ·
        refine lv_iconst (v := 1) hx hb d_M_isByte_22 z_k1 ?_
        refine lv_goto (tgt := 27) hx hb d_M_isByte_23 rfl ?_
        exact z_zret hF hr hlk rfl hG (Eq.symm ((if_neg h4).trans ((if_neg h8).trans ((if_neg h19).trans rfl)))) rfl d_M_isByte_27
theorem z_mho {x : Int32} (h : ¬ f_M_isHouse x = 0) : vp_in x 3 := by
  unfold f_M_isHouse at h
  by_cases h1 : x < 0
  · rw [if_pos h1] at h; exact absurd rfl h
  · rw [if_neg h1] at h
    by_cases h2 : 3 ≤ x
    · rw [if_pos h2] at h; exact absurd rfl h
    · exact z_rg (n := 3) h1 h2
theorem z_mbo {S : z_S} {x : Int32} (h : ¬ f_M_blocksOf S x = 0) : vp_in x 6 := by
  unfold f_M_blocksOf at h
  by_cases h1 : x < 0
  · rw [if_pos h1] at h; exact absurd rfl h
  · rw [if_neg h1] at h
    by_cases h2 : 6 ≤ x
    · rw [if_pos h2] at h; exact absurd rfl h
    · exact z_rg (n := 6) h1 h2
theorem z_siz {S : z_S} {x0 x1 : Int32} (h1 : ¬ x1 < 0) (h16 : x1 < f_M_blocksOf S x0) : vp_in x0 6 := by
  apply z_mbo (S := S)
  intro e
  rw [e] at h16
  exact h1 h16
/-- what keeps the reference's indices within bounds -/
def z_Om (S : z_S) : Prop := (∀ d : Nat, d < 6 → 0 ≤ (S.1 23 0 d).toInt ∧ (S.1 23 0 d).toInt ≤ 16) ∧ (0 ≤ (S.1 21 0 14).toInt ∧ (S.1 21 0 14).toInt ≤ 24) ∧ (∀ k : Nat, k < 25 → vp_in (S.1 37 0 k) 3) ∧ (∀ p : Nat, p < 6 → vp_in (S.1 26 0 p) 600 ∧ vp_in (S.1 27 0 p) 6 ∧ vp_in (S.1 28 0 p) 8) ∧ (0 ≤ (S.1 21 0 3).toInt ∧ (S.1 21 0 3).toInt ≤ 512)
theorem z_Om.of {S S' : z_S} (h : z_Om S) (e23 : S'.1 23 0 = S.1 23 0) (e14 : S'.1 21 0 14 = S.1 21 0 14) (e37 : S'.1 37 0 = S.1 37 0) (e26 : S'.1 26 0 = S.1 26 0) (e27 : S'.1 27 0 = S.1 27 0) (e28 : S'.1 28 0 = S.1 28 0) (e3 : S'.1 21 0 3 = S.1 21 0 3) : z_Om S' := by
  unfold z_Om
  rw [e23, e14, e37, e26, e27, e28, e3]
  exact h
theorem z_bof {S : z_S} {d : Nat} (hd : d < 6) : f_M_blocksOf S (nI d) = S.1 23 0 d := by
  unfold f_M_blocksOf
  rw [if_neg (nI_pos (by omega)), if_neg (show ¬ (6 : Int32) ≤ nI d from nI_ge (b := 6) hd (by decide)), nI_clamp (by omega)]
theorem z_mby {S : z_S} {x0 x1 x2 : Int32} (hom : z_Om S) (h : ¬ f_M_isByte S x0 x1 x2 = 0) : vp_in (384 * x0 + 64 * x1 + x2) 1152 := by
  unfold f_M_isByte at h
  by_cases h0 : f_M_isHouse x0 = 0
  · rw [if_pos h0] at h; exact absurd rfl h
  · rw [if_neg h0] at h
    by_cases h1 : x2 < 0
    · rw [if_pos h1] at h; exact absurd rfl h
    · rw [if_neg h1] at h
      by_cases h2 : 4 * f_M_blocksOf S x1 ≤ x2
      · rw [if_pos h2] at h; exact absurd rfl h
      · have h3 : ¬ f_M_blocksOf S x1 = 0 := by
          intro e
          rw [e] at h2
          rw [Int32.le_iff_toInt_le] at h2
          rw [Int32.lt_iff_toInt_lt] at h1
          have e1 : (4 * 0 : Int32).toInt = 0 := by decide
          have e2 : (0 : Int32).toInt = 0 := by decide
          omega
        have hd := z_mbo h3
        obtain ⟨a, ha, rfl⟩ := vp_in_of (z_mho h0) (by decide)
        obtain ⟨d, hd', rfl⟩ := vp_in_of hd (by decide)
        obtain ⟨k, hk, rfl⟩ := nI_of h1
        rw [z_bof hd'] at h2
        obtain ⟨b, hb, e⟩ := vp_in_of (x := S.1 23 0 d) (n := 17) (vp_in_iff.mpr ⟨(hom.1 d hd').1, by have := (hom.1 d hd').2; omega⟩) (by decide)
        rw [e] at h2
        have h4 : ¬ nI 4 * nI b ≤ nI k := h2
        rw [pk_mul, nI_leI (by omega) hk] at h4
        show vp_in (nI 384 * nI a + nI 64 * nI d + nI k) 1152
        rw [pk_mul, pk_mul, nI_add, nI_add]
        exact vp_in_nI (by omega) (by decide)
theorem z_mmy {S : z_S} (hom : z_Om S) : vp_in (S.1 21 0 14) 25 := vp_in_iff.mpr ⟨hom.2.1.1, by have := hom.2.1.2; omega⟩
theorem z_mpo {S : z_S} (hom : z_Om S) : vp_in (S.1 21 0 3 + 1) 600 := by
  obtain ⟨c, hc, e⟩ := vp_in_of (x := S.1 21 0 3) (n := 513) (vp_in_iff.mpr ⟨hom.2.2.2.2.1, by have := hom.2.2.2.2.2; omega⟩) (by decide)
  rw [e, show nI c + 1 = nI (c + 1) from nI_add c 1]
  exact vp_in_nI (by omega) (by decide)
theorem z_onu {S : z_S} {p : Int32} (hom : z_Om S) (hp : vp_in p 6) : vp_in (S.1 26 0 p.toNatClampNeg) 600 := (hom.2.2.2.1 _ (z_lt hp)).1
theorem z_odp {S : z_S} {p : Int32} (hom : z_Om S) (hp : vp_in p 6) : vp_in (8 * S.1 27 0 p.toNatClampNeg + S.1 28 0 p.toNatClampNeg) 48 := by
  obtain ⟨a, ha, e1⟩ := vp_in_of (hom.2.2.2.1 _ (z_lt hp)).2.1 (by decide)
  obtain ⟨b, hb, e2⟩ := vp_in_of (hom.2.2.2.1 _ (z_lt hp)).2.2 (by decide)
  rw [e1, e2]
  show vp_in (nI 8 * nI a + nI b) 48
  rw [pk_mul, nI_add]
  exact vp_in_nI (by omega) (by decide)
theorem z_mre {S : z_S} {x : Int32} (hom : z_Om S) (h2 : ¬ x < 1) (h10 : x ≤ S.1 21 0 3) : vp_in x 600 := by
  rw [vp_in_iff]
  rw [Int32.lt_iff_toInt_lt] at h2
  rw [Int32.le_iff_toInt_le] at h10
  have h3 : (1 : Int32).toInt = 1 := by decide
  have := hom.2.2.2.2.2
  omega
def f_M_blocks (S : z_S) (x0 : Int32) : Int32 := (f_M_blocksOf S x0)
set_option maxHeartbeats 4000000 in
set_option maxRecDepth 100000 in
theorem c_M_blocks (l : Launch) (D : va_G) (C : Nat → ClassId) (ad : Nat → Nat → Nat) (hJ : z_J ad) (S : z_S) (x0 : Int32)  : z_M l y_M_blocks b_M_blocks 2 (some .int) rm_M_blocks D C ad [.ref (ad 21 0), .int x0] S (z_Qi D C ad (f_M_blocks S x0) S) := by
  refine z_enter (by decide) (Nat.le_of_ble_eq_true rfl) hJ ?_
  intro p e s m below meth c ls hF hr hlk hl hG
  obtain ⟨hx, hb, hml, hown, hts⟩ := hF.1
  have hl : lv_has ls 2 [(0, .ref (ad 21 0)), (1, .int x0)] := hl
  refine lv_aload_n hx hb d_M_blocks_0 rfl (lv_at hl 0 rfl) ?_
  refine lv_iload_n hx hb d_M_blocks_1 rfl (lv_at hl 1 rfl) ?_
  refine kc_M_80 hF (c_M_blocksOf l D C ad hF.2.2 _ _ ) hG ⟨Nat.le_of_ble_eq_true rfl, Nat.le_of_ble_eq_true rfl⟩ ⟨Nat.zero_le _, Nat.zero_le _⟩ hl.1 (Nat.le_of_ble_eq_true rfl) d_M_blocks_2 (fun H locs hG => ?_)
  exact z_iret hF hr hlk hG rfl rfl d_M_blocks_5
def f_M_at (S : z_S) (x0 : Int32) (x1 : Int32) (x2 : Int32) : Int32 := (if (f_M_isByte S x0 x1 x2) = 0 then (-1) else (S.1 22 0 ((((384 * x0) + (64 * x1)) + x2).toNatClampNeg)))
set_option maxHeartbeats 4000000 in
set_option maxRecDepth 100000 in
theorem c_M_at (l : Launch) (D : va_G) (C : Nat → ClassId) (ad : Nat → Nat → Nat) (hJ : z_J ad) (S : z_S) (x0 : Int32) (x1 : Int32) (x2 : Int32) (hom : z_Om S) : z_M l y_M_at b_M_at 4 (some .int) rm_M_at D C ad [.ref (ad 21 0), .int x0, .int x1, .int x2] S (z_Qi D C ad (f_M_at S x0 x1 x2) S) := by
  refine z_enter (by decide) (Nat.le_of_ble_eq_true rfl) hJ ?_
  intro p e s m below meth c ls hF hr hlk hl hG
  obtain ⟨hx, hb, hml, hown, hts⟩ := hF.1
  have hl : lv_has ls 4 [(0, .ref (ad 21 0)), (1, .int x0), (2, .int x1), (3, .int x2)] := hl
  refine lv_aload_n hx hb d_M_at_0 rfl (lv_at hl 0 rfl) ?_
  refine lv_iload_n hx hb d_M_at_1 rfl (lv_at hl 1 rfl) ?_
  refine lv_iload_n hx hb d_M_at_2 rfl (lv_at hl 2 rfl) ?_
  refine lv_iload_n hx hb d_M_at_3 rfl (lv_at hl 3 rfl) ?_
  refine kc_M_84 hF (c_M_isByte l D C ad hF.2.2 _ _ _ _ ) hG ⟨Nat.le_of_ble_eq_true rfl, Nat.le_of_ble_eq_true rfl⟩ ⟨Nat.zero_le _, Nat.zero_le _⟩ hl.1 (Nat.le_of_ble_eq_true rfl) d_M_at_4 (fun H locs hG => ?_)
  refine lv_if_eq (tgt := 30) hx hb d_M_at_7 rfl (fun h7 => ?_) (fun h7 => ?_)
  ·
    refine lv_iconst (v := (-1)) hx hb d_M_at_30 z_km1 ?_
    exact z_iret hF hr hlk hG (Eq.symm ((if_pos h7).trans rfl)) rfl d_M_at_31
  ·
    refine lv_aload_n hx hb d_M_at_10 rfl (lv_at hl 0 rfl) ?_
    refine gf_M_7_21 hF hG d_M_at_11 ?_
    refine lv_sipush (v := 384) hx hb d_M_at_14 z_si384 ?_
    refine lv_iload_n hx hb d_M_at_17 rfl (lv_at hl 1 rfl) ?_
    refine lv_imul hx hb d_M_at_18 ?_
    refine lv_bipush (v := 64) hx hb d_M_at_19 z_bi64 ?_
    refine lv_iload_n hx hb d_M_at_21 rfl (lv_at hl 2 rfl) ?_
    refine lv_imul hx hb d_M_at_22 ?_
    refine lv_iadd hx hb d_M_at_23 ?_
    refine lv_iload_n hx hb d_M_at_24 rfl (lv_at hl 3 rfl) ?_
    refine lv_iadd hx hb d_M_at_25 ?_
    refine z_iald (n := 1152) (j := (((384 * x0) + (64 * x1)) + x2).toNatClampNeg) (v := (S.1 22 0 ((((384 * x0) + (64 * x1)) + x2).toNatClampNeg))) hF hG z_o22 (z_c22 C ad _ _ _) rfl (z_mby hom h7) rfl d_M_at_26 ?_
    refine lv_goto (tgt := 31) hx hb d_M_at_27 rfl ?_
    exact z_iret hF hr hlk hG (Eq.symm ((if_neg h7).trans rfl)) rfl d_M_at_31
def f_M_damage (S : z_S) (x0 : Int32) (x1 : Int32) (x2 : Int32) (x3 : Int32) : Int32 := (if (f_M_isByte S x0 x1 x2) = 0 then (-1) else ((z_sI S 22 0 ((((384 * x0) + (64 * x1)) + x2).toNatClampNeg) ((S.1 22 0 ((((384 * x0) + (64 * x1)) + x2).toNatClampNeg)) ^^^ (x3 &&& 255))).1 22 0 ((((384 * x0) + (64 * x1)) + x2).toNatClampNeg)))
def g_M_damage (S : z_S) (x0 : Int32) (x1 : Int32) (x2 : Int32) (x3 : Int32) : z_S := (if (f_M_isByte S x0 x1 x2) = 0 then S else (z_sI S 22 0 ((((384 * x0) + (64 * x1)) + x2).toNatClampNeg) ((S.1 22 0 ((((384 * x0) + (64 * x1)) + x2).toNatClampNeg)) ^^^ (x3 &&& 255))))
set_option maxHeartbeats 4000000 in
set_option maxRecDepth 100000 in
theorem c_M_damage (l : Launch) (D : va_G) (C : Nat → ClassId) (ad : Nat → Nat → Nat) (hJ : z_J ad) (S : z_S) (x0 : Int32) (x1 : Int32) (x2 : Int32) (x3 : Int32) (hom : z_Om S) : z_M l y_M_damage b_M_damage 5 (some .int) rm_M_damage D C ad [.ref (ad 21 0), .int x0, .int x1, .int x2, .int x3] S (z_Qi D C ad (f_M_damage S x0 x1 x2 x3) (g_M_damage S x0 x1 x2 x3)) := by
  refine z_enter (by decide) (Nat.le_of_ble_eq_true rfl) hJ ?_
  intro p e s m below meth c ls hF hr hlk hl hG
  obtain ⟨hx, hb, hml, hown, hts⟩ := hF.1
  have hl : lv_has ls 5 [(0, .ref (ad 21 0)), (1, .int x0), (2, .int x1), (3, .int x2), (4, .int x3)] := hl
  refine lv_aload_n hx hb d_M_damage_0 rfl (lv_at hl 0 rfl) ?_
  refine lv_iload_n hx hb d_M_damage_1 rfl (lv_at hl 1 rfl) ?_
  refine lv_iload_n hx hb d_M_damage_2 rfl (lv_at hl 2 rfl) ?_
  refine lv_iload_n hx hb d_M_damage_3 rfl (lv_at hl 3 rfl) ?_
  refine kc_M_84 hF (c_M_isByte l D C ad hF.2.2 _ _ _ _ ) hG ⟨Nat.le_of_ble_eq_true rfl, Nat.le_of_ble_eq_true rfl⟩ ⟨Nat.zero_le _, Nat.zero_le _⟩ hl.1 (Nat.le_of_ble_eq_true rfl) d_M_damage_4 (fun H locs hG => ?_)
  refine lv_if_ne (tgt := 12) hx hb d_M_damage_7 rfl (fun h7 => ?_) (fun h7 => ?_)
  ·
    refine lv_aload_n hx hb d_M_damage_12 rfl (lv_at hl 0 rfl) ?_
    refine gf_M_7_21 hF hG d_M_damage_13 ?_
    refine lv_sipush (v := 384) hx hb d_M_damage_16 z_si384 ?_
    refine lv_iload_n hx hb d_M_damage_19 rfl (lv_at hl 1 rfl) ?_
    refine lv_imul hx hb d_M_damage_20 ?_
    refine lv_bipush (v := 64) hx hb d_M_damage_21 z_bi64 ?_
    refine lv_iload_n hx hb d_M_damage_23 rfl (lv_at hl 2 rfl) ?_
    refine lv_imul hx hb d_M_damage_24 ?_
    refine lv_iadd hx hb d_M_damage_25 ?_
    refine lv_iload_n hx hb d_M_damage_26 rfl (lv_at hl 3 rfl) ?_
    refine lv_iadd hx hb d_M_damage_27 ?_
    refine lv_aload_n hx hb d_M_damage_28 rfl (lv_at hl 0 rfl) ?_
    refine gf_M_7_21 hF hG d_M_damage_29 ?_
    refine lv_sipush (v := 384) hx hb d_M_damage_32 z_si384 ?_
    refine lv_iload_n hx hb d_M_damage_35 rfl (lv_at hl 1 rfl) ?_
    refine lv_imul hx hb d_M_damage_36 ?_
    refine lv_bipush (v := 64) hx hb d_M_damage_37 z_bi64 ?_
    refine lv_iload_n hx hb d_M_damage_39 rfl (lv_at hl 2 rfl) ?_
    refine lv_imul hx hb d_M_damage_40 ?_
    refine lv_iadd hx hb d_M_damage_41 ?_
    refine lv_iload_n hx hb d_M_damage_42 rfl (lv_at hl 3 rfl) ?_
    refine lv_iadd hx hb d_M_damage_43 ?_
    refine z_iald (n := 1152) (j := (((384 * x0) + (64 * x1)) + x2).toNatClampNeg) (v := (S.1 22 0 ((((384 * x0) + (64 * x1)) + x2).toNatClampNeg))) hF hG z_o22 (z_c22 C ad _ _ _) rfl (z_mby hom h7) rfl d_M_damage_44 ?_
    refine lv_iload hx hb d_M_damage_45 (lv_at hl 4 rfl) ?_
    refine lv_sipush (v := 255) hx hb d_M_damage_47 z_si255 ?_
    refine lv_iand hx hb d_M_damage_50 ?_
    refine lv_ixor hx hb d_M_damage_51 ?_
    refine z_iast (n := 1152) (j := (((384 * x0) + (64 * x1)) + x2).toNatClampNeg) hF hG z_o22 (fun f g => z_c22 C ad f g _) rfl (z_mby hom h7) d_M_damage_52 (fun H locs hG => ?_)
    refine lv_aload_n hx hb d_M_damage_53 rfl (lv_at hl 0 rfl) ?_
    refine gf_M_7_21 hF hG d_M_damage_54 ?_
    refine lv_sipush (v := 384) hx hb d_M_damage_57 z_si384 ?_
    refine lv_iload_n hx hb d_M_damage_60 rfl (lv_at hl 1 rfl) ?_
    refine lv_imul hx hb d_M_damage_61 ?_
    refine lv_bipush (v := 64) hx hb d_M_damage_62 z_bi64 ?_
    refine lv_iload_n hx hb d_M_damage_64 rfl (lv_at hl 2 rfl) ?_
    refine lv_imul hx hb d_M_damage_65 ?_
    refine lv_iadd hx hb d_M_damage_66 ?_
    refine lv_iload_n hx hb d_M_damage_67 rfl (lv_at hl 3 rfl) ?_
    refine lv_iadd hx hb d_M_damage_68 ?_
    refine z_iald (n := 1152) (j := (((384 * x0) + (64 * x1)) + x2).toNatClampNeg) (v := ((z_sI S 22 0 ((((384 * x0) + (64 * x1)) + x2).toNatClampNeg) ((S.1 22 0 ((((384 * x0) + (64 * x1)) + x2).toNatClampNeg)) ^^^ (x3 &&& 255))).1 22 0 ((((384 * x0) + (64 * x1)) + x2).toNatClampNeg))) hF hG z_o22 (z_c22 C ad _ _ _) rfl (z_mby hom h7) rfl d_M_damage_69 ?_
    exact z_iret hF hr hlk hG (Eq.symm ((if_neg h7).trans rfl)) (Eq.symm ((if_neg h7).trans rfl)) d_M_damage_70
  ·
    refine lv_iconst (v := (-1)) hx hb d_M_damage_10 z_km1 ?_
    exact z_iret hF hr hlk hG (Eq.symm ((if_pos h7).trans rfl)) (Eq.symm ((if_pos h7).trans rfl)) d_M_damage_11
def f_M_mix (x0 : Int64) (x1 : Int32) : Int64 := ((x0 ^^^ (x1.toInt64)) * 1099511628211)
set_option maxHeartbeats 4000000 in
set_option maxRecDepth 100000 in
theorem c_M_mix (l : Launch) (D : va_G) (C : Nat → ClassId) (ad : Nat → Nat → Nat) (hJ : z_J ad) (S : z_S) (x0 : Int64) (x1 : Int32)  : z_M l y_M_mix b_M_mix 3 (some .long) rm_M_mix D C ad [.long x0, .int x1] S (z_Ql D C ad (f_M_mix x0 x1) S) := by
  refine z_enter (by decide) (Nat.le_of_ble_eq_true rfl) hJ ?_
  intro p e s m below meth c ls hF hr hlk hl hG
  obtain ⟨hx, hb, hml, hown, hts⟩ := hF.1
  have hl : lv_has ls 3 [(0, .long x0), (2, .int x1)] := hl
  refine lv_lload_n hx hb d_M_mix_0 rfl (lv_at hl 0 rfl) ?_
  refine lv_iload_n hx hb d_M_mix_1 rfl (lv_at hl 1 rfl) ?_
  refine lv_i2l hx hb d_M_mix_2 rfl ?_
  refine lv_lxor hx hb d_M_mix_3 ?_
  refine lv_ldc2 (v := 1099511628211) hx hb hown (hts _ wk_M_88) d_M_mix_4 ?_
  refine lv_lmul hx hb d_M_mix_7 ?_
  exact z_lret hF hr hlk hG rfl rfl d_M_mix_8
def f_M_sizeOf (S : z_S) (x0 : Int32) (x1 : Int32) : Int32 := (if x1 < 0 then 0 else (if 7 < x1 then 0 else (if x1 < (f_M_blocksOf S x0) then (if (S.1 23 0 x0.toNatClampNeg) ≤ (x1 + 8) then 1 else 2) else 0)))
set_option maxHeartbeats 4000000 in
set_option maxRecDepth 100000 in
theorem c_M_sizeOf (l : Launch) (D : va_G) (C : Nat → ClassId) (ad : Nat → Nat → Nat) (hJ : z_J ad) (S : z_S) (x0 : Int32) (x1 : Int32)  : z_M l y_M_sizeOf b_M_sizeOf 3 (some .int) rm_M_sizeOf D C ad [.ref (ad 21 0), .int x0, .int x1] S (z_Qi D C ad (f_M_sizeOf S x0 x1) S) := by
  refine z_enter (by decide) (Nat.le_of_ble_eq_true rfl) hJ ?_
  intro p e s m below meth c ls hF hr hlk hl hG
  obtain ⟨hx, hb, hml, hown, hts⟩ := hF.1
  have hl : lv_has ls 3 [(0, .ref (ad 21 0)), (1, .int x0), (2, .int x1)] := hl
  refine lv_iload_n hx hb d_M_sizeOf_0 rfl (lv_at hl 2 rfl) ?_
  refine lv_if_lt (tgt := 19) hx hb d_M_sizeOf_1 rfl (fun h1 => ?_) (fun h1 => ?_)
  ·
    refine lv_iconst (v := 0) hx hb d_M_sizeOf_19 z_k0 ?_
    refine lv_goto (tgt := 41) hx hb d_M_sizeOf_20 rfl ?_
    exact z_iret hF hr hlk hG (Eq.symm ((if_pos h1).trans rfl)) rfl d_M_sizeOf_41
  ·
    refine lv_iload_n hx hb d_M_sizeOf_4 rfl (lv_at hl 2 rfl) ?_
    refine lv_bipush (v := 7) hx hb d_M_sizeOf_5 z_bi7 ?_
    refine lv_icmp_gt (tgt := 19) hx hb d_M_sizeOf_7 rfl (fun h7 => ?_) (fun h7 => ?_)
    ·
      refine lv_iconst (v := 0) hx hb d_M_sizeOf_19 z_k0 ?_
      refine lv_goto (tgt := 41) hx hb d_M_sizeOf_20 rfl ?_
      exact z_iret hF hr hlk hG (Eq.symm ((if_neg h1).trans ((if_pos h7).trans rfl))) rfl d_M_sizeOf_41
    ·
      refine lv_iload_n hx hb d_M_sizeOf_10 rfl (lv_at hl 2 rfl) ?_
      refine lv_aload_n hx hb d_M_sizeOf_11 rfl (lv_at hl 0 rfl) ?_
      refine lv_iload_n hx hb d_M_sizeOf_12 rfl (lv_at hl 1 rfl) ?_
      refine kc_M_80 hF (c_M_blocksOf l D C ad hF.2.2 _ _ ) hG ⟨Nat.le_of_ble_eq_true rfl, Nat.le_of_ble_eq_true rfl⟩ ⟨Nat.zero_le _, Nat.zero_le _⟩ hl.1 (Nat.le_of_ble_eq_true rfl) d_M_sizeOf_13 (fun H locs hG => ?_)
      refine lv_icmp_lt (tgt := 23) hx hb d_M_sizeOf_16 rfl (fun h16 => ?_) (fun h16 => ?_)
      ·
        refine lv_iload_n hx hb d_M_sizeOf_23 rfl (lv_at hl 2 rfl) ?_
        refine lv_bipush (v := 8) hx hb d_M_sizeOf_24 z_bi8 ?_
        refine lv_iadd hx hb d_M_sizeOf_26 ?_
        refine lv_aload_n hx hb d_M_sizeOf_27 rfl (lv_at hl 0 rfl) ?_
        refine gf_M_13_21 hF hG d_M_sizeOf_28 ?_
        refine lv_iload_n hx hb d_M_sizeOf_31 rfl (lv_at hl 1 rfl) ?_
        refine z_iald (n := 6) (j := x0.toNatClampNeg) (v := (S.1 23 0 x0.toNatClampNeg)) hF hG z_o23 (z_c23 C ad _ _ _) rfl (z_siz h1 h16) rfl d_M_sizeOf_32 ?_
        refine lv_icmp_ge (tgt := 40) hx hb d_M_sizeOf_33 rfl (fun h33 => ?_) (fun h33 => ?_)
        ·
          refine lv_iconst (v := 1) hx hb d_M_sizeOf_40 z_k1 ?_
          exact z_iret hF hr hlk hG (Eq.symm ((if_neg h1).trans ((if_neg h7).trans ((if_pos h16).trans ((if_pos h33).trans rfl))))) rfl d_M_sizeOf_41
        ·
          refine lv_iconst (v := 2) hx hb d_M_sizeOf_36 z_k2 ?_
          refine lv_goto (tgt := 41) hx hb d_M_sizeOf_37 rfl ?_
          exact z_iret hF hr hlk hG (Eq.symm ((if_neg h1).trans ((if_neg h7).trans ((if_pos h16).trans ((if_neg h33).trans rfl))))) rfl d_M_sizeOf_41
      ·
        refine lv_iconst (v := 0) hx hb d_M_sizeOf_19 z_k0 ?_
        refine lv_goto (tgt := 41) hx hb d_M_sizeOf_20 rfl ?_
        exact z_iret hF hr hlk hG (Eq.symm ((if_neg h1).trans ((if_neg h7).trans ((if_neg h16).trans rfl)))) rfl d_M_sizeOf_41
theorem z_szN {S : z_S} {d p : Int32} : ∃ n : Nat, n ≤ 2 ∧ f_M_sizeOf S d p = nI n := by
  unfold f_M_sizeOf
  repeat' split
  all_goals first | exact ⟨0, by decide, rfl⟩ | exact ⟨1, by decide, rfl⟩ | exact ⟨2, by decide, rfl⟩
theorem z_sz2 {S : z_S} {d p : Int32} : f_M_sizeOf S d p ≤ 2 := by
  obtain ⟨n, hn, e⟩ := z_szN (S := S) (d := d) (p := p)
  rw [e]
  exact nI_le (b := 2) hn (by decide)
theorem z_szn {S : z_S} {d p : Int32} : f_M_sizeOf S d p = nI (f_M_sizeOf S d p).toNatClampNeg := by
  obtain ⟨n, hn, e⟩ := z_szN (S := S) (d := d) (p := p)
  rw [e, nI_clamp (by omega)]
theorem z_szl {S : z_S} {d p : Int32} : (f_M_sizeOf S d p).toNatClampNeg ≤ 2 := by
  obtain ⟨n, hn, e⟩ := z_szN (S := S) (d := d) (p := p)
  rw [e, nI_clamp (by omega)]
  exact hn
theorem z_szl8 {S : z_S} {d p : Int32} : 4 * (f_M_sizeOf S d p).toNatClampNeg ≤ 8 := Nat.mul_le_mul_left 4 z_szl
theorem z_rg6 {x : Int32} (h1 : ¬ x < 0) (h2 : ¬ 5 < x) : vp_in x 6 := by
  rw [vp_in_iff]
  rw [Int32.lt_iff_toInt_lt] at h1 h2
  have h3 : (5 : Int32).toInt = 5 := by decide
  have h4 : (0 : Int32).toInt = 0 := by decide
  omega
theorem z_md1 {x : Int32} (h9 : ¬ x < 1) (h15 : x ≤ 16) : 4 * x = nI (4 * x.toNatClampNeg) := by
  obtain ⟨n, hn, rfl⟩ := z_deN h9 h15
  rw [nI_clamp (by omega)]
  exact pk_mul 4 n
theorem z_md3 {x d h : Int32} (h9 : ¬ x < 1) (h15 : x ≤ 16) (hd : vp_in d 6) (hh : vp_in h 3) : ∀ k : Nat, k < 4 * x.toNatClampNeg → vp_in (384 * h + 64 * d + nI k) 1152 := by
  obtain ⟨n, hn, rfl⟩ := z_deN h9 h15
  rw [nI_clamp (by omega)]
  intro k hk
  obtain ⟨a, ha, rfl⟩ := vp_in_of hh (by decide)
  obtain ⟨q, hq, rfl⟩ := vp_in_of hd (by decide)
  show vp_in (nI 384 * nI a + nI 64 * nI q + nI k) 1152
  rw [pk_mul, pk_mul, nI_add, nI_add]
  exact vp_in_nI (by omega) (by decide)
def f_M_sum (S : z_S) (x0 : Int32) (x1 : Int32) (x2 : Int32) (x3 : Int64) : Int64 := (if (f_M_isHouse x0) = 0 then 0 else (if x2 < 0 then 0 else (if 7 < x2 then 0 else (if (f_M_blocksOf S x1) = 0 then 0 else (if (f_M_sizeOf S x1 x2) ≤ 0 then x3 else (if (f_M_sizeOf S x1 x2) ≤ 1 then (f_M_mix (f_M_mix (f_M_mix (f_M_mix (f_M_mix (f_M_mix x3 x1) (x2 + 0)) (S.1 22 0 (((((384 * x0) + (64 * x1)) + (4 * (x2 + 0))) + 0).toNatClampNeg))) (S.1 22 0 (((((384 * x0) + (64 * x1)) + (4 * (x2 + 0))) + 1).toNatClampNeg))) (S.1 22 0 (((((384 * x0) + (64 * x1)) + (4 * (x2 + 0))) + 2).toNatClampNeg))) (S.1 22 0 (((((384 * x0) + (64 * x1)) + (4 * (x2 + 0))) + 3).toNatClampNeg))) else (f_M_mix (f_M_mix (f_M_mix (f_M_mix (f_M_mix (f_M_mix (f_M_mix (f_M_mix (f_M_mix (f_M_mix (f_M_mix (f_M_mix x3 x1) (x2 + 0)) (S.1 22 0 (((((384 * x0) + (64 * x1)) + (4 * (x2 + 0))) + 0).toNatClampNeg))) (S.1 22 0 (((((384 * x0) + (64 * x1)) + (4 * (x2 + 0))) + 1).toNatClampNeg))) (S.1 22 0 (((((384 * x0) + (64 * x1)) + (4 * (x2 + 0))) + 2).toNatClampNeg))) (S.1 22 0 (((((384 * x0) + (64 * x1)) + (4 * (x2 + 0))) + 3).toNatClampNeg))) x1) (x2 + 8)) (S.1 22 0 (((((384 * x0) + (64 * x1)) + (4 * (x2 + 8))) + 0).toNatClampNeg))) (S.1 22 0 (((((384 * x0) + (64 * x1)) + (4 * (x2 + 8))) + 1).toNatClampNeg))) (S.1 22 0 (((((384 * x0) + (64 * x1)) + (4 * (x2 + 8))) + 2).toNatClampNeg))) (S.1 22 0 (((((384 * x0) + (64 * x1)) + (4 * (x2 + 8))) + 3).toNatClampNeg)))))))))
set_option maxHeartbeats 4000000 in
set_option maxRecDepth 100000 in
theorem c_M_sum (l : Launch) (D : va_G) (C : Nat → ClassId) (ad : Nat → Nat → Nat) (hJ : z_J ad) (S : z_S) (x0 : Int32) (x1 : Int32) (x2 : Int32) (x3 : Int64)  : z_M l y_M_sum b_M_sum 11 (some .long) rm_M_sum D C ad [.ref (ad 21 0), .int x0, .int x1, .int x2, .long x3] S (z_Ql D C ad (f_M_sum S x0 x1 x2 x3) S) := by
  refine z_enter (by decide) (Nat.le_of_ble_eq_true rfl) hJ ?_
  intro p e s m below meth c ls hF hr hlk hl hG
  obtain ⟨hx, hb, hml, hown, hts⟩ := hF.1
  have hl : lv_has ls 11 [(0, .ref (ad 21 0)), (1, .int x0), (2, .int x1), (3, .int x2), (4, .long x3)] := hl
  refine lv_iload_n hx hb d_M_sum_0 rfl (lv_at hl 1 rfl) ?_
  refine kc_M_76 hF (c_M_isHouse l D C ad hF.2.2 _ _ ) hG ⟨Nat.le_of_ble_eq_true rfl, Nat.le_of_ble_eq_true rfl⟩ ⟨Nat.zero_le _, Nat.zero_le _⟩ hl.1 (Nat.le_of_ble_eq_true rfl) d_M_sum_1 (fun H locs hG => ?_)
  refine lv_if_eq (tgt := 25) hx hb d_M_sum_4 rfl (fun h4 => ?_) (fun h4 => ?_)
  ·
    refine lv_lconst (v := 0) hx hb d_M_sum_25 rfl ?_
    exact z_lret hF hr hlk hG (Eq.symm ((if_pos h4).trans rfl)) rfl d_M_sum_26
  ·
    refine lv_iload_n hx hb d_M_sum_7 rfl (lv_at hl 3 rfl) ?_
    refine lv_if_lt (tgt := 25) hx hb d_M_sum_8 rfl (fun h8 => ?_) (fun h8 => ?_)
    ·
      refine lv_lconst (v := 0) hx hb d_M_sum_25 rfl ?_
      exact z_lret hF hr hlk hG (Eq.symm ((if_neg h4).trans ((if_pos h8).trans rfl))) rfl d_M_sum_26
    ·
      refine lv_iload_n hx hb d_M_sum_11 rfl (lv_at hl 3 rfl) ?_
      refine lv_bipush (v := 7) hx hb d_M_sum_12 z_bi7 ?_
      refine lv_icmp_gt (tgt := 25) hx hb d_M_sum_14 rfl (fun h14 => ?_) (fun h14 => ?_)
      ·
        refine lv_lconst (v := 0) hx hb d_M_sum_25 rfl ?_
        exact z_lret hF hr hlk hG (Eq.symm ((if_neg h4).trans ((if_neg h8).trans ((if_pos h14).trans rfl)))) rfl d_M_sum_26
      ·
        refine lv_aload_n hx hb d_M_sum_17 rfl (lv_at hl 0 rfl) ?_
        refine lv_iload_n hx hb d_M_sum_18 rfl (lv_at hl 2 rfl) ?_
        refine kc_M_80 hF (c_M_blocksOf l D C ad hF.2.2 _ _ ) hG ⟨Nat.le_of_ble_eq_true rfl, Nat.le_of_ble_eq_true rfl⟩ ⟨Nat.zero_le _, Nat.zero_le _⟩ hl.1 (Nat.le_of_ble_eq_true rfl) d_M_sum_19 (fun H locs hG => ?_)
        refine lv_if_ne (tgt := 27) hx hb d_M_sum_22 rfl (fun h22 => ?_) (fun h22 => ?_)
        ·
          refine lv_lload hx hb d_M_sum_27 (lv_at hl 4 rfl) ?_
          refine lv_lstore (lv' := [(6, .long x3), (0, .ref (ad 21 0)), (1, .int x0), (2, .int x1), (3, .int x2), (4, .long x3)]) hx hb d_M_sum_29 hl (Nat.le_of_ble_eq_true rfl) rfl (fun ls hl => ?_)
          refine lv_iconst (v := 0) hx hb d_M_sum_31 z_k0 ?_
          refine lv_istore (lv' := [(8, .int 0), (6, .long x3), (0, .ref (ad 21 0)), (1, .int x0), (2, .int x1), (3, .int x2), (4, .long x3)]) hx hb d_M_sum_32 hl (Nat.le_of_ble_eq_true rfl) rfl (fun ls hl => ?_)
          refine lv_iload hx hb d_M_sum_34 (lv_at hl 0 rfl) ?_
          refine lv_aload_n hx hb d_M_sum_36 rfl (lv_at hl 2 rfl) ?_
          refine lv_iload_n hx hb d_M_sum_37 rfl (lv_at hl 4 rfl) ?_
          refine lv_iload_n hx hb d_M_sum_38 rfl (lv_at hl 5 rfl) ?_
          refine kc_M_90 hF (c_M_sizeOf l D C ad hF.2.2 _ _ _ ) hG ⟨Nat.le_of_ble_eq_true rfl, Nat.le_of_ble_eq_true rfl⟩ ⟨Nat.zero_le _, Nat.zero_le _⟩ hl.1 (Nat.le_of_ble_eq_true rfl) d_M_sum_39 (fun H locs hG => ?_)
          refine lv_icmp_ge (tgt := 118) hx hb d_M_sum_42 rfl (fun h42 => ?_) (fun h42 => ?_)
          ·
            refine lv_lload hx hb d_M_sum_118 (lv_at hl 1 rfl) ?_
            exact z_lret hF hr hlk hG (Eq.symm ((if_neg h4).trans ((if_neg h8).trans ((if_neg h14).trans ((if_neg h22).trans ((if_pos h42).trans rfl)))))) rfl d_M_sum_120
          ·
            refine lv_iload_n hx hb d_M_sum_45 rfl (lv_at hl 5 rfl) ?_
            refine lv_bipush (v := 8) hx hb d_M_sum_46 z_bi8 ?_
            refine lv_iload hx hb d_M_sum_48 (lv_at hl 0 rfl) ?_
            refine lv_imul hx hb d_M_sum_50 ?_
            refine z_topi (y := 0) (by decide) ?_
            refine lv_iadd hx hb d_M_sum_51 ?_
            refine lv_istore (lv' := [(9, .int (x2 + 0)), (8, .int 0), (6, .long x3), (0, .ref (ad 21 0)), (1, .int x0), (2, .int x1), (3, .int x2), (4, .long x3)]) hx hb d_M_sum_52 hl (Nat.le_of_ble_eq_true rfl) rfl (fun ls hl => ?_)
            refine lv_lload hx hb d_M_sum_54 (lv_at hl 2 rfl) ?_
            refine lv_iload_n hx hb d_M_sum_56 rfl (lv_at hl 5 rfl) ?_
            refine kc_M_94 hF (c_M_mix l D C ad hF.2.2 _ _ _ ) hG ⟨Nat.le_of_ble_eq_true rfl, Nat.le_of_ble_eq_true rfl⟩ ⟨Nat.zero_le _, Nat.zero_le _⟩ hl.1 (Nat.le_of_ble_eq_true rfl) d_M_sum_57 (fun H locs hG => ?_)
            refine lv_iload hx hb d_M_sum_60 (lv_at hl 0 rfl) ?_
            refine kc_M_94 hF (c_M_mix l D C ad hF.2.2 _ _ _ ) hG ⟨Nat.le_of_ble_eq_true rfl, Nat.le_of_ble_eq_true rfl⟩ ⟨Nat.zero_le _, Nat.zero_le _⟩ hl.1 (Nat.le_of_ble_eq_true rfl) d_M_sum_62 (fun H locs hG => ?_)
            refine lv_lstore (lv' := [(6, .long (f_M_mix (f_M_mix x3 x1) (x2 + 0))), (9, .int (x2 + 0)), (8, .int 0), (0, .ref (ad 21 0)), (1, .int x0), (2, .int x1), (3, .int x2), (4, .long x3)]) hx hb d_M_sum_65 hl (Nat.le_of_ble_eq_true rfl) rfl (fun ls hl => ?_)
            refine lv_iconst (v := 0) hx hb d_M_sum_67 z_k0 ?_
            refine lv_istore (lv' := [(10, .int 0), (6, .long (f_M_mix (f_M_mix x3 x1) (x2 + 0))), (9, .int (x2 + 0)), (8, .int 0), (0, .ref (ad 21 0)), (1, .int x0), (2, .int x1), (3, .int x2), (4, .long x3)]) hx hb d_M_sum_68 hl (Nat.le_of_ble_eq_true rfl) rfl (fun ls hl => ?_)
            refine lv_iload hx hb d_M_sum_70 (lv_at hl 0 rfl) ?_
            refine lv_iconst (v := 4) hx hb d_M_sum_72 z_k4 ?_
            refine lv_icmp_ge (tgt := 112) hx hb d_M_sum_73 rfl (fun h => absurd h (by decide)) (fun _ => ?_)
            refine lv_lload hx hb d_M_sum_76 (lv_at hl 1 rfl) ?_
            refine lv_aload_n hx hb d_M_sum_78 rfl (lv_at hl 4 rfl) ?_
            refine gf_M_7_21 hF hG d_M_sum_79 ?_
            refine lv_sipush (v := 384) hx hb d_M_sum_82 z_si384 ?_
            refine lv_iload_n hx hb d_M_sum_85 rfl (lv_at hl 5 rfl) ?_
            refine lv_imul hx hb d_M_sum_86 ?_
            refine lv_bipush (v := 64) hx hb d_M_sum_87 z_bi64 ?_
            refine lv_iload_n hx hb d_M_sum_89 rfl (lv_at hl 6 rfl) ?_
            refine lv_imul hx hb d_M_sum_90 ?_
            refine lv_iadd hx hb d_M_sum_91 ?_
            refine lv_iconst (v := 4) hx hb d_M_sum_92 z_k4 ?_
            refine lv_iload hx hb d_M_sum_93 (lv_at hl 2 rfl) ?_
            refine lv_imul hx hb d_M_sum_95 ?_
            refine lv_iadd hx hb d_M_sum_96 ?_
            refine lv_iload hx hb d_M_sum_97 (lv_at hl 0 rfl) ?_
            refine lv_iadd hx hb d_M_sum_99 ?_
            refine z_iald (n := 1152) (j := ((((384 * x0) + (64 * x1)) + (4 * (x2 + 0))) + 0).toNatClampNeg) (v := (S.1 22 0 (((((384 * x0) + (64 * x1)) + (4 * (x2 + 0))) + 0).toNatClampNeg))) hF hG z_o22 (z_c22 C ad _ _ _) rfl (z_sma0 (z_mho h4) (z_mbo h22) (z_rg7 h8 h14)) rfl d_M_sum_100 ?_
            refine kc_M_94 hF (c_M_mix l D C ad hF.2.2 _ _ _ ) hG ⟨Nat.le_of_ble_eq_true rfl, Nat.le_of_ble_eq_true rfl⟩ ⟨Nat.zero_le _, Nat.zero_le _⟩ hl.1 (Nat.le_of_ble_eq_true rfl) d_M_sum_101 (fun H locs hG => ?_)
            refine lv_lstore (lv' := [(6, .long (f_M_mix (f_M_mix (f_M_mix x3 x1) (x2 + 0)) (S.1 22 0 (((((384 * x0) + (64 * x1)) + (4 * (x2 + 0))) + 0).toNatClampNeg)))), (10, .int 0), (9, .int (x2 + 0)), (8, .int 0), (0, .ref (ad 21 0)), (1, .int x0), (2, .int x1), (3, .int x2), (4, .long x3)]) hx hb d_M_sum_104 hl (Nat.le_of_ble_eq_true rfl) rfl (fun ls hl => ?_)
            refine lv_iinc (k := 1) (v := 1) (lv' := [(10, .int 1), (6, .long (f_M_mix (f_M_mix (f_M_mix x3 x1) (x2 + 0)) (S.1 22 0 (((((384 * x0) + (64 * x1)) + (4 * (x2 + 0))) + 0).toNatClampNeg)))), (9, .int (x2 + 0)), (8, .int 0), (0, .ref (ad 21 0)), (1, .int x0), (2, .int x1), (3, .int x2), (4, .long x3)]) hx hb d_M_sum_106 hl rfl (by decide) (Nat.le_of_ble_eq_true rfl) rfl (fun ls hl => ?_)
            refine lv_goto (tgt := 70) hx hb d_M_sum_109 rfl ?_
            refine lv_iload hx hb d_M_sum_70 (lv_at hl 0 rfl) ?_
            refine lv_iconst (v := 4) hx hb d_M_sum_72 z_k4 ?_
            refine lv_icmp_ge (tgt := 112) hx hb d_M_sum_73 rfl (fun h => absurd h (by decide)) (fun _ => ?_)
            refine lv_lload hx hb d_M_sum_76 (lv_at hl 1 rfl) ?_
            refine lv_aload_n hx hb d_M_sum_78 rfl (lv_at hl 4 rfl) ?_
            refine gf_M_7_21 hF hG d_M_sum_79 ?_
            refine lv_sipush (v := 384) hx hb d_M_sum_82 z_si384 ?_
            refine lv_iload_n hx hb d_M_sum_85 rfl (lv_at hl 5 rfl) ?_
            refine lv_imul hx hb d_M_sum_86 ?_
            refine lv_bipush (v := 64) hx hb d_M_sum_87 z_bi64 ?_
            refine lv_iload_n hx hb d_M_sum_89 rfl (lv_at hl 6 rfl) ?_
            refine lv_imul hx hb d_M_sum_90 ?_
            refine lv_iadd hx hb d_M_sum_91 ?_
            refine lv_iconst (v := 4) hx hb d_M_sum_92 z_k4 ?_
            refine lv_iload hx hb d_M_sum_93 (lv_at hl 2 rfl) ?_
            refine lv_imul hx hb d_M_sum_95 ?_
            refine lv_iadd hx hb d_M_sum_96 ?_
            refine lv_iload hx hb d_M_sum_97 (lv_at hl 0 rfl) ?_
            refine lv_iadd hx hb d_M_sum_99 ?_
            refine z_iald (n := 1152) (j := ((((384 * x0) + (64 * x1)) + (4 * (x2 + 0))) + 1).toNatClampNeg) (v := (S.1 22 0 (((((384 * x0) + (64 * x1)) + (4 * (x2 + 0))) + 1).toNatClampNeg))) hF hG z_o22 (z_c22 C ad _ _ _) rfl (z_sma1 (z_mho h4) (z_mbo h22) (z_rg7 h8 h14)) rfl d_M_sum_100 ?_
            refine kc_M_94 hF (c_M_mix l D C ad hF.2.2 _ _ _ ) hG ⟨Nat.le_of_ble_eq_true rfl, Nat.le_of_ble_eq_true rfl⟩ ⟨Nat.zero_le _, Nat.zero_le _⟩ hl.1 (Nat.le_of_ble_eq_true rfl) d_M_sum_101 (fun H locs hG => ?_)
            refine lv_lstore (lv' := [(6, .long (f_M_mix (f_M_mix (f_M_mix (f_M_mix x3 x1) (x2 + 0)) (S.1 22 0 (((((384 * x0) + (64 * x1)) + (4 * (x2 + 0))) + 0).toNatClampNeg))) (S.1 22 0 (((((384 * x0) + (64 * x1)) + (4 * (x2 + 0))) + 1).toNatClampNeg)))), (10, .int 1), (9, .int (x2 + 0)), (8, .int 0), (0, .ref (ad 21 0)), (1, .int x0), (2, .int x1), (3, .int x2), (4, .long x3)]) hx hb d_M_sum_104 hl (Nat.le_of_ble_eq_true rfl) rfl (fun ls hl => ?_)
            refine lv_iinc (k := 1) (v := 2) (lv' := [(10, .int 2), (6, .long (f_M_mix (f_M_mix (f_M_mix (f_M_mix x3 x1) (x2 + 0)) (S.1 22 0 (((((384 * x0) + (64 * x1)) + (4 * (x2 + 0))) + 0).toNatClampNeg))) (S.1 22 0 (((((384 * x0) + (64 * x1)) + (4 * (x2 + 0))) + 1).toNatClampNeg)))), (9, .int (x2 + 0)), (8, .int 0), (0, .ref (ad 21 0)), (1, .int x0), (2, .int x1), (3, .int x2), (4, .long x3)]) hx hb d_M_sum_106 hl rfl (by decide) (Nat.le_of_ble_eq_true rfl) rfl (fun ls hl => ?_)
            refine lv_goto (tgt := 70) hx hb d_M_sum_109 rfl ?_
            refine lv_iload hx hb d_M_sum_70 (lv_at hl 0 rfl) ?_
            refine lv_iconst (v := 4) hx hb d_M_sum_72 z_k4 ?_
            refine lv_icmp_ge (tgt := 112) hx hb d_M_sum_73 rfl (fun h => absurd h (by decide)) (fun _ => ?_)
            refine lv_lload hx hb d_M_sum_76 (lv_at hl 1 rfl) ?_
            refine lv_aload_n hx hb d_M_sum_78 rfl (lv_at hl 4 rfl) ?_
            refine gf_M_7_21 hF hG d_M_sum_79 ?_
            refine lv_sipush (v := 384) hx hb d_M_sum_82 z_si384 ?_
            refine lv_iload_n hx hb d_M_sum_85 rfl (lv_at hl 5 rfl) ?_
            refine lv_imul hx hb d_M_sum_86 ?_
            refine lv_bipush (v := 64) hx hb d_M_sum_87 z_bi64 ?_
            refine lv_iload_n hx hb d_M_sum_89 rfl (lv_at hl 6 rfl) ?_
            refine lv_imul hx hb d_M_sum_90 ?_
            refine lv_iadd hx hb d_M_sum_91 ?_
            refine lv_iconst (v := 4) hx hb d_M_sum_92 z_k4 ?_
            refine lv_iload hx hb d_M_sum_93 (lv_at hl 2 rfl) ?_
            refine lv_imul hx hb d_M_sum_95 ?_
            refine lv_iadd hx hb d_M_sum_96 ?_
            refine lv_iload hx hb d_M_sum_97 (lv_at hl 0 rfl) ?_
            refine lv_iadd hx hb d_M_sum_99 ?_
            refine z_iald (n := 1152) (j := ((((384 * x0) + (64 * x1)) + (4 * (x2 + 0))) + 2).toNatClampNeg) (v := (S.1 22 0 (((((384 * x0) + (64 * x1)) + (4 * (x2 + 0))) + 2).toNatClampNeg))) hF hG z_o22 (z_c22 C ad _ _ _) rfl (z_sma2 (z_mho h4) (z_mbo h22) (z_rg7 h8 h14)) rfl d_M_sum_100 ?_
            refine kc_M_94 hF (c_M_mix l D C ad hF.2.2 _ _ _ ) hG ⟨Nat.le_of_ble_eq_true rfl, Nat.le_of_ble_eq_true rfl⟩ ⟨Nat.zero_le _, Nat.zero_le _⟩ hl.1 (Nat.le_of_ble_eq_true rfl) d_M_sum_101 (fun H locs hG => ?_)
            refine lv_lstore (lv' := [(6, .long (f_M_mix (f_M_mix (f_M_mix (f_M_mix (f_M_mix x3 x1) (x2 + 0)) (S.1 22 0 (((((384 * x0) + (64 * x1)) + (4 * (x2 + 0))) + 0).toNatClampNeg))) (S.1 22 0 (((((384 * x0) + (64 * x1)) + (4 * (x2 + 0))) + 1).toNatClampNeg))) (S.1 22 0 (((((384 * x0) + (64 * x1)) + (4 * (x2 + 0))) + 2).toNatClampNeg)))), (10, .int 2), (9, .int (x2 + 0)), (8, .int 0), (0, .ref (ad 21 0)), (1, .int x0), (2, .int x1), (3, .int x2), (4, .long x3)]) hx hb d_M_sum_104 hl (Nat.le_of_ble_eq_true rfl) rfl (fun ls hl => ?_)
            refine lv_iinc (k := 1) (v := 3) (lv' := [(10, .int 3), (6, .long (f_M_mix (f_M_mix (f_M_mix (f_M_mix (f_M_mix x3 x1) (x2 + 0)) (S.1 22 0 (((((384 * x0) + (64 * x1)) + (4 * (x2 + 0))) + 0).toNatClampNeg))) (S.1 22 0 (((((384 * x0) + (64 * x1)) + (4 * (x2 + 0))) + 1).toNatClampNeg))) (S.1 22 0 (((((384 * x0) + (64 * x1)) + (4 * (x2 + 0))) + 2).toNatClampNeg)))), (9, .int (x2 + 0)), (8, .int 0), (0, .ref (ad 21 0)), (1, .int x0), (2, .int x1), (3, .int x2), (4, .long x3)]) hx hb d_M_sum_106 hl rfl (by decide) (Nat.le_of_ble_eq_true rfl) rfl (fun ls hl => ?_)
            refine lv_goto (tgt := 70) hx hb d_M_sum_109 rfl ?_
            refine lv_iload hx hb d_M_sum_70 (lv_at hl 0 rfl) ?_
            refine lv_iconst (v := 4) hx hb d_M_sum_72 z_k4 ?_
            refine lv_icmp_ge (tgt := 112) hx hb d_M_sum_73 rfl (fun h => absurd h (by decide)) (fun _ => ?_)
            refine lv_lload hx hb d_M_sum_76 (lv_at hl 1 rfl) ?_
            refine lv_aload_n hx hb d_M_sum_78 rfl (lv_at hl 4 rfl) ?_
            refine gf_M_7_21 hF hG d_M_sum_79 ?_
            refine lv_sipush (v := 384) hx hb d_M_sum_82 z_si384 ?_
            refine lv_iload_n hx hb d_M_sum_85 rfl (lv_at hl 5 rfl) ?_
            refine lv_imul hx hb d_M_sum_86 ?_
            refine lv_bipush (v := 64) hx hb d_M_sum_87 z_bi64 ?_
            refine lv_iload_n hx hb d_M_sum_89 rfl (lv_at hl 6 rfl) ?_
            refine lv_imul hx hb d_M_sum_90 ?_
            refine lv_iadd hx hb d_M_sum_91 ?_
            refine lv_iconst (v := 4) hx hb d_M_sum_92 z_k4 ?_
            refine lv_iload hx hb d_M_sum_93 (lv_at hl 2 rfl) ?_
            refine lv_imul hx hb d_M_sum_95 ?_
            refine lv_iadd hx hb d_M_sum_96 ?_
            refine lv_iload hx hb d_M_sum_97 (lv_at hl 0 rfl) ?_
            refine lv_iadd hx hb d_M_sum_99 ?_
            refine z_iald (n := 1152) (j := ((((384 * x0) + (64 * x1)) + (4 * (x2 + 0))) + 3).toNatClampNeg) (v := (S.1 22 0 (((((384 * x0) + (64 * x1)) + (4 * (x2 + 0))) + 3).toNatClampNeg))) hF hG z_o22 (z_c22 C ad _ _ _) rfl (z_sma3 (z_mho h4) (z_mbo h22) (z_rg7 h8 h14)) rfl d_M_sum_100 ?_
            refine kc_M_94 hF (c_M_mix l D C ad hF.2.2 _ _ _ ) hG ⟨Nat.le_of_ble_eq_true rfl, Nat.le_of_ble_eq_true rfl⟩ ⟨Nat.zero_le _, Nat.zero_le _⟩ hl.1 (Nat.le_of_ble_eq_true rfl) d_M_sum_101 (fun H locs hG => ?_)
            refine lv_lstore (lv' := [(6, .long (f_M_mix (f_M_mix (f_M_mix (f_M_mix (f_M_mix (f_M_mix x3 x1) (x2 + 0)) (S.1 22 0 (((((384 * x0) + (64 * x1)) + (4 * (x2 + 0))) + 0).toNatClampNeg))) (S.1 22 0 (((((384 * x0) + (64 * x1)) + (4 * (x2 + 0))) + 1).toNatClampNeg))) (S.1 22 0 (((((384 * x0) + (64 * x1)) + (4 * (x2 + 0))) + 2).toNatClampNeg))) (S.1 22 0 (((((384 * x0) + (64 * x1)) + (4 * (x2 + 0))) + 3).toNatClampNeg)))), (10, .int 3), (9, .int (x2 + 0)), (8, .int 0), (0, .ref (ad 21 0)), (1, .int x0), (2, .int x1), (3, .int x2), (4, .long x3)]) hx hb d_M_sum_104 hl (Nat.le_of_ble_eq_true rfl) rfl (fun ls hl => ?_)
            refine lv_iinc (k := 1) (v := 4) (lv' := [(10, .int 4), (6, .long (f_M_mix (f_M_mix (f_M_mix (f_M_mix (f_M_mix (f_M_mix x3 x1) (x2 + 0)) (S.1 22 0 (((((384 * x0) + (64 * x1)) + (4 * (x2 + 0))) + 0).toNatClampNeg))) (S.1 22 0 (((((384 * x0) + (64 * x1)) + (4 * (x2 + 0))) + 1).toNatClampNeg))) (S.1 22 0 (((((384 * x0) + (64 * x1)) + (4 * (x2 + 0))) + 2).toNatClampNeg))) (S.1 22 0 (((((384 * x0) + (64 * x1)) + (4 * (x2 + 0))) + 3).toNatClampNeg)))), (9, .int (x2 + 0)), (8, .int 0), (0, .ref (ad 21 0)), (1, .int x0), (2, .int x1), (3, .int x2), (4, .long x3)]) hx hb d_M_sum_106 hl rfl (by decide) (Nat.le_of_ble_eq_true rfl) rfl (fun ls hl => ?_)
            refine lv_goto (tgt := 70) hx hb d_M_sum_109 rfl ?_
            refine lv_iload hx hb d_M_sum_70 (lv_at hl 0 rfl) ?_
            refine lv_iconst (v := 4) hx hb d_M_sum_72 z_k4 ?_
            refine lv_icmp_ge (tgt := 112) hx hb d_M_sum_73 rfl (fun _ => ?_) (fun h => absurd h (by decide))
            refine lv_iinc (k := 3) (v := 1) (lv' := [(8, .int 1), (10, .int 4), (6, .long (f_M_mix (f_M_mix (f_M_mix (f_M_mix (f_M_mix (f_M_mix x3 x1) (x2 + 0)) (S.1 22 0 (((((384 * x0) + (64 * x1)) + (4 * (x2 + 0))) + 0).toNatClampNeg))) (S.1 22 0 (((((384 * x0) + (64 * x1)) + (4 * (x2 + 0))) + 1).toNatClampNeg))) (S.1 22 0 (((((384 * x0) + (64 * x1)) + (4 * (x2 + 0))) + 2).toNatClampNeg))) (S.1 22 0 (((((384 * x0) + (64 * x1)) + (4 * (x2 + 0))) + 3).toNatClampNeg)))), (9, .int (x2 + 0)), (0, .ref (ad 21 0)), (1, .int x0), (2, .int x1), (3, .int x2), (4, .long x3)]) hx hb d_M_sum_112 hl rfl (by decide) (Nat.le_of_ble_eq_true rfl) rfl (fun ls hl => ?_)
            refine lv_goto (tgt := 34) hx hb d_M_sum_115 rfl ?_
            refine lv_iload hx hb d_M_sum_34 (lv_at hl 0 rfl) ?_
            refine lv_aload_n hx hb d_M_sum_36 rfl (lv_at hl 4 rfl) ?_
            refine lv_iload_n hx hb d_M_sum_37 rfl (lv_at hl 6 rfl) ?_
            refine lv_iload_n hx hb d_M_sum_38 rfl (lv_at hl 7 rfl) ?_
            refine kc_M_90 hF (c_M_sizeOf l D C ad hF.2.2 _ _ _ ) hG ⟨Nat.le_of_ble_eq_true rfl, Nat.le_of_ble_eq_true rfl⟩ ⟨Nat.zero_le _, Nat.zero_le _⟩ hl.1 (Nat.le_of_ble_eq_true rfl) d_M_sum_39 (fun H locs hG => ?_)
            refine lv_icmp_ge (tgt := 118) hx hb d_M_sum_42 rfl (fun h42_1 => ?_) (fun h42_1 => ?_)
            ·
              refine lv_lload hx hb d_M_sum_118 (lv_at hl 2 rfl) ?_
              exact z_lret hF hr hlk hG (Eq.symm ((if_neg h4).trans ((if_neg h8).trans ((if_neg h14).trans ((if_neg h22).trans ((if_neg h42).trans ((if_pos h42_1).trans rfl))))))) rfl d_M_sum_120
            ·
              refine lv_iload_n hx hb d_M_sum_45 rfl (lv_at hl 7 rfl) ?_
              refine lv_bipush (v := 8) hx hb d_M_sum_46 z_bi8 ?_
              refine lv_iload hx hb d_M_sum_48 (lv_at hl 0 rfl) ?_
              refine lv_imul hx hb d_M_sum_50 ?_
              refine z_topi (y := 8) (by decide) ?_
              refine lv_iadd hx hb d_M_sum_51 ?_
              refine lv_istore (lv' := [(9, .int (x2 + 8)), (8, .int 1), (10, .int 4), (6, .long (f_M_mix (f_M_mix (f_M_mix (f_M_mix (f_M_mix (f_M_mix x3 x1) (x2 + 0)) (S.1 22 0 (((((384 * x0) + (64 * x1)) + (4 * (x2 + 0))) + 0).toNatClampNeg))) (S.1 22 0 (((((384 * x0) + (64 * x1)) + (4 * (x2 + 0))) + 1).toNatClampNeg))) (S.1 22 0 (((((384 * x0) + (64 * x1)) + (4 * (x2 + 0))) + 2).toNatClampNeg))) (S.1 22 0 (((((384 * x0) + (64 * x1)) + (4 * (x2 + 0))) + 3).toNatClampNeg)))), (0, .ref (ad 21 0)), (1, .int x0), (2, .int x1), (3, .int x2), (4, .long x3)]) hx hb d_M_sum_52 hl (Nat.le_of_ble_eq_true rfl) rfl (fun ls hl => ?_)
              refine lv_lload hx hb d_M_sum_54 (lv_at hl 3 rfl) ?_
              refine lv_iload_n hx hb d_M_sum_56 rfl (lv_at hl 6 rfl) ?_
              refine kc_M_94 hF (c_M_mix l D C ad hF.2.2 _ _ _ ) hG ⟨Nat.le_of_ble_eq_true rfl, Nat.le_of_ble_eq_true rfl⟩ ⟨Nat.zero_le _, Nat.zero_le _⟩ hl.1 (Nat.le_of_ble_eq_true rfl) d_M_sum_57 (fun H locs hG => ?_)
              refine lv_iload hx hb d_M_sum_60 (lv_at hl 0 rfl) ?_
              refine kc_M_94 hF (c_M_mix l D C ad hF.2.2 _ _ _ ) hG ⟨Nat.le_of_ble_eq_true rfl, Nat.le_of_ble_eq_true rfl⟩ ⟨Nat.zero_le _, Nat.zero_le _⟩ hl.1 (Nat.le_of_ble_eq_true rfl) d_M_sum_62 (fun H locs hG => ?_)
              refine lv_lstore (lv' := [(6, .long (f_M_mix (f_M_mix (f_M_mix (f_M_mix (f_M_mix (f_M_mix (f_M_mix (f_M_mix x3 x1) (x2 + 0)) (S.1 22 0 (((((384 * x0) + (64 * x1)) + (4 * (x2 + 0))) + 0).toNatClampNeg))) (S.1 22 0 (((((384 * x0) + (64 * x1)) + (4 * (x2 + 0))) + 1).toNatClampNeg))) (S.1 22 0 (((((384 * x0) + (64 * x1)) + (4 * (x2 + 0))) + 2).toNatClampNeg))) (S.1 22 0 (((((384 * x0) + (64 * x1)) + (4 * (x2 + 0))) + 3).toNatClampNeg))) x1) (x2 + 8))), (9, .int (x2 + 8)), (8, .int 1), (10, .int 4), (0, .ref (ad 21 0)), (1, .int x0), (2, .int x1), (3, .int x2), (4, .long x3)]) hx hb d_M_sum_65 hl (Nat.le_of_ble_eq_true rfl) rfl (fun ls hl => ?_)
              refine lv_iconst (v := 0) hx hb d_M_sum_67 z_k0 ?_
              refine lv_istore (lv' := [(10, .int 0), (6, .long (f_M_mix (f_M_mix (f_M_mix (f_M_mix (f_M_mix (f_M_mix (f_M_mix (f_M_mix x3 x1) (x2 + 0)) (S.1 22 0 (((((384 * x0) + (64 * x1)) + (4 * (x2 + 0))) + 0).toNatClampNeg))) (S.1 22 0 (((((384 * x0) + (64 * x1)) + (4 * (x2 + 0))) + 1).toNatClampNeg))) (S.1 22 0 (((((384 * x0) + (64 * x1)) + (4 * (x2 + 0))) + 2).toNatClampNeg))) (S.1 22 0 (((((384 * x0) + (64 * x1)) + (4 * (x2 + 0))) + 3).toNatClampNeg))) x1) (x2 + 8))), (9, .int (x2 + 8)), (8, .int 1), (0, .ref (ad 21 0)), (1, .int x0), (2, .int x1), (3, .int x2), (4, .long x3)]) hx hb d_M_sum_68 hl (Nat.le_of_ble_eq_true rfl) rfl (fun ls hl => ?_)
              refine lv_iload hx hb d_M_sum_70 (lv_at hl 0 rfl) ?_
              refine lv_iconst (v := 4) hx hb d_M_sum_72 z_k4 ?_
              refine lv_icmp_ge (tgt := 112) hx hb d_M_sum_73 rfl (fun h => absurd h (by decide)) (fun _ => ?_)
              refine lv_lload hx hb d_M_sum_76 (lv_at hl 1 rfl) ?_
              refine lv_aload_n hx hb d_M_sum_78 rfl (lv_at hl 4 rfl) ?_
              refine gf_M_7_21 hF hG d_M_sum_79 ?_
              refine lv_sipush (v := 384) hx hb d_M_sum_82 z_si384 ?_
              refine lv_iload_n hx hb d_M_sum_85 rfl (lv_at hl 5 rfl) ?_
              refine lv_imul hx hb d_M_sum_86 ?_
              refine lv_bipush (v := 64) hx hb d_M_sum_87 z_bi64 ?_
              refine lv_iload_n hx hb d_M_sum_89 rfl (lv_at hl 6 rfl) ?_
              refine lv_imul hx hb d_M_sum_90 ?_
              refine lv_iadd hx hb d_M_sum_91 ?_
              refine lv_iconst (v := 4) hx hb d_M_sum_92 z_k4 ?_
              refine lv_iload hx hb d_M_sum_93 (lv_at hl 2 rfl) ?_
              refine lv_imul hx hb d_M_sum_95 ?_
              refine lv_iadd hx hb d_M_sum_96 ?_
              refine lv_iload hx hb d_M_sum_97 (lv_at hl 0 rfl) ?_
              refine lv_iadd hx hb d_M_sum_99 ?_
              refine z_iald (n := 1152) (j := ((((384 * x0) + (64 * x1)) + (4 * (x2 + 8))) + 0).toNatClampNeg) (v := (S.1 22 0 (((((384 * x0) + (64 * x1)) + (4 * (x2 + 8))) + 0).toNatClampNeg))) hF hG z_o22 (z_c22 C ad _ _ _) rfl (z_smb0 (z_mho h4) (z_mbo h22) (z_rg7 h8 h14)) rfl d_M_sum_100 ?_
              refine kc_M_94 hF (c_M_mix l D C ad hF.2.2 _ _ _ ) hG ⟨Nat.le_of_ble_eq_true rfl, Nat.le_of_ble_eq_true rfl⟩ ⟨Nat.zero_le _, Nat.zero_le _⟩ hl.1 (Nat.le_of_ble_eq_true rfl) d_M_sum_101 (fun H locs hG => ?_)
              refine lv_lstore (lv' := [(6, .long (f_M_mix (f_M_mix (f_M_mix (f_M_mix (f_M_mix (f_M_mix (f_M_mix (f_M_mix (f_M_mix x3 x1) (x2 + 0)) (S.1 22 0 (((((384 * x0) + (64 * x1)) + (4 * (x2 + 0))) + 0).toNatClampNeg))) (S.1 22 0 (((((384 * x0) + (64 * x1)) + (4 * (x2 + 0))) + 1).toNatClampNeg))) (S.1 22 0 (((((384 * x0) + (64 * x1)) + (4 * (x2 + 0))) + 2).toNatClampNeg))) (S.1 22 0 (((((384 * x0) + (64 * x1)) + (4 * (x2 + 0))) + 3).toNatClampNeg))) x1) (x2 + 8)) (S.1 22 0 (((((384 * x0) + (64 * x1)) + (4 * (x2 + 8))) + 0).toNatClampNeg)))), (10, .int 0), (9, .int (x2 + 8)), (8, .int 1), (0, .ref (ad 21 0)), (1, .int x0), (2, .int x1), (3, .int x2), (4, .long x3)]) hx hb d_M_sum_104 hl (Nat.le_of_ble_eq_true rfl) rfl (fun ls hl => ?_)
              refine lv_iinc (k := 1) (v := 1) (lv' := [(10, .int 1), (6, .long (f_M_mix (f_M_mix (f_M_mix (f_M_mix (f_M_mix (f_M_mix (f_M_mix (f_M_mix (f_M_mix x3 x1) (x2 + 0)) (S.1 22 0 (((((384 * x0) + (64 * x1)) + (4 * (x2 + 0))) + 0).toNatClampNeg))) (S.1 22 0 (((((384 * x0) + (64 * x1)) + (4 * (x2 + 0))) + 1).toNatClampNeg))) (S.1 22 0 (((((384 * x0) + (64 * x1)) + (4 * (x2 + 0))) + 2).toNatClampNeg))) (S.1 22 0 (((((384 * x0) + (64 * x1)) + (4 * (x2 + 0))) + 3).toNatClampNeg))) x1) (x2 + 8)) (S.1 22 0 (((((384 * x0) + (64 * x1)) + (4 * (x2 + 8))) + 0).toNatClampNeg)))), (9, .int (x2 + 8)), (8, .int 1), (0, .ref (ad 21 0)), (1, .int x0), (2, .int x1), (3, .int x2), (4, .long x3)]) hx hb d_M_sum_106 hl rfl (by decide) (Nat.le_of_ble_eq_true rfl) rfl (fun ls hl => ?_)
              refine lv_goto (tgt := 70) hx hb d_M_sum_109 rfl ?_
              refine lv_iload hx hb d_M_sum_70 (lv_at hl 0 rfl) ?_
              refine lv_iconst (v := 4) hx hb d_M_sum_72 z_k4 ?_
              refine lv_icmp_ge (tgt := 112) hx hb d_M_sum_73 rfl (fun h => absurd h (by decide)) (fun _ => ?_)
              refine lv_lload hx hb d_M_sum_76 (lv_at hl 1 rfl) ?_
              refine lv_aload_n hx hb d_M_sum_78 rfl (lv_at hl 4 rfl) ?_
              refine gf_M_7_21 hF hG d_M_sum_79 ?_
              refine lv_sipush (v := 384) hx hb d_M_sum_82 z_si384 ?_
              refine lv_iload_n hx hb d_M_sum_85 rfl (lv_at hl 5 rfl) ?_
              refine lv_imul hx hb d_M_sum_86 ?_
              refine lv_bipush (v := 64) hx hb d_M_sum_87 z_bi64 ?_
              refine lv_iload_n hx hb d_M_sum_89 rfl (lv_at hl 6 rfl) ?_
              refine lv_imul hx hb d_M_sum_90 ?_
              refine lv_iadd hx hb d_M_sum_91 ?_
              refine lv_iconst (v := 4) hx hb d_M_sum_92 z_k4 ?_
              refine lv_iload hx hb d_M_sum_93 (lv_at hl 2 rfl) ?_
              refine lv_imul hx hb d_M_sum_95 ?_
              refine lv_iadd hx hb d_M_sum_96 ?_
              refine lv_iload hx hb d_M_sum_97 (lv_at hl 0 rfl) ?_
              refine lv_iadd hx hb d_M_sum_99 ?_
              refine z_iald (n := 1152) (j := ((((384 * x0) + (64 * x1)) + (4 * (x2 + 8))) + 1).toNatClampNeg) (v := (S.1 22 0 (((((384 * x0) + (64 * x1)) + (4 * (x2 + 8))) + 1).toNatClampNeg))) hF hG z_o22 (z_c22 C ad _ _ _) rfl (z_smb1 (z_mho h4) (z_mbo h22) (z_rg7 h8 h14)) rfl d_M_sum_100 ?_
              refine kc_M_94 hF (c_M_mix l D C ad hF.2.2 _ _ _ ) hG ⟨Nat.le_of_ble_eq_true rfl, Nat.le_of_ble_eq_true rfl⟩ ⟨Nat.zero_le _, Nat.zero_le _⟩ hl.1 (Nat.le_of_ble_eq_true rfl) d_M_sum_101 (fun H locs hG => ?_)
              refine lv_lstore (lv' := [(6, .long (f_M_mix (f_M_mix (f_M_mix (f_M_mix (f_M_mix (f_M_mix (f_M_mix (f_M_mix (f_M_mix (f_M_mix x3 x1) (x2 + 0)) (S.1 22 0 (((((384 * x0) + (64 * x1)) + (4 * (x2 + 0))) + 0).toNatClampNeg))) (S.1 22 0 (((((384 * x0) + (64 * x1)) + (4 * (x2 + 0))) + 1).toNatClampNeg))) (S.1 22 0 (((((384 * x0) + (64 * x1)) + (4 * (x2 + 0))) + 2).toNatClampNeg))) (S.1 22 0 (((((384 * x0) + (64 * x1)) + (4 * (x2 + 0))) + 3).toNatClampNeg))) x1) (x2 + 8)) (S.1 22 0 (((((384 * x0) + (64 * x1)) + (4 * (x2 + 8))) + 0).toNatClampNeg))) (S.1 22 0 (((((384 * x0) + (64 * x1)) + (4 * (x2 + 8))) + 1).toNatClampNeg)))), (10, .int 1), (9, .int (x2 + 8)), (8, .int 1), (0, .ref (ad 21 0)), (1, .int x0), (2, .int x1), (3, .int x2), (4, .long x3)]) hx hb d_M_sum_104 hl (Nat.le_of_ble_eq_true rfl) rfl (fun ls hl => ?_)
              refine lv_iinc (k := 1) (v := 2) (lv' := [(10, .int 2), (6, .long (f_M_mix (f_M_mix (f_M_mix (f_M_mix (f_M_mix (f_M_mix (f_M_mix (f_M_mix (f_M_mix (f_M_mix x3 x1) (x2 + 0)) (S.1 22 0 (((((384 * x0) + (64 * x1)) + (4 * (x2 + 0))) + 0).toNatClampNeg))) (S.1 22 0 (((((384 * x0) + (64 * x1)) + (4 * (x2 + 0))) + 1).toNatClampNeg))) (S.1 22 0 (((((384 * x0) + (64 * x1)) + (4 * (x2 + 0))) + 2).toNatClampNeg))) (S.1 22 0 (((((384 * x0) + (64 * x1)) + (4 * (x2 + 0))) + 3).toNatClampNeg))) x1) (x2 + 8)) (S.1 22 0 (((((384 * x0) + (64 * x1)) + (4 * (x2 + 8))) + 0).toNatClampNeg))) (S.1 22 0 (((((384 * x0) + (64 * x1)) + (4 * (x2 + 8))) + 1).toNatClampNeg)))), (9, .int (x2 + 8)), (8, .int 1), (0, .ref (ad 21 0)), (1, .int x0), (2, .int x1), (3, .int x2), (4, .long x3)]) hx hb d_M_sum_106 hl rfl (by decide) (Nat.le_of_ble_eq_true rfl) rfl (fun ls hl => ?_)
              refine lv_goto (tgt := 70) hx hb d_M_sum_109 rfl ?_
              refine lv_iload hx hb d_M_sum_70 (lv_at hl 0 rfl) ?_
              refine lv_iconst (v := 4) hx hb d_M_sum_72 z_k4 ?_
              refine lv_icmp_ge (tgt := 112) hx hb d_M_sum_73 rfl (fun h => absurd h (by decide)) (fun _ => ?_)
              refine lv_lload hx hb d_M_sum_76 (lv_at hl 1 rfl) ?_
              refine lv_aload_n hx hb d_M_sum_78 rfl (lv_at hl 4 rfl) ?_
              refine gf_M_7_21 hF hG d_M_sum_79 ?_
              refine lv_sipush (v := 384) hx hb d_M_sum_82 z_si384 ?_
              refine lv_iload_n hx hb d_M_sum_85 rfl (lv_at hl 5 rfl) ?_
              refine lv_imul hx hb d_M_sum_86 ?_
              refine lv_bipush (v := 64) hx hb d_M_sum_87 z_bi64 ?_
              refine lv_iload_n hx hb d_M_sum_89 rfl (lv_at hl 6 rfl) ?_
              refine lv_imul hx hb d_M_sum_90 ?_
              refine lv_iadd hx hb d_M_sum_91 ?_
              refine lv_iconst (v := 4) hx hb d_M_sum_92 z_k4 ?_
              refine lv_iload hx hb d_M_sum_93 (lv_at hl 2 rfl) ?_
              refine lv_imul hx hb d_M_sum_95 ?_
              refine lv_iadd hx hb d_M_sum_96 ?_
              refine lv_iload hx hb d_M_sum_97 (lv_at hl 0 rfl) ?_
              refine lv_iadd hx hb d_M_sum_99 ?_
              refine z_iald (n := 1152) (j := ((((384 * x0) + (64 * x1)) + (4 * (x2 + 8))) + 2).toNatClampNeg) (v := (S.1 22 0 (((((384 * x0) + (64 * x1)) + (4 * (x2 + 8))) + 2).toNatClampNeg))) hF hG z_o22 (z_c22 C ad _ _ _) rfl (z_smb2 (z_mho h4) (z_mbo h22) (z_rg7 h8 h14)) rfl d_M_sum_100 ?_
              refine kc_M_94 hF (c_M_mix l D C ad hF.2.2 _ _ _ ) hG ⟨Nat.le_of_ble_eq_true rfl, Nat.le_of_ble_eq_true rfl⟩ ⟨Nat.zero_le _, Nat.zero_le _⟩ hl.1 (Nat.le_of_ble_eq_true rfl) d_M_sum_101 (fun H locs hG => ?_)
              refine lv_lstore (lv' := [(6, .long (f_M_mix (f_M_mix (f_M_mix (f_M_mix (f_M_mix (f_M_mix (f_M_mix (f_M_mix (f_M_mix (f_M_mix (f_M_mix x3 x1) (x2 + 0)) (S.1 22 0 (((((384 * x0) + (64 * x1)) + (4 * (x2 + 0))) + 0).toNatClampNeg))) (S.1 22 0 (((((384 * x0) + (64 * x1)) + (4 * (x2 + 0))) + 1).toNatClampNeg))) (S.1 22 0 (((((384 * x0) + (64 * x1)) + (4 * (x2 + 0))) + 2).toNatClampNeg))) (S.1 22 0 (((((384 * x0) + (64 * x1)) + (4 * (x2 + 0))) + 3).toNatClampNeg))) x1) (x2 + 8)) (S.1 22 0 (((((384 * x0) + (64 * x1)) + (4 * (x2 + 8))) + 0).toNatClampNeg))) (S.1 22 0 (((((384 * x0) + (64 * x1)) + (4 * (x2 + 8))) + 1).toNatClampNeg))) (S.1 22 0 (((((384 * x0) + (64 * x1)) + (4 * (x2 + 8))) + 2).toNatClampNeg)))), (10, .int 2), (9, .int (x2 + 8)), (8, .int 1), (0, .ref (ad 21 0)), (1, .int x0), (2, .int x1), (3, .int x2), (4, .long x3)]) hx hb d_M_sum_104 hl (Nat.le_of_ble_eq_true rfl) rfl (fun ls hl => ?_)
              refine lv_iinc (k := 1) (v := 3) (lv' := [(10, .int 3), (6, .long (f_M_mix (f_M_mix (f_M_mix (f_M_mix (f_M_mix (f_M_mix (f_M_mix (f_M_mix (f_M_mix (f_M_mix (f_M_mix x3 x1) (x2 + 0)) (S.1 22 0 (((((384 * x0) + (64 * x1)) + (4 * (x2 + 0))) + 0).toNatClampNeg))) (S.1 22 0 (((((384 * x0) + (64 * x1)) + (4 * (x2 + 0))) + 1).toNatClampNeg))) (S.1 22 0 (((((384 * x0) + (64 * x1)) + (4 * (x2 + 0))) + 2).toNatClampNeg))) (S.1 22 0 (((((384 * x0) + (64 * x1)) + (4 * (x2 + 0))) + 3).toNatClampNeg))) x1) (x2 + 8)) (S.1 22 0 (((((384 * x0) + (64 * x1)) + (4 * (x2 + 8))) + 0).toNatClampNeg))) (S.1 22 0 (((((384 * x0) + (64 * x1)) + (4 * (x2 + 8))) + 1).toNatClampNeg))) (S.1 22 0 (((((384 * x0) + (64 * x1)) + (4 * (x2 + 8))) + 2).toNatClampNeg)))), (9, .int (x2 + 8)), (8, .int 1), (0, .ref (ad 21 0)), (1, .int x0), (2, .int x1), (3, .int x2), (4, .long x3)]) hx hb d_M_sum_106 hl rfl (by decide) (Nat.le_of_ble_eq_true rfl) rfl (fun ls hl => ?_)
              refine lv_goto (tgt := 70) hx hb d_M_sum_109 rfl ?_
              refine lv_iload hx hb d_M_sum_70 (lv_at hl 0 rfl) ?_
              refine lv_iconst (v := 4) hx hb d_M_sum_72 z_k4 ?_
              refine lv_icmp_ge (tgt := 112) hx hb d_M_sum_73 rfl (fun h => absurd h (by decide)) (fun _ => ?_)
              refine lv_lload hx hb d_M_sum_76 (lv_at hl 1 rfl) ?_
              refine lv_aload_n hx hb d_M_sum_78 rfl (lv_at hl 4 rfl) ?_
              refine gf_M_7_21 hF hG d_M_sum_79 ?_
              refine lv_sipush (v := 384) hx hb d_M_sum_82 z_si384 ?_
              refine lv_iload_n hx hb d_M_sum_85 rfl (lv_at hl 5 rfl) ?_
              refine lv_imul hx hb d_M_sum_86 ?_
              refine lv_bipush (v := 64) hx hb d_M_sum_87 z_bi64 ?_
              refine lv_iload_n hx hb d_M_sum_89 rfl (lv_at hl 6 rfl) ?_
              refine lv_imul hx hb d_M_sum_90 ?_
              refine lv_iadd hx hb d_M_sum_91 ?_
              refine lv_iconst (v := 4) hx hb d_M_sum_92 z_k4 ?_
              refine lv_iload hx hb d_M_sum_93 (lv_at hl 2 rfl) ?_
              refine lv_imul hx hb d_M_sum_95 ?_
              refine lv_iadd hx hb d_M_sum_96 ?_
              refine lv_iload hx hb d_M_sum_97 (lv_at hl 0 rfl) ?_
              refine lv_iadd hx hb d_M_sum_99 ?_
              refine z_iald (n := 1152) (j := ((((384 * x0) + (64 * x1)) + (4 * (x2 + 8))) + 3).toNatClampNeg) (v := (S.1 22 0 (((((384 * x0) + (64 * x1)) + (4 * (x2 + 8))) + 3).toNatClampNeg))) hF hG z_o22 (z_c22 C ad _ _ _) rfl (z_smb3 (z_mho h4) (z_mbo h22) (z_rg7 h8 h14)) rfl d_M_sum_100 ?_
              refine kc_M_94 hF (c_M_mix l D C ad hF.2.2 _ _ _ ) hG ⟨Nat.le_of_ble_eq_true rfl, Nat.le_of_ble_eq_true rfl⟩ ⟨Nat.zero_le _, Nat.zero_le _⟩ hl.1 (Nat.le_of_ble_eq_true rfl) d_M_sum_101 (fun H locs hG => ?_)
              refine lv_lstore (lv' := [(6, .long (f_M_mix (f_M_mix (f_M_mix (f_M_mix (f_M_mix (f_M_mix (f_M_mix (f_M_mix (f_M_mix (f_M_mix (f_M_mix (f_M_mix x3 x1) (x2 + 0)) (S.1 22 0 (((((384 * x0) + (64 * x1)) + (4 * (x2 + 0))) + 0).toNatClampNeg))) (S.1 22 0 (((((384 * x0) + (64 * x1)) + (4 * (x2 + 0))) + 1).toNatClampNeg))) (S.1 22 0 (((((384 * x0) + (64 * x1)) + (4 * (x2 + 0))) + 2).toNatClampNeg))) (S.1 22 0 (((((384 * x0) + (64 * x1)) + (4 * (x2 + 0))) + 3).toNatClampNeg))) x1) (x2 + 8)) (S.1 22 0 (((((384 * x0) + (64 * x1)) + (4 * (x2 + 8))) + 0).toNatClampNeg))) (S.1 22 0 (((((384 * x0) + (64 * x1)) + (4 * (x2 + 8))) + 1).toNatClampNeg))) (S.1 22 0 (((((384 * x0) + (64 * x1)) + (4 * (x2 + 8))) + 2).toNatClampNeg))) (S.1 22 0 (((((384 * x0) + (64 * x1)) + (4 * (x2 + 8))) + 3).toNatClampNeg)))), (10, .int 3), (9, .int (x2 + 8)), (8, .int 1), (0, .ref (ad 21 0)), (1, .int x0), (2, .int x1), (3, .int x2), (4, .long x3)]) hx hb d_M_sum_104 hl (Nat.le_of_ble_eq_true rfl) rfl (fun ls hl => ?_)
              refine lv_iinc (k := 1) (v := 4) (lv' := [(10, .int 4), (6, .long (f_M_mix (f_M_mix (f_M_mix (f_M_mix (f_M_mix (f_M_mix (f_M_mix (f_M_mix (f_M_mix (f_M_mix (f_M_mix (f_M_mix x3 x1) (x2 + 0)) (S.1 22 0 (((((384 * x0) + (64 * x1)) + (4 * (x2 + 0))) + 0).toNatClampNeg))) (S.1 22 0 (((((384 * x0) + (64 * x1)) + (4 * (x2 + 0))) + 1).toNatClampNeg))) (S.1 22 0 (((((384 * x0) + (64 * x1)) + (4 * (x2 + 0))) + 2).toNatClampNeg))) (S.1 22 0 (((((384 * x0) + (64 * x1)) + (4 * (x2 + 0))) + 3).toNatClampNeg))) x1) (x2 + 8)) (S.1 22 0 (((((384 * x0) + (64 * x1)) + (4 * (x2 + 8))) + 0).toNatClampNeg))) (S.1 22 0 (((((384 * x0) + (64 * x1)) + (4 * (x2 + 8))) + 1).toNatClampNeg))) (S.1 22 0 (((((384 * x0) + (64 * x1)) + (4 * (x2 + 8))) + 2).toNatClampNeg))) (S.1 22 0 (((((384 * x0) + (64 * x1)) + (4 * (x2 + 8))) + 3).toNatClampNeg)))), (9, .int (x2 + 8)), (8, .int 1), (0, .ref (ad 21 0)), (1, .int x0), (2, .int x1), (3, .int x2), (4, .long x3)]) hx hb d_M_sum_106 hl rfl (by decide) (Nat.le_of_ble_eq_true rfl) rfl (fun ls hl => ?_)
              refine lv_goto (tgt := 70) hx hb d_M_sum_109 rfl ?_
              refine lv_iload hx hb d_M_sum_70 (lv_at hl 0 rfl) ?_
              refine lv_iconst (v := 4) hx hb d_M_sum_72 z_k4 ?_
              refine lv_icmp_ge (tgt := 112) hx hb d_M_sum_73 rfl (fun _ => ?_) (fun h => absurd h (by decide))
              refine lv_iinc (k := 3) (v := 2) (lv' := [(8, .int 2), (10, .int 4), (6, .long (f_M_mix (f_M_mix (f_M_mix (f_M_mix (f_M_mix (f_M_mix (f_M_mix (f_M_mix (f_M_mix (f_M_mix (f_M_mix (f_M_mix x3 x1) (x2 + 0)) (S.1 22 0 (((((384 * x0) + (64 * x1)) + (4 * (x2 + 0))) + 0).toNatClampNeg))) (S.1 22 0 (((((384 * x0) + (64 * x1)) + (4 * (x2 + 0))) + 1).toNatClampNeg))) (S.1 22 0 (((((384 * x0) + (64 * x1)) + (4 * (x2 + 0))) + 2).toNatClampNeg))) (S.1 22 0 (((((384 * x0) + (64 * x1)) + (4 * (x2 + 0))) + 3).toNatClampNeg))) x1) (x2 + 8)) (S.1 22 0 (((((384 * x0) + (64 * x1)) + (4 * (x2 + 8))) + 0).toNatClampNeg))) (S.1 22 0 (((((384 * x0) + (64 * x1)) + (4 * (x2 + 8))) + 1).toNatClampNeg))) (S.1 22 0 (((((384 * x0) + (64 * x1)) + (4 * (x2 + 8))) + 2).toNatClampNeg))) (S.1 22 0 (((((384 * x0) + (64 * x1)) + (4 * (x2 + 8))) + 3).toNatClampNeg)))), (9, .int (x2 + 8)), (0, .ref (ad 21 0)), (1, .int x0), (2, .int x1), (3, .int x2), (4, .long x3)]) hx hb d_M_sum_112 hl rfl (by decide) (Nat.le_of_ble_eq_true rfl) rfl (fun ls hl => ?_)
              refine lv_goto (tgt := 34) hx hb d_M_sum_115 rfl ?_
              refine lv_iload hx hb d_M_sum_34 (lv_at hl 0 rfl) ?_
              refine lv_aload_n hx hb d_M_sum_36 rfl (lv_at hl 4 rfl) ?_
              refine lv_iload_n hx hb d_M_sum_37 rfl (lv_at hl 6 rfl) ?_
              refine lv_iload_n hx hb d_M_sum_38 rfl (lv_at hl 7 rfl) ?_
              refine kc_M_90 hF (c_M_sizeOf l D C ad hF.2.2 _ _ _ ) hG ⟨Nat.le_of_ble_eq_true rfl, Nat.le_of_ble_eq_true rfl⟩ ⟨Nat.zero_le _, Nat.zero_le _⟩ hl.1 (Nat.le_of_ble_eq_true rfl) d_M_sum_39 (fun H locs hG => ?_)
              refine lv_icmp_ge (tgt := 118) hx hb d_M_sum_42 rfl (fun _ => ?_) (fun h => absurd h (not_not_intro z_sz2))
              refine lv_lload hx hb d_M_sum_118 (lv_at hl 2 rfl) ?_
              exact z_lret hF hr hlk hG (Eq.symm ((if_neg h4).trans ((if_neg h8).trans ((if_neg h14).trans ((if_neg h22).trans ((if_neg h42).trans ((if_neg h42_1).trans rfl))))))) rfl d_M_sum_120
        ·
          refine lv_lconst (v := 0) hx hb d_M_sum_25 rfl ?_
          exact z_lret hF hr hlk hG (Eq.symm ((if_neg h4).trans ((if_neg h8).trans ((if_neg h14).trans ((if_pos h22).trans rfl))))) rfl d_M_sum_26
