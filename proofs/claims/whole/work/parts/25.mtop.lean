def rg_M_decide_28_t0 (S : z_S) (v1 : Int32) (v3 : Int32) (q : Nat) : Int32 := (if v3 = 0 then (if (f_M_alike S v1 0 1 q) = 0 then (if (f_M_alike S v1 0 2 q) = 0 then (if (f_M_alike S v1 1 2 q) = 0 then 1 else 0) else 0) else 0) else 1)
set_option maxHeartbeats 4000000 in
set_option maxRecDepth 100000 in
theorem rg_M_decide_28 {D : va_G} {C : Nat → ClassId} {ad : Nat → Nat → Nat} {S : z_S} {p : Program} {l : Launch} {e : Env} {s : State} {m : MethodId} {args : Array Value} {below : List Frame} {meth : Method} {c : Code} {H H0 : Heap} {locs : List Loc} {Q : State → Prop} {ls : Array Slot} {v1 : Int32} {v2 : Int32} {v3 : Int32} {q : Nat}  (hF : z_F D C ad p m c b_M_decide 8 s args R_M)  (hp : vp_in v1 6) (hq : q < 2) (hG : z_G D C ad H0 S H locs) (hl : lv_has ls 8 [(0, .ref (ad 21 0)), (1, .int v1), (2, .int v2), (3, .int v3), (4, .int (nI q))]) (kk : ∀ (H : Heap) (locs : List Loc) (ls : Array Slot) (t0 : Int32), z_G D C ad H0 S H locs → lv_has ls 8 [(0, .ref (ad 21 0)), (1, .int v1), (2, .int v2), (3, .int v3), (4, .int (nI q))] → rg_M_decide_28_t0 S v1 v3 q = t0 → W p l e rm_M_decide s m args below meth c H locs 0 0 Q (F0 m 73 ls [.int t0])) : W p l e rm_M_decide s m args below meth c H locs 0 0 Q (F0 m 28 ls []) := by
  obtain ⟨hx, hb, hml, hown, hts⟩ := hF.1
  refine lv_iload_n hx hb d_M_decide_28 rfl (lv_at hl 3 rfl) ?_
  refine lv_if_ne (tgt := 68) hx hb d_M_decide_29 rfl (fun h29 => ?_) (fun h29 => ?_)
  ·
    refine lv_iconst (v := 1) hx hb d_M_decide_68 z_k1 ?_
    refine lv_goto (tgt := 73) hx hb d_M_decide_69 rfl ?_
    exact kk _ _ _ _ hG (lv_sub hl [0, 1, 2, 3, 4] rfl) ((if_neg h29).trans rfl)
  ·
    refine lv_aload_n hx hb d_M_decide_32 rfl (lv_at hl 0 rfl) ?_
    refine lv_iload_n hx hb d_M_decide_33 rfl (lv_at hl 1 rfl) ?_
    refine lv_iconst (v := 0) hx hb d_M_decide_34 z_k0 ?_
    refine lv_iconst (v := 1) hx hb d_M_decide_35 z_k1 ?_
    refine lv_iload hx hb d_M_decide_36 (lv_at hl 4 rfl) ?_
    refine kc_M_135 hF (c_M_alike l D C ad hF.2.2 _ _ _ _ _ q rfl hq (z_cp hp z_in0_3) (z_cp hp z_in1_3)) hG ⟨Nat.le_of_ble_eq_true rfl, Nat.le_of_ble_eq_true rfl⟩ ⟨Nat.zero_le _, Nat.zero_le _⟩ hl.1 (Nat.le_of_ble_eq_true rfl) d_M_decide_38 (fun H locs hG => ?_)
    refine lv_if_ne (tgt := 72) hx hb d_M_decide_41 rfl (fun h41 => ?_) (fun h41 => ?_)
    ·
      refine lv_iconst (v := 0) hx hb d_M_decide_72 z_k0 ?_
      exact kk _ _ _ _ hG (lv_sub hl [0, 1, 2, 3, 4] rfl) ((if_pos h29).trans ((if_neg h41).trans rfl))
    ·
      refine lv_aload_n hx hb d_M_decide_44 rfl (lv_at hl 0 rfl) ?_
      refine lv_iload_n hx hb d_M_decide_45 rfl (lv_at hl 1 rfl) ?_
      refine lv_iconst (v := 0) hx hb d_M_decide_46 z_k0 ?_
      refine lv_iconst (v := 2) hx hb d_M_decide_47 z_k2 ?_
      refine lv_iload hx hb d_M_decide_48 (lv_at hl 4 rfl) ?_
      refine kc_M_135 hF (c_M_alike l D C ad hF.2.2 _ _ _ _ _ q rfl hq (z_cp hp z_in0_3) (z_cp hp z_in2_3)) hG ⟨Nat.le_of_ble_eq_true rfl, Nat.le_of_ble_eq_true rfl⟩ ⟨Nat.zero_le _, Nat.zero_le _⟩ hl.1 (Nat.le_of_ble_eq_true rfl) d_M_decide_50 (fun H locs hG => ?_)
      refine lv_if_ne (tgt := 72) hx hb d_M_decide_53 rfl (fun h53 => ?_) (fun h53 => ?_)
      ·
        refine lv_iconst (v := 0) hx hb d_M_decide_72 z_k0 ?_
        exact kk _ _ _ _ hG (lv_sub hl [0, 1, 2, 3, 4] rfl) ((if_pos h29).trans ((if_pos h41).trans ((if_neg h53).trans rfl)))
      ·
        refine lv_aload_n hx hb d_M_decide_56 rfl (lv_at hl 0 rfl) ?_
        refine lv_iload_n hx hb d_M_decide_57 rfl (lv_at hl 1 rfl) ?_
        refine lv_iconst (v := 1) hx hb d_M_decide_58 z_k1 ?_
        refine lv_iconst (v := 2) hx hb d_M_decide_59 z_k2 ?_
        refine lv_iload hx hb d_M_decide_60 (lv_at hl 4 rfl) ?_
        refine kc_M_135 hF (c_M_alike l D C ad hF.2.2 _ _ _ _ _ q rfl hq (z_cp hp z_in1_3) (z_cp hp z_in2_3)) hG ⟨Nat.le_of_ble_eq_true rfl, Nat.le_of_ble_eq_true rfl⟩ ⟨Nat.zero_le _, Nat.zero_le _⟩ hl.1 (Nat.le_of_ble_eq_true rfl) d_M_decide_62 (fun H locs hG => ?_)
        refine lv_if_ne (tgt := 72) hx hb d_M_decide_65 rfl (fun h65 => ?_) (fun h65 => ?_)
        ·
          refine lv_iconst (v := 0) hx hb d_M_decide_72 z_k0 ?_
          exact kk _ _ _ _ hG (lv_sub hl [0, 1, 2, 3, 4] rfl) ((if_pos h29).trans ((if_pos h41).trans ((if_pos h53).trans ((if_neg h65).trans rfl))))
        ·
          refine lv_iconst (v := 1) hx hb d_M_decide_68 z_k1 ?_
          refine lv_goto (tgt := 73) hx hb d_M_decide_69 rfl ?_
          exact kk _ _ _ _ hG (lv_sub hl [0, 1, 2, 3, 4] rfl) ((if_pos h29).trans ((if_pos h41).trans ((if_pos h53).trans ((if_pos h65).trans rfl))))
def rg_M_decide_17_u3 (S : z_S) (v1 : Int32) (v2 : Int32) : Int32 := (if v2 ≤ 0 then 0 else (if v2 ≤ 1 then (rg_M_decide_28_t0 S v1 0 0) else (rg_M_decide_28_t0 S v1 (rg_M_decide_28_t0 S v1 0 0) 1)))
set_option maxHeartbeats 4000000 in
set_option maxRecDepth 100000 in
theorem rg_M_decide_17 {D : va_G} {C : Nat → ClassId} {ad : Nat → Nat → Nat} {S : z_S} {p : Program} {l : Launch} {e : Env} {s : State} {m : MethodId} {args : Array Value} {below : List Frame} {meth : Method} {c : Code} {H H0 : Heap} {locs : List Loc} {Q : State → Prop} {ls : Array Slot} {v1 : Int32} {v2 : Int32}  (hF : z_F D C ad p m c b_M_decide 8 s args R_M)  (hp : vp_in v1 6) (hs3 : v2 ≤ 2) (hG : z_G D C ad H0 S H locs) (hl : lv_has ls 8 [(0, .ref (ad 21 0)), (1, .int v1), (2, .int v2)]) (kk : ∀ (H : Heap) (locs : List Loc) (ls : Array Slot) (u3 : Int32), z_G D C ad H0 S H locs → lv_has ls 8 [(0, .ref (ad 21 0)), (1, .int v1), (2, .int v2), (3, .int u3)] → rg_M_decide_17_u3 S v1 v2 = u3 → W p l e rm_M_decide s m args below meth c H locs 0 0 Q (F0 m 80 ls [])) : W p l e rm_M_decide s m args below meth c H locs 0 0 Q (F0 m 17 ls []) := by
  obtain ⟨hx, hb, hml, hown, hts⟩ := hF.1
  refine lv_iconst (v := 0) hx hb d_M_decide_17 z_k0 ?_
  refine lv_istore_n (lv' := [(3, .int 0), (0, .ref (ad 21 0)), (1, .int v1), (2, .int v2)]) hx hb d_M_decide_18 rfl hl (Nat.le_of_ble_eq_true rfl) rfl (fun ls hl => ?_)
  refine lv_iconst (v := 0) hx hb d_M_decide_19 z_k0 ?_
  refine lv_istore (lv' := [(4, .int 0), (3, .int 0), (0, .ref (ad 21 0)), (1, .int v1), (2, .int v2)]) hx hb d_M_decide_20 hl (Nat.le_of_ble_eq_true rfl) rfl (fun ls hl => ?_)
  refine lv_iload hx hb d_M_decide_22 (lv_at hl 0 rfl) ?_
  refine lv_iload_n hx hb d_M_decide_24 rfl (lv_at hl 4 rfl) ?_
  refine lv_icmp_ge (tgt := 80) hx hb d_M_decide_25 rfl (fun h25 => ?_) (fun h25 => ?_)
  ·
    exact kk _ _ _ _ hG (lv_sub hl [2, 3, 4, 1] rfl) ((if_pos h25).trans rfl)
  ·
    refine rg_M_decide_28 hF  hp (by decide) hG (lv_sub hl [2, 3, 4, 1, 0] rfl) (fun H locs ls t0 hG hl e_t0 => ?_)
    subst e_t0
    refine lv_istore_n (lv' := [(3, .int (rg_M_decide_28_t0 S v1 0 0)), (0, .ref (ad 21 0)), (1, .int v1), (2, .int v2), (4, .int 0)]) hx hb d_M_decide_73 rfl hl (Nat.le_of_ble_eq_true rfl) rfl (fun ls hl => ?_)
    refine lv_iinc (k := 4) (v := 1) (lv' := [(4, .int 1), (3, .int (rg_M_decide_28_t0 S v1 0 0)), (0, .ref (ad 21 0)), (1, .int v1), (2, .int v2)]) hx hb d_M_decide_74 hl rfl (by decide) (Nat.le_of_ble_eq_true rfl) rfl (fun ls hl => ?_)
    refine lv_goto (tgt := 22) hx hb d_M_decide_77 rfl ?_
    refine lv_iload hx hb d_M_decide_22 (lv_at hl 0 rfl) ?_
    refine lv_iload_n hx hb d_M_decide_24 rfl (lv_at hl 4 rfl) ?_
    refine lv_icmp_ge (tgt := 80) hx hb d_M_decide_25 rfl (fun h25_1 => ?_) (fun h25_1 => ?_)
    ·
      exact kk _ _ _ _ hG (lv_sub hl [2, 3, 4, 1] rfl) ((if_neg h25).trans ((if_pos h25_1).trans rfl))
    ·
      refine rg_M_decide_28 hF  hp (by decide) hG (lv_sub hl [2, 3, 4, 1, 0] rfl) (fun H locs ls t0 hG hl e_t0 => ?_)
      subst e_t0
      refine lv_istore_n (lv' := [(3, .int (rg_M_decide_28_t0 S v1 (rg_M_decide_28_t0 S v1 0 0) 1)), (0, .ref (ad 21 0)), (1, .int v1), (2, .int v2), (4, .int 1)]) hx hb d_M_decide_73 rfl hl (Nat.le_of_ble_eq_true rfl) rfl (fun ls hl => ?_)
      refine lv_iinc (k := 4) (v := 2) (lv' := [(4, .int 2), (3, .int (rg_M_decide_28_t0 S v1 (rg_M_decide_28_t0 S v1 0 0) 1)), (0, .ref (ad 21 0)), (1, .int v1), (2, .int v2)]) hx hb d_M_decide_74 hl rfl (by decide) (Nat.le_of_ble_eq_true rfl) rfl (fun ls hl => ?_)
      refine lv_goto (tgt := 22) hx hb d_M_decide_77 rfl ?_
      refine lv_iload hx hb d_M_decide_22 (lv_at hl 0 rfl) ?_
      refine lv_iload_n hx hb d_M_decide_24 rfl (lv_at hl 4 rfl) ?_
      refine lv_icmp_ge (tgt := 80) hx hb d_M_decide_25 rfl (fun _ => ?_) (fun h => absurd h (not_not_intro hs3))
      exact kk _ _ _ _ hG (lv_sub hl [2, 3, 4, 1] rfl) ((if_neg h25).trans ((if_neg h25_1).trans rfl))
def rg_M_decide_92_t0 (S : z_S) (v1 : Int32) (v4 : Int32) (q : Nat) (sz : Nat) : Int32 := (if v4 = 0 then 0 else (if (S.1 24 0 q) = 0 then 0 else (if (f_M_isAsCopied S v1 (nI q) (4 * sz)) = 0 then 0 else 1)))
set_option maxHeartbeats 4000000 in
set_option maxRecDepth 100000 in
theorem rg_M_decide_92 {D : va_G} {C : Nat → ClassId} {ad : Nat → Nat → Nat} {S : z_S} {p : Program} {l : Launch} {e : Env} {s : State} {m : MethodId} {args : Array Value} {below : List Frame} {meth : Method} {c : Code} {H H0 : Heap} {locs : List Loc} {Q : State → Prop} {ls : Array Slot} {v1 : Int32} {v2 : Int32} {v3 : Int32} {v4 : Int32} {q : Nat} {sz : Nat} (hF : z_F D C ad p m c b_M_decide 8 s args R_M)  (hom : z_Om S) (hp : vp_in v1 6) (hq : q < 3) (hsz : v2 = nI sz) (hs2 : sz ≤ 2) (hG : z_G D C ad H0 S H locs) (hl : lv_has ls 8 [(0, .ref (ad 21 0)), (1, .int v1), (2, .int v2), (3, .int v3), (4, .int v4), (5, .int (nI q))]) (kk : ∀ (H : Heap) (locs : List Loc) (ls : Array Slot) (t0 : Int32), z_G D C ad H0 S H locs → lv_has ls 8 [(0, .ref (ad 21 0)), (1, .int v1), (2, .int v2), (3, .int v3), (4, .int v4), (5, .int (nI q))] → rg_M_decide_92_t0 S v1 v4 q sz = t0 → W p l e rm_M_decide s m args below meth c H locs 0 0 Q (F0 m 123 ls [.int t0])) : W p l e rm_M_decide s m args below meth c H locs 0 0 Q (F0 m 92 ls []) := by
  obtain ⟨hx, hb, hml, hown, hts⟩ := hF.1
  refine lv_iload hx hb d_M_decide_92 (lv_at hl 4 rfl) ?_
  refine lv_if_eq (tgt := 122) hx hb d_M_decide_94 rfl (fun h94 => ?_) (fun h94 => ?_)
  ·
    refine lv_iconst (v := 0) hx hb d_M_decide_122 z_k0 ?_
    exact kk _ _ _ _ hG (lv_sub hl [0, 1, 2, 3, 4, 5] rfl) ((if_pos h94).trans rfl)
  ·
    refine lv_aload_n hx hb d_M_decide_97 rfl (lv_at hl 0 rfl) ?_
    refine gf_M_16_21 hF hG d_M_decide_98 ?_
    refine lv_iload hx hb d_M_decide_101 (lv_at hl 5 rfl) ?_
    refine z_zald (n := 3) (j := q) (v := (S.1 24 0 q)) hF hG z_o24 (z_c24 C ad _ _ _) (nI_clamp (by omega)) (vp_in_nI hq (by decide)) rfl d_M_decide_103 ?_
    refine lv_if_eq (tgt := 122) hx hb d_M_decide_104 rfl (fun h104 => ?_) (fun h104 => ?_)
    ·
      refine lv_iconst (v := 0) hx hb d_M_decide_122 z_k0 ?_
      exact kk _ _ _ _ hG (lv_sub hl [0, 1, 2, 3, 4, 5] rfl) ((if_neg h94).trans ((if_pos h104).trans rfl))
    ·
      refine lv_aload_n hx hb d_M_decide_107 rfl (lv_at hl 0 rfl) ?_
      refine lv_iload_n hx hb d_M_decide_108 rfl (lv_at hl 1 rfl) ?_
      refine lv_iload hx hb d_M_decide_109 (lv_at hl 5 rfl) ?_
      refine lv_iload_n hx hb d_M_decide_111 rfl (lv_at hl 2 rfl) ?_
      refine kc_M_139 hF (c_M_isAsCopied l D C ad hF.2.2 _ _ _ _ (4 * sz) hp (z_4n hsz) (by omega) (z_bat hom hp (vp_in_nI hq (by decide)) (by omega)) (fun k hk => z_cp hp (vp_in_nI hq (by decide)) k (by omega))) hG ⟨Nat.le_of_ble_eq_true rfl, Nat.le_of_ble_eq_true rfl⟩ ⟨Nat.zero_le _, Nat.zero_le _⟩ hl.1 (Nat.le_of_ble_eq_true rfl) d_M_decide_112 (fun H locs hG => ?_)
      refine lv_if_eq (tgt := 122) hx hb d_M_decide_115 rfl (fun h115 => ?_) (fun h115 => ?_)
      ·
        refine lv_iconst (v := 0) hx hb d_M_decide_122 z_k0 ?_
        exact kk _ _ _ _ hG (lv_sub hl [0, 1, 2, 3, 4, 5] rfl) ((if_neg h94).trans ((if_neg h104).trans ((if_pos h115).trans rfl)))
      ·
        refine lv_iconst (v := 1) hx hb d_M_decide_118 z_k1 ?_
        refine lv_goto (tgt := 123) hx hb d_M_decide_119 rfl ?_
        exact kk _ _ _ _ hG (lv_sub hl [0, 1, 2, 3, 4, 5] rfl) ((if_neg h94).trans ((if_neg h104).trans ((if_neg h115).trans rfl)))
def rg_M_decide_80_u4 (S : z_S) (v1 : Int32) (sz : Nat) : Int32 := (rg_M_decide_92_t0 S v1 (rg_M_decide_92_t0 S v1 (rg_M_decide_92_t0 S v1 1 0 sz) 1 sz) 2 sz)
set_option maxHeartbeats 4000000 in
set_option maxRecDepth 100000 in
theorem rg_M_decide_80 {D : va_G} {C : Nat → ClassId} {ad : Nat → Nat → Nat} {S : z_S} {p : Program} {l : Launch} {e : Env} {s : State} {m : MethodId} {args : Array Value} {below : List Frame} {meth : Method} {c : Code} {H H0 : Heap} {locs : List Loc} {Q : State → Prop} {ls : Array Slot} {v1 : Int32} {v2 : Int32} {v3 : Int32} {sz : Nat} (hF : z_F D C ad p m c b_M_decide 8 s args R_M)  (hom : z_Om S) (hp : vp_in v1 6) (hsz : v2 = nI sz) (hs2 : sz ≤ 2) (hG : z_G D C ad H0 S H locs) (hl : lv_has ls 8 [(0, .ref (ad 21 0)), (1, .int v1), (2, .int v2), (3, .int v3)]) (kk : ∀ (H : Heap) (locs : List Loc) (ls : Array Slot) (u4 : Int32), z_G D C ad H0 S H locs → lv_has ls 8 [(0, .ref (ad 21 0)), (1, .int v1), (2, .int v2), (3, .int v3), (4, .int u4)] → rg_M_decide_80_u4 S v1 sz = u4 → W p l e rm_M_decide s m args below meth c H locs 0 0 Q (F0 m 131 ls [])) : W p l e rm_M_decide s m args below meth c H locs 0 0 Q (F0 m 80 ls []) := by
  obtain ⟨hx, hb, hml, hown, hts⟩ := hF.1
  refine lv_iconst (v := 1) hx hb d_M_decide_80 z_k1 ?_
  refine lv_istore (lv' := [(4, .int 1), (0, .ref (ad 21 0)), (1, .int v1), (2, .int v2), (3, .int v3)]) hx hb d_M_decide_81 hl (Nat.le_of_ble_eq_true rfl) rfl (fun ls hl => ?_)
  refine lv_iconst (v := 0) hx hb d_M_decide_83 z_k0 ?_
  refine lv_istore (lv' := [(5, .int 0), (4, .int 1), (0, .ref (ad 21 0)), (1, .int v1), (2, .int v2), (3, .int v3)]) hx hb d_M_decide_84 hl (Nat.le_of_ble_eq_true rfl) rfl (fun ls hl => ?_)
  refine lv_iload hx hb d_M_decide_86 (lv_at hl 0 rfl) ?_
  refine lv_iconst (v := 3) hx hb d_M_decide_88 z_k3 ?_
  refine lv_icmp_ge (tgt := 131) hx hb d_M_decide_89 rfl (fun h => absurd h (by decide)) (fun _ => ?_)
  refine rg_M_decide_92 hF  hom hp (by decide) hsz hs2 hG (lv_sub hl [2, 3, 4, 5, 1, 0] rfl) (fun H locs ls t0 hG hl e_t0 => ?_)
  subst e_t0
  refine lv_istore (lv' := [(4, .int (rg_M_decide_92_t0 S v1 1 0 sz)), (0, .ref (ad 21 0)), (1, .int v1), (2, .int v2), (3, .int v3), (5, .int 0)]) hx hb d_M_decide_123 hl (Nat.le_of_ble_eq_true rfl) rfl (fun ls hl => ?_)
  refine lv_iinc (k := 5) (v := 1) (lv' := [(5, .int 1), (4, .int (rg_M_decide_92_t0 S v1 1 0 sz)), (0, .ref (ad 21 0)), (1, .int v1), (2, .int v2), (3, .int v3)]) hx hb d_M_decide_125 hl rfl (by decide) (Nat.le_of_ble_eq_true rfl) rfl (fun ls hl => ?_)
  refine lv_goto (tgt := 86) hx hb d_M_decide_128 rfl ?_
  refine lv_iload hx hb d_M_decide_86 (lv_at hl 0 rfl) ?_
  refine lv_iconst (v := 3) hx hb d_M_decide_88 z_k3 ?_
  refine lv_icmp_ge (tgt := 131) hx hb d_M_decide_89 rfl (fun h => absurd h (by decide)) (fun _ => ?_)
  refine rg_M_decide_92 hF  hom hp (by decide) hsz hs2 hG (lv_sub hl [2, 3, 4, 5, 1, 0] rfl) (fun H locs ls t0 hG hl e_t0 => ?_)
  subst e_t0
  refine lv_istore (lv' := [(4, .int (rg_M_decide_92_t0 S v1 (rg_M_decide_92_t0 S v1 1 0 sz) 1 sz)), (0, .ref (ad 21 0)), (1, .int v1), (2, .int v2), (3, .int v3), (5, .int 1)]) hx hb d_M_decide_123 hl (Nat.le_of_ble_eq_true rfl) rfl (fun ls hl => ?_)
  refine lv_iinc (k := 5) (v := 2) (lv' := [(5, .int 2), (4, .int (rg_M_decide_92_t0 S v1 (rg_M_decide_92_t0 S v1 1 0 sz) 1 sz)), (0, .ref (ad 21 0)), (1, .int v1), (2, .int v2), (3, .int v3)]) hx hb d_M_decide_125 hl rfl (by decide) (Nat.le_of_ble_eq_true rfl) rfl (fun ls hl => ?_)
  refine lv_goto (tgt := 86) hx hb d_M_decide_128 rfl ?_
  refine lv_iload hx hb d_M_decide_86 (lv_at hl 0 rfl) ?_
  refine lv_iconst (v := 3) hx hb d_M_decide_88 z_k3 ?_
  refine lv_icmp_ge (tgt := 131) hx hb d_M_decide_89 rfl (fun h => absurd h (by decide)) (fun _ => ?_)
  refine rg_M_decide_92 hF  hom hp (by decide) hsz hs2 hG (lv_sub hl [2, 3, 4, 5, 1, 0] rfl) (fun H locs ls t0 hG hl e_t0 => ?_)
  subst e_t0
  refine lv_istore (lv' := [(4, .int (rg_M_decide_92_t0 S v1 (rg_M_decide_92_t0 S v1 (rg_M_decide_92_t0 S v1 1 0 sz) 1 sz) 2 sz)), (0, .ref (ad 21 0)), (1, .int v1), (2, .int v2), (3, .int v3), (5, .int 2)]) hx hb d_M_decide_123 hl (Nat.le_of_ble_eq_true rfl) rfl (fun ls hl => ?_)
  refine lv_iinc (k := 5) (v := 3) (lv' := [(5, .int 3), (4, .int (rg_M_decide_92_t0 S v1 (rg_M_decide_92_t0 S v1 (rg_M_decide_92_t0 S v1 1 0 sz) 1 sz) 2 sz)), (0, .ref (ad 21 0)), (1, .int v1), (2, .int v2), (3, .int v3)]) hx hb d_M_decide_125 hl rfl (by decide) (Nat.le_of_ble_eq_true rfl) rfl (fun ls hl => ?_)
  refine lv_goto (tgt := 86) hx hb d_M_decide_128 rfl ?_
  refine lv_iload hx hb d_M_decide_86 (lv_at hl 0 rfl) ?_
  refine lv_iconst (v := 3) hx hb d_M_decide_88 z_k3 ?_
  refine lv_icmp_ge (tgt := 131) hx hb d_M_decide_89 rfl (fun _ => ?_) (fun h => absurd h (by decide))
  exact kk _ _ _ _ hG (lv_sub hl [2, 3, 4, 5, 1] rfl) rfl
def rg_M_decide_237_t0 (v4 : Int32) (s0 : Int32) : Int32 := (if s0 = 0 then (if v4 = 0 then 4 else 2) else 3)
set_option maxHeartbeats 4000000 in
set_option maxRecDepth 100000 in
theorem rg_M_decide_237 {D : va_G} {C : Nat → ClassId} {ad : Nat → Nat → Nat} {S : z_S} {p : Program} {l : Launch} {e : Env} {s : State} {m : MethodId} {args : Array Value} {below : List Frame} {meth : Method} {c : Code} {H H0 : Heap} {locs : List Loc} {Q : State → Prop} {ls : Array Slot} {v1 : Int32} {v2 : Int32} {v3 : Int32} {v4 : Int32} {s0 : Int32} {s1 : Int32}  (hF : z_F D C ad p m c b_M_decide 8 s args R_M)   (hG : z_G D C ad H0 S H locs) (hl : lv_has ls 8 [(0, .ref (ad 21 0)), (1, .int v1), (2, .int v2), (3, .int v3), (4, .int v4)]) (kk : ∀ (H : Heap) (locs : List Loc) (ls : Array Slot) (t0 : Int32), z_G D C ad H0 S H locs → lv_has ls 8 [(0, .ref (ad 21 0)), (1, .int v1), (2, .int v2), (3, .int v3), (4, .int v4)] → rg_M_decide_237_t0 v4 s0 = t0 → W p l e rm_M_decide s m args below meth c H locs 0 0 Q (F0 m 254 ls [.int t0, .int s1, .ref (ad 21 0)])) : W p l e rm_M_decide s m args below meth c H locs 0 0 Q (F0 m 237 ls [.int s0, .int s1, .ref (ad 21 0)]) := by
  obtain ⟨hx, hb, hml, hown, hts⟩ := hF.1
  refine lv_if_eq (tgt := 244) hx hb d_M_decide_237 rfl (fun h237 => ?_) (fun h237 => ?_)
  ·
    refine lv_iload hx hb d_M_decide_244 (lv_at hl 4 rfl) ?_
    refine lv_if_eq (tgt := 253) hx hb d_M_decide_246 rfl (fun h246 => ?_) (fun h246 => ?_)
    ·
      refine lv_iconst (v := 4) hx hb d_M_decide_253 z_k4 ?_
      exact kk _ _ _ _ hG (lv_sub hl [0, 1, 2, 3, 4] rfl) ((if_pos h237).trans ((if_pos h246).trans rfl))
    ·
      refine lv_iconst (v := 2) hx hb d_M_decide_249 z_k2 ?_
      refine lv_goto (tgt := 254) hx hb d_M_decide_250 rfl ?_
      exact kk _ _ _ _ hG (lv_sub hl [0, 1, 2, 3, 4] rfl) ((if_pos h237).trans ((if_neg h246).trans rfl))
  ·
    refine lv_iconst (v := 3) hx hb d_M_decide_240 z_k3 ?_
    refine lv_goto (tgt := 254) hx hb d_M_decide_241 rfl ?_
    exact kk _ _ _ _ hG (lv_sub hl [0, 1, 2, 3, 4] rfl) ((if_neg h237).trans rfl)
def rg_M_decide_149_S1 (S : z_S) (v1 : Int32) (q : Nat) : z_S := (if (f_M_alike S v1 0 1 q) = 0 then (if (f_M_alike S v1 0 2 q) = 0 then (g_M_mend S v1 0 1 q) else (g_M_mend S v1 1 0 q)) else (if (f_M_alike S v1 0 2 q) = 0 then (g_M_mend S v1 2 0 q) else S))
set_option maxHeartbeats 4000000 in
set_option maxRecDepth 100000 in
theorem rg_M_decide_149 {D : va_G} {C : Nat → ClassId} {ad : Nat → Nat → Nat} {S : z_S} {p : Program} {l : Launch} {e : Env} {s : State} {m : MethodId} {args : Array Value} {below : List Frame} {meth : Method} {c : Code} {H H0 : Heap} {locs : List Loc} {Q : State → Prop} {ls : Array Slot} {v1 : Int32} {v2 : Int32} {v3 : Int32} {v4 : Int32} {q : Nat}  (hF : z_F D C ad p m c b_M_decide 8 s args R_M)  (hom : z_Om S) (hp : vp_in v1 6) (hq : q < 2) (hG : z_G D C ad H0 S H locs) (hl : lv_has ls 8 [(0, .ref (ad 21 0)), (1, .int v1), (2, .int v2), (3, .int v3), (4, .int v4), (5, .int (nI q))]) (kk : ∀ (H : Heap) (locs : List Loc) (ls : Array Slot) (S1 : z_S), z_G D C ad H0 S1 H locs → lv_has ls 8 [(0, .ref (ad 21 0)), (1, .int v1), (2, .int v2), (3, .int v3), (4, .int v4), (5, .int (nI q))] → rg_M_decide_149_S1 S v1 q = S1 → W p l e rm_M_decide s m args below meth c H locs 0 0 Q (F0 m 228 ls [])) : W p l e rm_M_decide s m args below meth c H locs 0 0 Q (F0 m 149 ls []) := by
  obtain ⟨hx, hb, hml, hown, hts⟩ := hF.1
  refine lv_aload_n hx hb d_M_decide_149 rfl (lv_at hl 0 rfl) ?_
  refine lv_iload_n hx hb d_M_decide_150 rfl (lv_at hl 1 rfl) ?_
  refine lv_iconst (v := 0) hx hb d_M_decide_151 z_k0 ?_
  refine lv_iconst (v := 1) hx hb d_M_decide_152 z_k1 ?_
  refine lv_iload hx hb d_M_decide_153 (lv_at hl 5 rfl) ?_
  refine kc_M_135 hF (c_M_alike l D C ad hF.2.2 _ _ _ _ _ q rfl hq (z_cp hp z_in0_3) (z_cp hp z_in1_3)) hG ⟨Nat.le_of_ble_eq_true rfl, Nat.le_of_ble_eq_true rfl⟩ ⟨Nat.zero_le _, Nat.zero_le _⟩ hl.1 (Nat.le_of_ble_eq_true rfl) d_M_decide_155 (fun H locs hG => ?_)
  refine lv_istore (lv' := [(6, .int (f_M_alike S v1 0 1 q)), (0, .ref (ad 21 0)), (1, .int v1), (2, .int v2), (3, .int v3), (4, .int v4), (5, .int (nI q))]) hx hb d_M_decide_158 hl (Nat.le_of_ble_eq_true rfl) rfl (fun ls hl => ?_)
  refine lv_aload_n hx hb d_M_decide_160 rfl (lv_at hl 1 rfl) ?_
  refine lv_iload_n hx hb d_M_decide_161 rfl (lv_at hl 2 rfl) ?_
  refine lv_iconst (v := 0) hx hb d_M_decide_162 z_k0 ?_
  refine lv_iconst (v := 2) hx hb d_M_decide_163 z_k2 ?_
  refine lv_iload hx hb d_M_decide_164 (lv_at hl 6 rfl) ?_
  refine kc_M_135 hF (c_M_alike l D C ad hF.2.2 _ _ _ _ _ q rfl hq (z_cp hp z_in0_3) (z_cp hp z_in2_3)) hG ⟨Nat.le_of_ble_eq_true rfl, Nat.le_of_ble_eq_true rfl⟩ ⟨Nat.zero_le _, Nat.zero_le _⟩ hl.1 (Nat.le_of_ble_eq_true rfl) d_M_decide_166 (fun H locs hG => ?_)
  refine lv_istore (lv' := [(7, .int (f_M_alike S v1 0 2 q)), (6, .int (f_M_alike S v1 0 1 q)), (0, .ref (ad 21 0)), (1, .int v1), (2, .int v2), (3, .int v3), (4, .int v4), (5, .int (nI q))]) hx hb d_M_decide_169 hl (Nat.le_of_ble_eq_true rfl) rfl (fun ls hl => ?_)
  refine lv_iload hx hb d_M_decide_171 (lv_at hl 1 rfl) ?_
  refine lv_if_eq (tgt := 190) hx hb d_M_decide_173 rfl (fun h173 => ?_) (fun h173 => ?_)
  ·
    refine lv_iload hx hb d_M_decide_190 (lv_at hl 0 rfl) ?_
    refine lv_if_eq (tgt := 209) hx hb d_M_decide_192 rfl (fun h192 => ?_) (fun h192 => ?_)
    ·
      refine lv_iload hx hb d_M_decide_209 (lv_at hl 1 rfl) ?_
      refine lv_if_ne (tgt := 228) hx hb d_M_decide_211 rfl (fun h => absurd h173 h) (fun _ => ?_)
      refine lv_iload hx hb d_M_decide_214 (lv_at hl 0 rfl) ?_
      refine lv_if_ne (tgt := 228) hx hb d_M_decide_216 rfl (fun h => absurd h192 h) (fun _ => ?_)
      refine lv_aload_n hx hb d_M_decide_219 rfl (lv_at hl 2 rfl) ?_
      refine lv_iload_n hx hb d_M_decide_220 rfl (lv_at hl 3 rfl) ?_
      refine lv_iconst (v := 0) hx hb d_M_decide_221 z_k0 ?_
      refine lv_iconst (v := 1) hx hb d_M_decide_222 z_k1 ?_
      refine lv_iload hx hb d_M_decide_223 (lv_at hl 7 rfl) ?_
      refine kc_M_142 hF (c_M_mend l D C ad hF.2.2 _ _ _ _ _ q rfl hq hp z_in0_3 (z_bat hom hp z_in0_3 (Nat.le_refl 8)) (z_cp hp z_in1_3)) hG ⟨Nat.le_of_ble_eq_true rfl, Nat.le_of_ble_eq_true rfl⟩ ⟨Nat.zero_le _, Nat.zero_le _⟩ hl.1 (Nat.le_of_ble_eq_true rfl) d_M_decide_225 (fun H locs hG => ?_)
      exact kk _ _ _ _ hG (lv_sub hl [2, 3, 4, 5, 6, 7] rfl) ((if_pos h173).trans ((if_pos h192).trans rfl))
    ·
      refine lv_iload hx hb d_M_decide_195 (lv_at hl 1 rfl) ?_
      refine lv_if_ne (tgt := 209) hx hb d_M_decide_197 rfl (fun h => absurd h173 h) (fun _ => ?_)
      refine lv_aload_n hx hb d_M_decide_200 rfl (lv_at hl 2 rfl) ?_
      refine lv_iload_n hx hb d_M_decide_201 rfl (lv_at hl 3 rfl) ?_
      refine lv_iconst (v := 1) hx hb d_M_decide_202 z_k1 ?_
      refine lv_iconst (v := 0) hx hb d_M_decide_203 z_k0 ?_
      refine lv_iload hx hb d_M_decide_204 (lv_at hl 7 rfl) ?_
      refine kc_M_142 hF (c_M_mend l D C ad hF.2.2 _ _ _ _ _ q rfl hq hp z_in1_3 (z_bat hom hp z_in1_3 (Nat.le_refl 8)) (z_cp hp z_in0_3)) hG ⟨Nat.le_of_ble_eq_true rfl, Nat.le_of_ble_eq_true rfl⟩ ⟨Nat.zero_le _, Nat.zero_le _⟩ hl.1 (Nat.le_of_ble_eq_true rfl) d_M_decide_206 (fun H locs hG => ?_)
      refine lv_iload hx hb d_M_decide_209 (lv_at hl 1 rfl) ?_
      refine lv_if_ne (tgt := 228) hx hb d_M_decide_211 rfl (fun h => absurd h173 h) (fun _ => ?_)
      refine lv_iload hx hb d_M_decide_214 (lv_at hl 0 rfl) ?_
      refine lv_if_ne (tgt := 228) hx hb d_M_decide_216 rfl (fun _ => ?_) (fun h => absurd h h192)
      exact kk _ _ _ _ hG (lv_sub hl [2, 3, 4, 5, 6, 7] rfl) ((if_pos h173).trans ((if_neg h192).trans rfl))
  ·
    refine lv_iload hx hb d_M_decide_176 (lv_at hl 0 rfl) ?_
    refine lv_if_ne (tgt := 190) hx hb d_M_decide_178 rfl (fun h178 => ?_) (fun h178 => ?_)
    ·
      refine lv_iload hx hb d_M_decide_190 (lv_at hl 0 rfl) ?_
      refine lv_if_eq (tgt := 209) hx hb d_M_decide_192 rfl (fun h => absurd h h178) (fun _ => ?_)
      refine lv_iload hx hb d_M_decide_195 (lv_at hl 1 rfl) ?_
      refine lv_if_ne (tgt := 209) hx hb d_M_decide_197 rfl (fun _ => ?_) (fun h => absurd h h173)
      refine lv_iload hx hb d_M_decide_209 (lv_at hl 1 rfl) ?_
      refine lv_if_ne (tgt := 228) hx hb d_M_decide_211 rfl (fun _ => ?_) (fun h => absurd h h173)
      exact kk _ _ _ _ hG (lv_sub hl [2, 3, 4, 5, 6, 7] rfl) ((if_neg h173).trans ((if_neg h178).trans rfl))
    ·
      refine lv_aload_n hx hb d_M_decide_181 rfl (lv_at hl 2 rfl) ?_
      refine lv_iload_n hx hb d_M_decide_182 rfl (lv_at hl 3 rfl) ?_
      refine lv_iconst (v := 2) hx hb d_M_decide_183 z_k2 ?_
      refine lv_iconst (v := 0) hx hb d_M_decide_184 z_k0 ?_
      refine lv_iload hx hb d_M_decide_185 (lv_at hl 7 rfl) ?_
      refine kc_M_142 hF (c_M_mend l D C ad hF.2.2 _ _ _ _ _ q rfl hq hp z_in2_3 (z_bat hom hp z_in2_3 (Nat.le_refl 8)) (z_cp hp z_in0_3)) hG ⟨Nat.le_of_ble_eq_true rfl, Nat.le_of_ble_eq_true rfl⟩ ⟨Nat.zero_le _, Nat.zero_le _⟩ hl.1 (Nat.le_of_ble_eq_true rfl) d_M_decide_187 (fun H locs hG => ?_)
      refine lv_iload hx hb d_M_decide_190 (lv_at hl 0 rfl) ?_
      refine lv_if_eq (tgt := 209) hx hb d_M_decide_192 rfl (fun _ => ?_) (fun h => absurd h178 h)
      refine lv_iload hx hb d_M_decide_209 (lv_at hl 1 rfl) ?_
      refine lv_if_ne (tgt := 228) hx hb d_M_decide_211 rfl (fun _ => ?_) (fun h => absurd h h173)
      exact kk _ _ _ _ hG (lv_sub hl [2, 3, 4, 5, 6, 7] rfl) ((if_neg h173).trans ((if_pos h178).trans rfl))
theorem om_rg_M_decide_149 {S : z_S} {v1 : Int32} {q : Nat} (hom : z_Om S) : z_Om (rg_M_decide_149_S1 S v1 q) := by
  unfold rg_M_decide_149_S1
  by_cases h : f_M_alike S v1 0 1 q = 0
  · rw [if_pos h]
    by_cases h2 : f_M_alike S v1 0 2 q = 0
    · rw [if_pos h2]; exact om_M_mend hom
    · rw [if_neg h2]; exact om_M_mend hom
  · rw [if_neg h]
    by_cases h2 : f_M_alike S v1 0 2 q = 0
    · rw [if_pos h2]; exact om_M_mend hom
    · rw [if_neg h2]; exact hom
def rg_M_decide_140_S1 (S : z_S) (v1 : Int32) (v2 : Int32) : z_S := (if v2 ≤ 0 then S else (if v2 ≤ 1 then (rg_M_decide_149_S1 S v1 0) else (rg_M_decide_149_S1 (rg_M_decide_149_S1 S v1 0) v1 1)))
set_option maxHeartbeats 4000000 in
set_option maxRecDepth 100000 in
theorem rg_M_decide_140 {D : va_G} {C : Nat → ClassId} {ad : Nat → Nat → Nat} {S : z_S} {p : Program} {l : Launch} {e : Env} {s : State} {m : MethodId} {args : Array Value} {below : List Frame} {meth : Method} {c : Code} {H H0 : Heap} {locs : List Loc} {Q : State → Prop} {ls : Array Slot} {v1 : Int32} {v2 : Int32} {v3 : Int32} {v4 : Int32}  (hF : z_F D C ad p m c b_M_decide 8 s args R_M)  (hom : z_Om S) (hp : vp_in v1 6) (hs3 : v2 ≤ 2) (hG : z_G D C ad H0 S H locs) (hl : lv_has ls 8 [(0, .ref (ad 21 0)), (1, .int v1), (2, .int v2), (3, .int v3), (4, .int v4)]) (kk : ∀ (H : Heap) (locs : List Loc) (ls : Array Slot) (S1 : z_S), z_G D C ad H0 S1 H locs → lv_has ls 8 [(0, .ref (ad 21 0)), (1, .int v1), (2, .int v2), (3, .int v3), (4, .int v4)] → rg_M_decide_140_S1 S v1 v2 = S1 → W p l e rm_M_decide s m args below meth c H locs 0 0 Q (F0 m 234 ls [])) : W p l e rm_M_decide s m args below meth c H locs 0 0 Q (F0 m 140 ls []) := by
  obtain ⟨hx, hb, hml, hown, hts⟩ := hF.1
  refine lv_iconst (v := 0) hx hb d_M_decide_140 z_k0 ?_
  refine lv_istore (lv' := [(5, .int 0), (0, .ref (ad 21 0)), (1, .int v1), (2, .int v2), (3, .int v3), (4, .int v4)]) hx hb d_M_decide_141 hl (Nat.le_of_ble_eq_true rfl) rfl (fun ls hl => ?_)
  refine lv_iload hx hb d_M_decide_143 (lv_at hl 0 rfl) ?_
  refine lv_iload_n hx hb d_M_decide_145 rfl (lv_at hl 3 rfl) ?_
  refine lv_icmp_ge (tgt := 234) hx hb d_M_decide_146 rfl (fun h146 => ?_) (fun h146 => ?_)
  ·
    exact kk _ _ _ _ hG (lv_sub hl [1, 2, 3, 4, 5] rfl) ((if_pos h146).trans rfl)
  ·
    refine rg_M_decide_149 hF  hom hp (by decide) hG (lv_sub hl [1, 2, 3, 4, 5, 0] rfl) (fun H locs ls S1 hG hl e_S1 => ?_)
    subst e_S1
    have hom : z_Om (rg_M_decide_149_S1 S v1 0) := om_rg_M_decide_149 hom
    refine lv_iinc (k := 5) (v := 1) (lv' := [(5, .int 1), (0, .ref (ad 21 0)), (1, .int v1), (2, .int v2), (3, .int v3), (4, .int v4)]) hx hb d_M_decide_228 hl rfl (by decide) (Nat.le_of_ble_eq_true rfl) rfl (fun ls hl => ?_)
    refine lv_goto (tgt := 143) hx hb d_M_decide_231 rfl ?_
    refine lv_iload hx hb d_M_decide_143 (lv_at hl 0 rfl) ?_
    refine lv_iload_n hx hb d_M_decide_145 rfl (lv_at hl 3 rfl) ?_
    refine lv_icmp_ge (tgt := 234) hx hb d_M_decide_146 rfl (fun h146_1 => ?_) (fun h146_1 => ?_)
    ·
      exact kk _ _ _ _ hG (lv_sub hl [1, 2, 3, 4, 5] rfl) ((if_neg h146).trans ((if_pos h146_1).trans rfl))
    ·
      refine rg_M_decide_149 hF  hom hp (by decide) hG (lv_sub hl [1, 2, 3, 4, 5, 0] rfl) (fun H locs ls S1 hG hl e_S1 => ?_)
      subst e_S1
      have hom : z_Om (rg_M_decide_149_S1 (rg_M_decide_149_S1 S v1 0) v1 1) := om_rg_M_decide_149 hom
      refine lv_iinc (k := 5) (v := 2) (lv' := [(5, .int 2), (0, .ref (ad 21 0)), (1, .int v1), (2, .int v2), (3, .int v3), (4, .int v4)]) hx hb d_M_decide_228 hl rfl (by decide) (Nat.le_of_ble_eq_true rfl) rfl (fun ls hl => ?_)
      refine lv_goto (tgt := 143) hx hb d_M_decide_231 rfl ?_
      refine lv_iload hx hb d_M_decide_143 (lv_at hl 0 rfl) ?_
      refine lv_iload_n hx hb d_M_decide_145 rfl (lv_at hl 3 rfl) ?_
      refine lv_icmp_ge (tgt := 234) hx hb d_M_decide_146 rfl (fun _ => ?_) (fun h => absurd h (not_not_intro hs3))
      exact kk _ _ _ _ hG (lv_sub hl [1, 2, 3, 4, 5] rfl) ((if_neg h146).trans ((if_neg h146_1).trans rfl))
theorem om_rg_M_decide_140 {S : z_S} {v1 v2 : Int32} (hom : z_Om S) : z_Om (rg_M_decide_140_S1 S v1 v2) := by
  unfold rg_M_decide_140_S1
  by_cases h : v2 ≤ 0
  · rw [if_pos h]; exact hom
  · rw [if_neg h]
    by_cases h2 : v2 ≤ 1
    · rw [if_pos h2]; exact om_rg_M_decide_149 hom
    · rw [if_neg h2]; exact om_rg_M_decide_149 (om_rg_M_decide_149 hom)
def g_M_decide (S : z_S) (x0 : Int32) : z_S := (if (rg_M_decide_17_u3 S x0 (f_M_sizeOf S (S.1 27 0 x0.toNatClampNeg) (S.1 28 0 x0.toNatClampNeg))) = 0 then (if (rg_M_decide_80_u4 S x0 ((f_M_sizeOf S (S.1 27 0 x0.toNatClampNeg) (S.1 28 0 x0.toNatClampNeg)).toNatClampNeg)) = 0 then (g_M_end S x0 (rg_M_decide_237_t0 (rg_M_decide_80_u4 S x0 ((f_M_sizeOf S (S.1 27 0 x0.toNatClampNeg) (S.1 28 0 x0.toNatClampNeg)).toNatClampNeg)) (rg_M_decide_17_u3 S x0 (f_M_sizeOf S (S.1 27 0 x0.toNatClampNeg) (S.1 28 0 x0.toNatClampNeg))))) else (g_M_end (rg_M_decide_140_S1 S x0 (f_M_sizeOf S (S.1 27 0 x0.toNatClampNeg) (S.1 28 0 x0.toNatClampNeg))) x0 (rg_M_decide_237_t0 (rg_M_decide_80_u4 S x0 ((f_M_sizeOf S (S.1 27 0 x0.toNatClampNeg) (S.1 28 0 x0.toNatClampNeg)).toNatClampNeg)) (rg_M_decide_17_u3 S x0 (f_M_sizeOf S (S.1 27 0 x0.toNatClampNeg) (S.1 28 0 x0.toNatClampNeg)))))) else (g_M_end S x0 (rg_M_decide_237_t0 (rg_M_decide_80_u4 S x0 ((f_M_sizeOf S (S.1 27 0 x0.toNatClampNeg) (S.1 28 0 x0.toNatClampNeg)).toNatClampNeg)) (rg_M_decide_17_u3 S x0 (f_M_sizeOf S (S.1 27 0 x0.toNatClampNeg) (S.1 28 0 x0.toNatClampNeg))))))
set_option maxHeartbeats 4000000 in
set_option maxRecDepth 100000 in
theorem c_M_decide (l : Launch) (D : va_G) (C : Nat → ClassId) (ad : Nat → Nat → Nat) (hJ : z_J ad) (S : z_S) (x0 : Int32) (hom : z_Om S) (hp : vp_in x0 6) : z_M l y_M_decide b_M_decide 8 none rm_M_decide D C ad [.ref (ad 21 0), .int x0] S (z_Qv D C ad (g_M_decide S x0)) := by
  refine z_enter (by decide) (Nat.le_of_ble_eq_true rfl) hJ ?_
  intro p e s m below meth c ls hF hr hlk hl hG
  obtain ⟨hx, hb, hml, hown, hts⟩ := hF.1
  have hl : lv_has ls 8 [(0, .ref (ad 21 0)), (1, .int x0)] := hl
  refine lv_aload_n hx hb d_M_decide_0 rfl (lv_at hl 0 rfl) ?_
  refine lv_aload_n hx hb d_M_decide_1 rfl (lv_at hl 0 rfl) ?_
  refine gf_M_26_21 hF hG d_M_decide_2 ?_
  refine lv_iload_n hx hb d_M_decide_5 rfl (lv_at hl 1 rfl) ?_
  refine z_iald (n := 6) (j := x0.toNatClampNeg) (v := (S.1 27 0 x0.toNatClampNeg)) hF hG z_o27 (z_c27 C ad _ _ _) rfl hp rfl d_M_decide_6 ?_
  refine lv_aload_n hx hb d_M_decide_7 rfl (lv_at hl 0 rfl) ?_
  refine gf_M_29_21 hF hG d_M_decide_8 ?_
  refine lv_iload_n hx hb d_M_decide_11 rfl (lv_at hl 1 rfl) ?_
  refine z_iald (n := 6) (j := x0.toNatClampNeg) (v := (S.1 28 0 x0.toNatClampNeg)) hF hG z_o28 (z_c28 C ad _ _ _) rfl hp rfl d_M_decide_12 ?_
  refine kc_M_90 hF (c_M_sizeOf l D C ad hF.2.2 _ _ _ ) hG ⟨Nat.le_of_ble_eq_true rfl, Nat.le_of_ble_eq_true rfl⟩ ⟨Nat.zero_le _, Nat.zero_le _⟩ hl.1 (Nat.le_of_ble_eq_true rfl) d_M_decide_13 (fun H locs hG => ?_)
  refine lv_istore_n (lv' := [(2, .int (f_M_sizeOf S (S.1 27 0 x0.toNatClampNeg) (S.1 28 0 x0.toNatClampNeg))), (0, .ref (ad 21 0)), (1, .int x0)]) hx hb d_M_decide_16 rfl hl (Nat.le_of_ble_eq_true rfl) rfl (fun ls hl => ?_)
  refine rg_M_decide_17 hF  hp z_sz2 hG (lv_sub hl [1, 2, 0] rfl) (fun H locs ls u3 hG hl e_u3 => ?_)
  subst e_u3
  refine rg_M_decide_80 hF  hom hp z_szn z_szl hG (lv_sub hl [0, 1, 2, 3] rfl) (fun H locs ls u4 hG hl e_u4 => ?_)
  subst e_u4
  refine lv_iload_n hx hb d_M_decide_131 rfl (lv_at hl 3 rfl) ?_
  refine lv_if_ne (tgt := 234) hx hb d_M_decide_132 rfl (fun h132 => ?_) (fun h132 => ?_)
  ·
    refine lv_aload_n hx hb d_M_decide_234 rfl (lv_at hl 0 rfl) ?_
    refine lv_iload_n hx hb d_M_decide_235 rfl (lv_at hl 1 rfl) ?_
    refine lv_iload_n hx hb d_M_decide_236 rfl (lv_at hl 3 rfl) ?_
    refine rg_M_decide_237 hF   hG (lv_sub hl [0, 1, 2, 3, 4] rfl) (fun H locs ls t0 hG hl e_t0 => ?_)
    subst e_t0
    refine kc_M_129 hF (c_M_end l D C ad hF.2.2 _ _ _ hom hp) hG ⟨Nat.le_of_ble_eq_true rfl, Nat.le_of_ble_eq_true rfl⟩ ⟨Nat.zero_le _, Nat.zero_le _⟩ hl.1 (Nat.le_of_ble_eq_true rfl) d_M_decide_254 (fun H locs hG => ?_)
    exact z_vret hF hr hlk hG (Eq.symm ((if_neg h132).trans rfl)) d_M_decide_257
  ·
    refine lv_iload hx hb d_M_decide_135 (lv_at hl 4 rfl) ?_
    refine lv_if_eq (tgt := 234) hx hb d_M_decide_137 rfl (fun h137 => ?_) (fun h137 => ?_)
    ·
      refine lv_aload_n hx hb d_M_decide_234 rfl (lv_at hl 0 rfl) ?_
      refine lv_iload_n hx hb d_M_decide_235 rfl (lv_at hl 1 rfl) ?_
      refine lv_iload_n hx hb d_M_decide_236 rfl (lv_at hl 3 rfl) ?_
      refine rg_M_decide_237 hF   hG (lv_sub hl [0, 1, 2, 3, 4] rfl) (fun H locs ls t0 hG hl e_t0 => ?_)
      subst e_t0
      refine kc_M_129 hF (c_M_end l D C ad hF.2.2 _ _ _ hom hp) hG ⟨Nat.le_of_ble_eq_true rfl, Nat.le_of_ble_eq_true rfl⟩ ⟨Nat.zero_le _, Nat.zero_le _⟩ hl.1 (Nat.le_of_ble_eq_true rfl) d_M_decide_254 (fun H locs hG => ?_)
      exact z_vret hF hr hlk hG (Eq.symm ((if_pos h132).trans ((if_pos h137).trans rfl))) d_M_decide_257
    ·
      refine rg_M_decide_140 hF  hom hp z_sz2 hG (lv_sub hl [0, 1, 2, 3, 4] rfl) (fun H locs ls S1 hG hl e_S1 => ?_)
      subst e_S1
      have hom : z_Om (rg_M_decide_140_S1 S x0 (f_M_sizeOf S (S.1 27 0 x0.toNatClampNeg) (S.1 28 0 x0.toNatClampNeg))) := om_rg_M_decide_140 hom
      refine lv_aload_n hx hb d_M_decide_234 rfl (lv_at hl 0 rfl) ?_
      refine lv_iload_n hx hb d_M_decide_235 rfl (lv_at hl 1 rfl) ?_
      refine lv_iload_n hx hb d_M_decide_236 rfl (lv_at hl 3 rfl) ?_
      refine rg_M_decide_237 hF   hG (lv_sub hl [0, 1, 2, 3, 4] rfl) (fun H locs ls t0 hG hl e_t0 => ?_)
      subst e_t0
      refine kc_M_129 hF (c_M_end l D C ad hF.2.2 (rg_M_decide_140_S1 S x0 (f_M_sizeOf S (S.1 27 0 x0.toNatClampNeg) (S.1 28 0 x0.toNatClampNeg))) _ _ hom hp) hG ⟨Nat.le_of_ble_eq_true rfl, Nat.le_of_ble_eq_true rfl⟩ ⟨Nat.zero_le _, Nat.zero_le _⟩ hl.1 (Nat.le_of_ble_eq_true rfl) d_M_decide_254 (fun H locs hG => ?_)
      exact z_vret hF hr hlk hG (Eq.symm ((if_pos h132).trans ((if_neg h137).trans rfl))) d_M_decide_257
def rg_M_takeCopy_40i_S1 (S : z_S) (v1 : Int32) (v2 : Int32) (k : Nat) : z_S := (z_sI S 34 0 ((((24 * v1) + (8 * v2)) + (nI k)).toNatClampNeg) (S.1 39 0 ((192 + (nI k)).toNatClampNeg)))
set_option maxHeartbeats 4000000 in
set_option maxRecDepth 100000 in
theorem rg_M_takeCopy_40i {D : va_G} {C : Nat → ClassId} {ad : Nat → Nat → Nat} {S : z_S} {p : Program} {l : Launch} {e : Env} {s : State} {m : MethodId} {args : Array Value} {below : List Frame} {meth : Method} {c : Code} {H H0 : Heap} {locs : List Loc} {Q : State → Prop} {ls : Array Slot} {v1 : Int32} {v2 : Int32} {k : Nat}  (hF : z_F D C ad p m c b_M_takeCopy 4 s args R_M)  (hc : ∀ k : Nat, k < 8 → vp_in (((24 * v1) + (8 * v2)) + (nI k)) 144) (hk : k < 8) (hG : z_G D C ad H0 S H locs) (hl : lv_has ls 4 [(0, .ref (ad 21 0)), (1, .int v1), (2, .int v2), (3, .int (nI k))]) (kk : ∀ (H : Heap) (locs : List Loc) (ls : Array Slot) (S1 : z_S), z_G D C ad H0 S1 H locs → lv_has ls 4 [(0, .ref (ad 21 0)), (1, .int v1), (2, .int v2), (3, .int (nI (k + 1)))] → rg_M_takeCopy_40i_S1 S v1 v2 k = S1 → W p l e rm_M_takeCopy s m args below meth c H locs 0 0 Q (F0 m 40 ls [])) : W p l e rm_M_takeCopy s m args below meth c H locs 0 0 Q (F0 m 40 ls []) := by
  obtain ⟨hx, hb, hml, hown, hts⟩ := hF.1
  refine lv_iload_n hx hb d_M_takeCopy_40 rfl (lv_at hl 3 rfl) ?_
  refine lv_bipush (v := 8) hx hb d_M_takeCopy_41 z_bi8 ?_
  refine lv_icmp_ge (tgt := 78) hx hb d_M_takeCopy_43 rfl (fun h => absurd h (nI_ge (b := 8) hk (by decide))) (fun _ => ?_)
  refine lv_aload_n hx hb d_M_takeCopy_46 rfl (lv_at hl 0 rfl) ?_
  refine gf_M_48_21 hF hG d_M_takeCopy_47 ?_
  refine lv_bipush (v := 24) hx hb d_M_takeCopy_50 z_bi24 ?_
  refine lv_iload_n hx hb d_M_takeCopy_52 rfl (lv_at hl 1 rfl) ?_
  refine lv_imul hx hb d_M_takeCopy_53 ?_
  refine lv_bipush (v := 8) hx hb d_M_takeCopy_54 z_bi8 ?_
  refine lv_iload_n hx hb d_M_takeCopy_56 rfl (lv_at hl 2 rfl) ?_
  refine lv_imul hx hb d_M_takeCopy_57 ?_
  refine lv_iadd hx hb d_M_takeCopy_58 ?_
  refine lv_iload_n hx hb d_M_takeCopy_59 rfl (lv_at hl 3 rfl) ?_
  refine lv_iadd hx hb d_M_takeCopy_60 ?_
  refine lv_aload_n hx hb d_M_takeCopy_61 rfl (lv_at hl 0 rfl) ?_
  refine gf_M_63_21 hF hG d_M_takeCopy_62 ?_
  refine lv_sipush (v := 192) hx hb d_M_takeCopy_65 z_si192 ?_
  refine lv_iload_n hx hb d_M_takeCopy_68 rfl (lv_at hl 3 rfl) ?_
  refine lv_iadd hx hb d_M_takeCopy_69 ?_
  refine z_iald (n := 200) (j := (192 + (nI k)).toNatClampNeg) (v := (S.1 39 0 ((192 + (nI k)).toNatClampNeg))) hF hG z_o39 (z_c39 C ad _ _ _) rfl (z_192 hk) rfl d_M_takeCopy_70 ?_
  refine z_iast (n := 144) (j := (((24 * v1) + (8 * v2)) + (nI k)).toNatClampNeg) hF hG z_o34 (fun f g => z_c34 C ad f g _) rfl (hc k hk) d_M_takeCopy_71 (fun H locs hG => ?_)
  refine lv_iinc (k := 3) (v := (nI (k + 1))) (lv' := [(3, .int (nI (k + 1))), (0, .ref (ad 21 0)), (1, .int v1), (2, .int v2)]) hx hb d_M_takeCopy_72 hl rfl (z_incN _) (Nat.le_of_ble_eq_true rfl) rfl (fun ls hl => ?_)
  refine lv_goto (tgt := 40) hx hb d_M_takeCopy_75 rfl ?_
  exact kk _ _ _ _ hG (lv_sub hl [1, 2, 3, 0] rfl) rfl
set_option maxHeartbeats 4000000 in
set_option maxRecDepth 100000 in
theorem rg_M_takeCopy_40e {D : va_G} {C : Nat → ClassId} {ad : Nat → Nat → Nat} {S : z_S} {p : Program} {l : Launch} {e : Env} {s : State} {m : MethodId} {args : Array Value} {below : List Frame} {meth : Method} {c : Code} {H H0 : Heap} {locs : List Loc} {Q : State → Prop} {ls : Array Slot} {v1 : Int32} {v2 : Int32} {k : Nat}  (hF : z_F D C ad p m c b_M_takeCopy 4 s args R_M)  (hc : ∀ k : Nat, k < 8 → vp_in (((24 * v1) + (8 * v2)) + (nI k)) 144) (hk : k = 8) (hG : z_G D C ad H0 S H locs) (hl : lv_has ls 4 [(0, .ref (ad 21 0)), (1, .int v1), (2, .int v2), (3, .int (nI k))]) (kk : ∀ (H : Heap) (locs : List Loc) (ls : Array Slot) , z_G D C ad H0 S H locs → lv_has ls 4 [(0, .ref (ad 21 0)), (1, .int v1), (2, .int v2), (3, .int (nI k))] → W p l e rm_M_takeCopy s m args below meth c H locs 0 0 Q (F0 m 78 ls [])) : W p l e rm_M_takeCopy s m args below meth c H locs 0 0 Q (F0 m 40 ls []) := by
  obtain ⟨hx, hb, hml, hown, hts⟩ := hF.1
  refine lv_iload_n hx hb d_M_takeCopy_40 rfl (lv_at hl 3 rfl) ?_
  refine lv_bipush (v := 8) hx hb d_M_takeCopy_41 z_bi8 ?_
  refine lv_icmp_ge (tgt := 78) hx hb d_M_takeCopy_43 rfl (fun _ => ?_) (fun h => absurd h (by rw [hk]; decide))
  exact kk _ _ _  hG (lv_sub hl [0, 1, 2, 3] rfl) 
set_option maxHeartbeats 4000000 in
set_option maxRecDepth 100000 in
theorem lp_M_takeCopy_40 {D : va_G} {C : Nat → ClassId} {ad : Nat → Nat → Nat} {p : Program} {l : Launch} {e : Env} {s : State} {m : MethodId} {args : Array Value} {below : List Frame} {meth : Method} {c : Code} {H0 : Heap} {Q : State → Prop} {v1 : Int32} {v2 : Int32}  (hF : z_F D C ad p m c b_M_takeCopy 4 s args R_M)  (hc : ∀ k : Nat, k < 8 → vp_in (((24 * v1) + (8 * v2)) + (nI k)) 144) : ∀ (n k : Nat) (S : z_S) (H : Heap) (locs : List Loc) (ls : Array Slot), k + n = 8 → z_G D C ad H0 S H locs → lv_has ls 4 [(0, .ref (ad 21 0)), (1, .int v1), (2, .int v2), (3, .int (nI k))] → (∀ (H : Heap) (locs : List Loc) (ls : Array Slot), z_G D C ad H0 (z_it (fun (k : Nat) (S : z_S) => rg_M_takeCopy_40i_S1 S v1 v2 k) k n S) H locs → lv_has ls 4 [(0, .ref (ad 21 0)), (1, .int v1), (2, .int v2), (3, .int (nI 8))] → W p l e rm_M_takeCopy s m args below meth c H locs 0 0 Q (F0 m 78 ls [])) → W p l e rm_M_takeCopy s m args below meth c H locs 0 0 Q (F0 m 40 ls []) := by
  intro n
  induction n with
  | zero =>
    intro k S H locs ls hk hG hl kk
    have hk : k = 8 := by omega
    refine rg_M_takeCopy_40e hF  hc hk hG hl (fun H locs ls hG hl => ?_)
    subst hk
    exact kk H locs ls hG hl
  | succ n ih =>
    intro k S H locs ls hk hG hl kk
    refine rg_M_takeCopy_40i hF  hc (by omega) hG hl (fun H locs ls S1 hG hl e1 => ?_)
    subst e1
    exact ih (k + 1) (rg_M_takeCopy_40i_S1 S v1 v2 k) H locs ls (by omega) hG hl kk
theorem om_tcp {S : z_S} {x0 x1 v : Int32} {j : Nat} (hom : z_Om S) : z_Om (z_it (fun (kk9 : Nat) (T9 : z_S) => rg_M_takeCopy_40i_S1 T9 x0 x1 kk9) 0 8 (z_sI S 32 0 j v)) :=
  z_it_inv (P := z_Om) (f := fun (kk9 : Nat) (T9 : z_S) => rg_M_takeCopy_40i_S1 T9 x0 x1 kk9) (fun k T hT => hT.of rfl rfl rfl rfl rfl rfl rfl) (hom.of rfl rfl rfl rfl rfl rfl rfl)
def g_M_takeCopy (S : z_S) (x0 : Int32) (x1 : Int32) : z_S := (if (S.1 31 0 x0.toNatClampNeg) < 7 then S else (if (((S.1 32 0 x0.toNatClampNeg) >>> (x1 &&& 31)) &&& 1) = 1 then S else (if ((z_it (fun (kk9 : Nat) (T9 : z_S) => rg_M_takeCopy_40i_S1 T9 x0 x1 kk9) 0 8 (z_sI S 32 0 x0.toNatClampNeg ((S.1 32 0 x0.toNatClampNeg) ||| ((1 : Int32) <<< (x1 &&& 31))))).1 32 0 x0.toNatClampNeg) = 7 then (g_M_decide (z_it (fun (kk9 : Nat) (T9 : z_S) => rg_M_takeCopy_40i_S1 T9 x0 x1 kk9) 0 8 (z_sI S 32 0 x0.toNatClampNeg ((S.1 32 0 x0.toNatClampNeg) ||| ((1 : Int32) <<< (x1 &&& 31))))) x0) else (z_it (fun (kk9 : Nat) (T9 : z_S) => rg_M_takeCopy_40i_S1 T9 x0 x1 kk9) 0 8 (z_sI S 32 0 x0.toNatClampNeg ((S.1 32 0 x0.toNatClampNeg) ||| ((1 : Int32) <<< (x1 &&& 31))))))))
set_option maxHeartbeats 4000000 in
set_option maxRecDepth 100000 in
theorem c_M_takeCopy (l : Launch) (D : va_G) (C : Nat → ClassId) (ad : Nat → Nat → Nat) (hJ : z_J ad) (S : z_S) (x0 : Int32) (x1 : Int32) (hom : z_Om S) (hp : vp_in x0 6) (hh : vp_in x1 3) : z_M l y_M_takeCopy b_M_takeCopy 4 none rm_M_takeCopy D C ad [.ref (ad 21 0), .int x0, .int x1] S (z_Qv D C ad (g_M_takeCopy S x0 x1)) := by
  refine z_enter (by decide) (Nat.le_of_ble_eq_true rfl) hJ ?_
  intro p e s m below meth c ls hF hr hlk hl hG
  obtain ⟨hx, hb, hml, hown, hts⟩ := hF.1
  have hl : lv_has ls 4 [(0, .ref (ad 21 0)), (1, .int x0), (2, .int x1)] := hl
  refine lv_aload_n hx hb d_M_takeCopy_0 rfl (lv_at hl 0 rfl) ?_
  refine gf_M_39_21 hF hG d_M_takeCopy_1 ?_
  refine lv_iload_n hx hb d_M_takeCopy_4 rfl (lv_at hl 1 rfl) ?_
  refine z_iald (n := 6) (j := x0.toNatClampNeg) (v := (S.1 31 0 x0.toNatClampNeg)) hF hG z_o31 (z_c31 C ad _ _ _) rfl hp rfl d_M_takeCopy_5 ?_
  refine lv_bipush (v := 7) hx hb d_M_takeCopy_6 z_bi7 ?_
  refine lv_icmp_lt (tgt := 25) hx hb d_M_takeCopy_8 rfl (fun h8 => ?_) (fun h8 => ?_)
  ·
    exact z_vret hF hr hlk hG (Eq.symm ((if_pos h8).trans rfl)) d_M_takeCopy_25
  ·
    refine lv_aload_n hx hb d_M_takeCopy_11 rfl (lv_at hl 0 rfl) ?_
    refine gf_M_42_21 hF hG d_M_takeCopy_12 ?_
    refine lv_iload_n hx hb d_M_takeCopy_15 rfl (lv_at hl 1 rfl) ?_
    refine z_iald (n := 6) (j := x0.toNatClampNeg) (v := (S.1 32 0 x0.toNatClampNeg)) hF hG z_o32 (z_c32 C ad _ _ _) rfl hp rfl d_M_takeCopy_16 ?_
    refine lv_iload_n hx hb d_M_takeCopy_17 rfl (lv_at hl 2 rfl) ?_
    refine lv_ishr hx hb d_M_takeCopy_18 ?_
    refine lv_iconst (v := 1) hx hb d_M_takeCopy_19 z_k1 ?_
    refine lv_iand hx hb d_M_takeCopy_20 ?_
    refine lv_iconst (v := 1) hx hb d_M_takeCopy_21 z_k1 ?_
    refine lv_icmp_ne (tgt := 26) hx hb d_M_takeCopy_22 rfl (fun h22 => ?_) (fun h22 => ?_)
    ·
      refine lv_aload_n hx hb d_M_takeCopy_26 rfl (lv_at hl 0 rfl) ?_
      refine gf_M_42_21 hF hG d_M_takeCopy_27 ?_
      refine lv_iload_n hx hb d_M_takeCopy_30 rfl (lv_at hl 1 rfl) ?_
      refine lv_dup2_11 hx hb d_M_takeCopy_31 rfl rfl ?_
      refine z_iald (n := 6) (j := x0.toNatClampNeg) (v := (S.1 32 0 x0.toNatClampNeg)) hF hG z_o32 (z_c32 C ad _ _ _) rfl hp rfl d_M_takeCopy_32 ?_
      refine lv_iconst (v := 1) hx hb d_M_takeCopy_33 z_k1 ?_
      refine lv_iload_n hx hb d_M_takeCopy_34 rfl (lv_at hl 2 rfl) ?_
      refine lv_ishl hx hb d_M_takeCopy_35 ?_
      refine lv_ior hx hb d_M_takeCopy_36 ?_
      refine z_iast (n := 6) (j := x0.toNatClampNeg) hF hG z_o32 (fun f g => z_c32 C ad f g _) rfl hp d_M_takeCopy_37 (fun H locs hG => ?_)
      refine lv_iconst (v := 0) hx hb d_M_takeCopy_38 z_k0 ?_
      refine lv_istore_n (lv' := [(3, .int 0), (0, .ref (ad 21 0)), (1, .int x0), (2, .int x1)]) hx hb d_M_takeCopy_39 rfl hl (Nat.le_of_ble_eq_true rfl) rfl (fun ls hl => ?_)
      have hl : lv_has ls 4 [(0, .ref (ad 21 0)), (1, .int x0), (2, .int x1), (3, .int (nI 0))] := by
        have h9 := lv_sub hl [1, 2, 3, 0] rfl
        rw [nI_0]; exact h9
      refine lp_M_takeCopy_40  hF  (z_cp hp hh) 8 0 (z_sI S 32 0 x0.toNatClampNeg ((S.1 32 0 x0.toNatClampNeg) ||| ((1 : Int32) <<< (x1 &&& 31)))) _ _ ls rfl hG hl (fun H locs ls hG hl => ?_)
      refine lv_aload_n hx hb d_M_takeCopy_78 rfl (lv_at hl 0 rfl) ?_
      refine gf_M_42_21 hF hG d_M_takeCopy_79 ?_
      refine lv_iload_n hx hb d_M_takeCopy_82 rfl (lv_at hl 1 rfl) ?_
      refine z_iald (n := 6) (j := x0.toNatClampNeg) (v := ((z_it (fun (kk9 : Nat) (T9 : z_S) => rg_M_takeCopy_40i_S1 T9 x0 x1 kk9) 0 8 (z_sI S 32 0 x0.toNatClampNeg ((S.1 32 0 x0.toNatClampNeg) ||| ((1 : Int32) <<< (x1 &&& 31))))).1 32 0 x0.toNatClampNeg)) hF hG z_o32 (z_c32 C ad _ _ _) rfl hp rfl d_M_takeCopy_83 ?_
      refine lv_bipush (v := 7) hx hb d_M_takeCopy_84 z_bi7 ?_
      refine lv_icmp_ne (tgt := 94) hx hb d_M_takeCopy_86 rfl (fun h86 => ?_) (fun h86 => ?_)
      ·
        exact z_vret hF hr hlk hG (Eq.symm ((if_neg h8).trans ((if_neg h22).trans ((if_neg h86).trans rfl)))) d_M_takeCopy_94
      ·
        refine lv_aload_n hx hb d_M_takeCopy_89 rfl (lv_at hl 0 rfl) ?_
        refine lv_iload_n hx hb d_M_takeCopy_90 rfl (lv_at hl 1 rfl) ?_
        refine kc_M_146 hF (c_M_decide l D C ad hF.2.2 (z_it (fun (kk9 : Nat) (T9 : z_S) => rg_M_takeCopy_40i_S1 T9 x0 x1 kk9) 0 8 (z_sI S 32 0 x0.toNatClampNeg ((S.1 32 0 x0.toNatClampNeg) ||| ((1 : Int32) <<< (x1 &&& 31))))) _ (om_tcp hom) hp) hG ⟨Nat.le_of_ble_eq_true rfl, Nat.le_of_ble_eq_true rfl⟩ ⟨Nat.zero_le _, Nat.zero_le _⟩ hl.1 (Nat.le_of_ble_eq_true rfl) d_M_takeCopy_91 (fun H locs hG => ?_)
        exact z_vret hF hr hlk hG (Eq.symm ((if_neg h8).trans ((if_neg h22).trans ((if_pos h86).trans rfl)))) d_M_takeCopy_94
    ·
      exact z_vret hF hr hlk hG (Eq.symm ((if_neg h8).trans ((if_pos h22).trans rfl))) d_M_takeCopy_25
def rg_M_answer_1_t0 (v2 : Int32) : Int32 := (if v2 = 1 then 2 else 4)
set_option maxHeartbeats 4000000 in
set_option maxRecDepth 100000 in
theorem rg_M_answer_1 {D : va_G} {C : Nat → ClassId} {ad : Nat → Nat → Nat} {S : z_S} {p : Program} {l : Launch} {e : Env} {s : State} {m : MethodId} {args : Array Value} {below : List Frame} {meth : Method} {c : Code} {H H0 : Heap} {locs : List Loc} {Q : State → Prop} {ls : Array Slot} {v1 : Int32} {v2 : Int32} {v3 : Int32}  (hF : z_F D C ad p m c b_M_answer 7 s args R_M)   (hG : z_G D C ad H0 S H locs) (hl : lv_has ls 7 [(0, .ref (ad 21 0)), (1, .int v1), (2, .int v2), (3, .int v3)]) (kk : ∀ (H : Heap) (locs : List Loc) (ls : Array Slot) (t0 : Int32), z_G D C ad H0 S H locs → lv_has ls 7 [(0, .ref (ad 21 0)), (1, .int v1), (2, .int v2), (3, .int v3)] → rg_M_answer_1_t0 v2 = t0 → W p l e rm_M_answer s m args below meth c H locs 0 0 Q (F0 m 11 ls [.int t0, .ref (ad 21 0)])) : W p l e rm_M_answer s m args below meth c H locs 0 0 Q (F0 m 1 ls [.ref (ad 21 0)]) := by
  obtain ⟨hx, hb, hml, hown, hts⟩ := hF.1
  refine lv_iload_n hx hb d_M_answer_1 rfl (lv_at hl 2 rfl) ?_
  refine lv_iconst (v := 1) hx hb d_M_answer_2 z_k1 ?_
  refine lv_icmp_ne (tgt := 10) hx hb d_M_answer_3 rfl (fun h3 => ?_) (fun h3 => ?_)
  ·
    refine lv_iconst (v := 4) hx hb d_M_answer_10 z_k4 ?_
    exact kk _ _ _ _ hG (lv_sub hl [0, 1, 2, 3] rfl) ((if_neg h3).trans rfl)
  ·
    refine lv_iconst (v := 2) hx hb d_M_answer_6 z_k2 ?_
    refine lv_goto (tgt := 11) hx hb d_M_answer_7 rfl ?_
    exact kk _ _ _ _ hG (lv_sub hl [0, 1, 2, 3] rfl) ((if_pos h3).trans rfl)
def rg_M_answer_74i_S1 (S : z_S) (v1 : Int32) (v3 : Int32) (v4 : Int32) (k : Nat) : z_S := (z_sI S 39 0 (((8 * v4) + (nI k)).toNatClampNeg) (S.1 22 0 ((f_M_byteAt S v1 v3 (nI k)).toNatClampNeg)))
set_option maxHeartbeats 4000000 in
set_option maxRecDepth 100000 in
theorem rg_M_answer_74i {D : va_G} {C : Nat → ClassId} {ad : Nat → Nat → Nat} {S : z_S} {p : Program} {l : Launch} {e : Env} {s : State} {m : MethodId} {args : Array Value} {below : List Frame} {meth : Method} {c : Code} {H H0 : Heap} {locs : List Loc} {Q : State → Prop} {ls : Array Slot} {v1 : Int32} {v2 : Int32} {v3 : Int32} {v4 : Int32} {v5 : Int32} {k : Nat} {N : Nat} (hF : z_F D C ad p m c b_M_answer 7 s args R_M)  (hN : 4 * v5 = nI N) (hN8 : N ≤ 8) (hp : vp_in v1 6) (hc : ∀ k : Nat, k < 8 → vp_in ((8 * v4) + (nI k)) 200) (inv : ∀ k : Nat, k < 8 → vp_in (f_M_byteAt S v1 v3 (nI k)) 1152) (hk : k < N) (hG : z_G D C ad H0 S H locs) (hl : lv_has ls 7 [(0, .ref (ad 21 0)), (1, .int v1), (2, .int v2), (3, .int v3), (4, .int v4), (5, .int v5), (6, .int (nI k))]) (kk : ∀ (H : Heap) (locs : List Loc) (ls : Array Slot) (S1 : z_S), z_G D C ad H0 S1 H locs → lv_has ls 7 [(0, .ref (ad 21 0)), (1, .int v1), (2, .int v2), (3, .int v3), (4, .int v4), (5, .int v5), (6, .int (nI (k + 1)))] → rg_M_answer_74i_S1 S v1 v3 v4 k = S1 → W p l e rm_M_answer s m args below meth c H locs 0 0 Q (F0 m 74 ls [])) : W p l e rm_M_answer s m args below meth c H locs 0 0 Q (F0 m 74 ls []) := by
  obtain ⟨hx, hb, hml, hown, hts⟩ := hF.1
  refine lv_iload hx hb d_M_answer_74 (lv_at hl 6 rfl) ?_
  refine lv_iconst (v := 4) hx hb d_M_answer_76 z_k4 ?_
  refine lv_iload hx hb d_M_answer_77 (lv_at hl 5 rfl) ?_
  refine lv_imul hx hb d_M_answer_79 ?_
  refine lv_icmp_ge (tgt := 115) hx hb d_M_answer_80 rfl (fun h => absurd h (by rw [hN]; exact nI_ge hk (by omega))) (fun _ => ?_)
  refine lv_aload_n hx hb d_M_answer_83 rfl (lv_at hl 0 rfl) ?_
  refine gf_M_63_21 hF hG d_M_answer_84 ?_
  refine lv_bipush (v := 8) hx hb d_M_answer_87 z_bi8 ?_
  refine lv_iload hx hb d_M_answer_89 (lv_at hl 4 rfl) ?_
  refine lv_imul hx hb d_M_answer_91 ?_
  refine lv_iload hx hb d_M_answer_92 (lv_at hl 6 rfl) ?_
  refine lv_iadd hx hb d_M_answer_94 ?_
  refine lv_aload_n hx hb d_M_answer_95 rfl (lv_at hl 0 rfl) ?_
  refine gf_M_7_21 hF hG d_M_answer_96 ?_
  refine lv_aload_n hx hb d_M_answer_99 rfl (lv_at hl 0 rfl) ?_
  refine lv_iload_n hx hb d_M_answer_100 rfl (lv_at hl 1 rfl) ?_
  refine lv_iload_n hx hb d_M_answer_101 rfl (lv_at hl 3 rfl) ?_
  refine lv_iload hx hb d_M_answer_102 (lv_at hl 6 rfl) ?_
  refine kc_M_132 hF (c_M_byteAt l D C ad hF.2.2 _ _ _ _ hp) hG ⟨Nat.le_of_ble_eq_true rfl, Nat.le_of_ble_eq_true rfl⟩ ⟨Nat.zero_le _, Nat.zero_le _⟩ hl.1 (Nat.le_of_ble_eq_true rfl) d_M_answer_104 (fun H locs hG => ?_)
  refine z_iald (n := 1152) (j := (f_M_byteAt S v1 v3 (nI k)).toNatClampNeg) (v := (S.1 22 0 ((f_M_byteAt S v1 v3 (nI k)).toNatClampNeg))) hF hG z_o22 (z_c22 C ad _ _ _) rfl (inv k (by omega)) rfl d_M_answer_107 ?_
  refine z_iast (n := 200) (j := ((8 * v4) + (nI k)).toNatClampNeg) hF hG z_o39 (fun f g => z_c39 C ad f g _) rfl (hc k (by omega)) d_M_answer_108 (fun H locs hG => ?_)
  refine lv_iinc (k := 6) (v := (nI (k + 1))) (lv' := [(6, .int (nI (k + 1))), (0, .ref (ad 21 0)), (1, .int v1), (2, .int v2), (3, .int v3), (4, .int v4), (5, .int v5)]) hx hb d_M_answer_109 hl rfl (z_incN _) (Nat.le_of_ble_eq_true rfl) rfl (fun ls hl => ?_)
  refine lv_goto (tgt := 74) hx hb d_M_answer_112 rfl ?_
  exact kk _ _ _ _ hG (lv_sub hl [1, 2, 3, 4, 5, 6, 0] rfl) rfl
set_option maxHeartbeats 4000000 in
set_option maxRecDepth 100000 in
theorem rg_M_answer_74e {D : va_G} {C : Nat → ClassId} {ad : Nat → Nat → Nat} {S : z_S} {p : Program} {l : Launch} {e : Env} {s : State} {m : MethodId} {args : Array Value} {below : List Frame} {meth : Method} {c : Code} {H H0 : Heap} {locs : List Loc} {Q : State → Prop} {ls : Array Slot} {v1 : Int32} {v2 : Int32} {v3 : Int32} {v4 : Int32} {v5 : Int32} {k : Nat} {N : Nat} (hF : z_F D C ad p m c b_M_answer 7 s args R_M)  (hN : 4 * v5 = nI N) (hN8 : N ≤ 8) (hp : vp_in v1 6) (hc : ∀ k : Nat, k < 8 → vp_in ((8 * v4) + (nI k)) 200) (inv : ∀ k : Nat, k < 8 → vp_in (f_M_byteAt S v1 v3 (nI k)) 1152) (hk : k = N) (hG : z_G D C ad H0 S H locs) (hl : lv_has ls 7 [(0, .ref (ad 21 0)), (1, .int v1), (2, .int v2), (3, .int v3), (4, .int v4), (5, .int v5), (6, .int (nI k))]) (kk : ∀ (H : Heap) (locs : List Loc) (ls : Array Slot) , z_G D C ad H0 S H locs → lv_has ls 7 [(0, .ref (ad 21 0)), (1, .int v1), (2, .int v2), (3, .int v3), (4, .int v4), (5, .int v5), (6, .int (nI k))] → W p l e rm_M_answer s m args below meth c H locs 0 0 Q (F0 m 115 ls [])) : W p l e rm_M_answer s m args below meth c H locs 0 0 Q (F0 m 74 ls []) := by
  obtain ⟨hx, hb, hml, hown, hts⟩ := hF.1
  refine lv_iload hx hb d_M_answer_74 (lv_at hl 6 rfl) ?_
  refine lv_iconst (v := 4) hx hb d_M_answer_76 z_k4 ?_
  refine lv_iload hx hb d_M_answer_77 (lv_at hl 5 rfl) ?_
  refine lv_imul hx hb d_M_answer_79 ?_
  refine lv_icmp_ge (tgt := 115) hx hb d_M_answer_80 rfl (fun _ => ?_) (fun h => absurd h (by rw [hN, hk]; exact not_not_intro (nI_le (Nat.le_refl _) (by omega))))
  exact kk _ _ _  hG (lv_sub hl [0, 1, 2, 3, 4, 5, 6] rfl) 
set_option maxHeartbeats 4000000 in
set_option maxRecDepth 100000 in
theorem lp_M_answer_74 {D : va_G} {C : Nat → ClassId} {ad : Nat → Nat → Nat} {p : Program} {l : Launch} {e : Env} {s : State} {m : MethodId} {args : Array Value} {below : List Frame} {meth : Method} {c : Code} {H0 : Heap} {Q : State → Prop} {v1 : Int32} {v2 : Int32} {v3 : Int32} {v4 : Int32} {v5 : Int32} {N : Nat} (hF : z_F D C ad p m c b_M_answer 7 s args R_M)  (hN : 4 * v5 = nI N) (hN8 : N ≤ 8) (hp : vp_in v1 6) (hc : ∀ k : Nat, k < 8 → vp_in ((8 * v4) + (nI k)) 200) : ∀ (n k : Nat) (S : z_S) (H : Heap) (locs : List Loc) (ls : Array Slot), k + n = N → (∀ k : Nat, k < 8 → vp_in (f_M_byteAt S v1 v3 (nI k)) 1152) → z_G D C ad H0 S H locs → lv_has ls 7 [(0, .ref (ad 21 0)), (1, .int v1), (2, .int v2), (3, .int v3), (4, .int v4), (5, .int v5), (6, .int (nI k))] → (∀ (H : Heap) (locs : List Loc) (ls : Array Slot), z_G D C ad H0 (z_it (fun (k : Nat) (S : z_S) => rg_M_answer_74i_S1 S v1 v3 v4 k) k n S) H locs → lv_has ls 7 [(0, .ref (ad 21 0)), (1, .int v1), (2, .int v2), (3, .int v3), (4, .int v4), (5, .int v5), (6, .int (nI N))] → W p l e rm_M_answer s m args below meth c H locs 0 0 Q (F0 m 115 ls [])) → W p l e rm_M_answer s m args below meth c H locs 0 0 Q (F0 m 74 ls []) := by
  intro n
  induction n with
  | zero =>
    intro k S H locs ls hk inv hG hl kk
    have hk : k = N := by omega
    refine rg_M_answer_74e hF  hN hN8 hp hc inv hk hG hl (fun H locs ls hG hl => ?_)
    subst hk
    exact kk H locs ls hG hl
  | succ n ih =>
    intro k S H locs ls hk inv hG hl kk
    refine rg_M_answer_74i hF  hN hN8 hp hc inv (by omega) hG hl (fun H locs ls S1 hG hl e1 => ?_)
    subst e1
    exact ih (k + 1) (rg_M_answer_74i_S1 S v1 v3 v4 k) H locs ls (by omega) (inv) hG hl kk
def g_M_answer (S : z_S) (x0 : Int32) (x1 : Int32) (x2 : Int32) : z_S := (z_it (fun (kk9 : Nat) (T9 : z_S) => rg_M_answer_74i_S1 T9 x0 x2 (f_M_come S) kk9) 0 (4 * (f_M_sizeOf (z_sL (g_M_come S (rg_M_answer_1_t0 x1) (S.1 26 0 x0.toNatClampNeg) x2) 38 0 ((f_M_come S).toNatClampNeg) (f_M_sum (g_M_come S (rg_M_answer_1_t0 x1) (S.1 26 0 x0.toNatClampNeg) x2) x2 ((g_M_come S (rg_M_answer_1_t0 x1) (S.1 26 0 x0.toNatClampNeg) x2).1 27 0 x0.toNatClampNeg) ((g_M_come S (rg_M_answer_1_t0 x1) (S.1 26 0 x0.toNatClampNeg) x2).1 28 0 x0.toNatClampNeg) ((g_M_come S (rg_M_answer_1_t0 x1) (S.1 26 0 x0.toNatClampNeg) x2).2 29 0 x0.toNatClampNeg))) ((g_M_come S (rg_M_answer_1_t0 x1) (S.1 26 0 x0.toNatClampNeg) x2).1 27 0 x0.toNatClampNeg) ((g_M_come S (rg_M_answer_1_t0 x1) (S.1 26 0 x0.toNatClampNeg) x2).1 28 0 x0.toNatClampNeg)).toNatClampNeg) (z_sL (g_M_come S (rg_M_answer_1_t0 x1) (S.1 26 0 x0.toNatClampNeg) x2) 38 0 ((f_M_come S).toNatClampNeg) (f_M_sum (g_M_come S (rg_M_answer_1_t0 x1) (S.1 26 0 x0.toNatClampNeg) x2) x2 ((g_M_come S (rg_M_answer_1_t0 x1) (S.1 26 0 x0.toNatClampNeg) x2).1 27 0 x0.toNatClampNeg) ((g_M_come S (rg_M_answer_1_t0 x1) (S.1 26 0 x0.toNatClampNeg) x2).1 28 0 x0.toNatClampNeg) ((g_M_come S (rg_M_answer_1_t0 x1) (S.1 26 0 x0.toNatClampNeg) x2).2 29 0 x0.toNatClampNeg))))
set_option maxHeartbeats 4000000 in
set_option maxRecDepth 100000 in
theorem c_M_answer (l : Launch) (D : va_G) (C : Nat → ClassId) (ad : Nat → Nat → Nat) (hJ : z_J ad) (S : z_S) (x0 : Int32) (x1 : Int32) (x2 : Int32) (hom : z_Om S) (hp : vp_in x0 6) (hh : vp_in x2 3) : z_M l y_M_answer b_M_answer 7 none rm_M_answer D C ad [.ref (ad 21 0), .int x0, .int x1, .int x2] S (z_Qv D C ad (g_M_answer S x0 x1 x2)) := by
  refine z_enter (by decide) (Nat.le_of_ble_eq_true rfl) hJ ?_
  intro p e s m below meth c ls hF hr hlk hl hG
  obtain ⟨hx, hb, hml, hown, hts⟩ := hF.1
  have hl : lv_has ls 7 [(0, .ref (ad 21 0)), (1, .int x0), (2, .int x1), (3, .int x2)] := hl
  have hm := z_mmy hom
  refine lv_aload_n hx hb d_M_answer_0 rfl (lv_at hl 0 rfl) ?_
  refine rg_M_answer_1 hF   hG (lv_sub hl [0, 1, 2, 3] rfl) (fun H locs ls t0 hG hl e_t0 => ?_)
  subst e_t0
  refine lv_aload_n hx hb d_M_answer_11 rfl (lv_at hl 0 rfl) ?_
  refine gf_M_23_21 hF hG d_M_answer_12 ?_
  refine lv_iload_n hx hb d_M_answer_15 rfl (lv_at hl 1 rfl) ?_
  refine z_iald (n := 6) (j := x0.toNatClampNeg) (v := (S.1 26 0 x0.toNatClampNeg)) hF hG z_o26 (z_c26 C ad _ _ _) rfl hp rfl d_M_answer_16 ?_
  refine lv_iload_n hx hb d_M_answer_17 rfl (lv_at hl 3 rfl) ?_
  refine kc_M_115 hF (c_M_come l D C ad hF.2.2 _ _ _ _ hm) hG ⟨Nat.le_of_ble_eq_true rfl, Nat.le_of_ble_eq_true rfl⟩ ⟨Nat.zero_le _, Nat.zero_le _⟩ hl.1 (Nat.le_of_ble_eq_true rfl) d_M_answer_18 (fun H locs hG => ?_)
  have hom1 : z_Om (g_M_come S (rg_M_answer_1_t0 x1) (S.1 26 0 x0.toNatClampNeg) x2) := om_M_come hom hh
  refine lv_istore (lv' := [(4, .int (f_M_come S)), (0, .ref (ad 21 0)), (1, .int x0), (2, .int x1), (3, .int x2)]) hx hb d_M_answer_21 hl (Nat.le_of_ble_eq_true rfl) rfl (fun ls hl => ?_)
  refine lv_aload_n hx hb d_M_answer_23 rfl (lv_at hl 1 rfl) ?_
  refine gf_M_60_21 hF hG d_M_answer_24 ?_
  refine lv_iload hx hb d_M_answer_27 (lv_at hl 0 rfl) ?_
  refine lv_aload_n hx hb d_M_answer_29 rfl (lv_at hl 1 rfl) ?_
  refine lv_iload_n hx hb d_M_answer_30 rfl (lv_at hl 4 rfl) ?_
  refine lv_aload_n hx hb d_M_answer_31 rfl (lv_at hl 1 rfl) ?_
  refine gf_M_26_21 hF hG d_M_answer_32 ?_
  refine lv_iload_n hx hb d_M_answer_35 rfl (lv_at hl 2 rfl) ?_
  refine z_iald (n := 6) (j := x0.toNatClampNeg) (v := ((g_M_come S (rg_M_answer_1_t0 x1) (S.1 26 0 x0.toNatClampNeg) x2).1 27 0 x0.toNatClampNeg)) hF hG z_o27 (z_c27 C ad _ _ _) rfl (by assumption) rfl d_M_answer_36 ?_
  refine lv_aload_n hx hb d_M_answer_37 rfl (lv_at hl 1 rfl) ?_
  refine gf_M_29_21 hF hG d_M_answer_38 ?_
  refine lv_iload_n hx hb d_M_answer_41 rfl (lv_at hl 2 rfl) ?_
  refine z_iald (n := 6) (j := x0.toNatClampNeg) (v := ((g_M_come S (rg_M_answer_1_t0 x1) (S.1 26 0 x0.toNatClampNeg) x2).1 28 0 x0.toNatClampNeg)) hF hG z_o28 (z_c28 C ad _ _ _) rfl (by assumption) rfl d_M_answer_42 ?_
  refine lv_aload_n hx hb d_M_answer_43 rfl (lv_at hl 1 rfl) ?_
  refine gf_M_32_21 hF hG d_M_answer_44 ?_
  refine lv_iload_n hx hb d_M_answer_47 rfl (lv_at hl 2 rfl) ?_
  refine z_lald (n := 6) (j := x0.toNatClampNeg) (v := ((g_M_come S (rg_M_answer_1_t0 x1) (S.1 26 0 x0.toNatClampNeg) x2).2 29 0 x0.toNatClampNeg)) hF hG z_o29 (z_c29 C ad _ _ _) rfl hp rfl d_M_answer_48 ?_
  refine kc_M_149 hF (c_M_sum l D C ad hF.2.2 _ _ _ _ _ ) hG ⟨Nat.le_of_ble_eq_true rfl, Nat.le_of_ble_eq_true rfl⟩ ⟨Nat.zero_le _, Nat.zero_le _⟩ hl.1 (Nat.le_of_ble_eq_true rfl) d_M_answer_49 (fun H locs hG => ?_)
  refine z_last (n := 25) (j := (f_M_come S).toNatClampNeg) hF hG z_o38 (fun f g => z_c38 C ad f g _) rfl (z_cmr hm) d_M_answer_52 (fun H locs hG => ?_)
  have hom1 : z_Om (z_sL (g_M_come S (rg_M_answer_1_t0 x1) (S.1 26 0 x0.toNatClampNeg) x2) 38 0 ((f_M_come S).toNatClampNeg) (f_M_sum (g_M_come S (rg_M_answer_1_t0 x1) (S.1 26 0 x0.toNatClampNeg) x2) x2 ((g_M_come S (rg_M_answer_1_t0 x1) (S.1 26 0 x0.toNatClampNeg) x2).1 27 0 x0.toNatClampNeg) ((g_M_come S (rg_M_answer_1_t0 x1) (S.1 26 0 x0.toNatClampNeg) x2).1 28 0 x0.toNatClampNeg) ((g_M_come S (rg_M_answer_1_t0 x1) (S.1 26 0 x0.toNatClampNeg) x2).2 29 0 x0.toNatClampNeg))) := hom1.of rfl rfl rfl rfl rfl rfl rfl
  refine lv_aload_n hx hb d_M_answer_53 rfl (lv_at hl 1 rfl) ?_
  refine lv_aload_n hx hb d_M_answer_54 rfl (lv_at hl 1 rfl) ?_
  refine gf_M_26_21 hF hG d_M_answer_55 ?_
  refine lv_iload_n hx hb d_M_answer_58 rfl (lv_at hl 2 rfl) ?_
  refine z_iald (n := 6) (j := x0.toNatClampNeg) (v := ((g_M_come S (rg_M_answer_1_t0 x1) (S.1 26 0 x0.toNatClampNeg) x2).1 27 0 x0.toNatClampNeg)) hF hG z_o27 (z_c27 C ad _ _ _) rfl (by assumption) rfl d_M_answer_59 ?_
  refine lv_aload_n hx hb d_M_answer_60 rfl (lv_at hl 1 rfl) ?_
  refine gf_M_29_21 hF hG d_M_answer_61 ?_
  refine lv_iload_n hx hb d_M_answer_64 rfl (lv_at hl 2 rfl) ?_
  refine z_iald (n := 6) (j := x0.toNatClampNeg) (v := ((g_M_come S (rg_M_answer_1_t0 x1) (S.1 26 0 x0.toNatClampNeg) x2).1 28 0 x0.toNatClampNeg)) hF hG z_o28 (z_c28 C ad _ _ _) rfl (by assumption) rfl d_M_answer_65 ?_
  refine kc_M_90 hF (c_M_sizeOf l D C ad hF.2.2 _ _ _ ) hG ⟨Nat.le_of_ble_eq_true rfl, Nat.le_of_ble_eq_true rfl⟩ ⟨Nat.zero_le _, Nat.zero_le _⟩ hl.1 (Nat.le_of_ble_eq_true rfl) d_M_answer_66 (fun H locs hG => ?_)
  refine lv_istore (lv' := [(5, .int (f_M_sizeOf (z_sL (g_M_come S (rg_M_answer_1_t0 x1) (S.1 26 0 x0.toNatClampNeg) x2) 38 0 ((f_M_come S).toNatClampNeg) (f_M_sum (g_M_come S (rg_M_answer_1_t0 x1) (S.1 26 0 x0.toNatClampNeg) x2) x2 ((g_M_come S (rg_M_answer_1_t0 x1) (S.1 26 0 x0.toNatClampNeg) x2).1 27 0 x0.toNatClampNeg) ((g_M_come S (rg_M_answer_1_t0 x1) (S.1 26 0 x0.toNatClampNeg) x2).1 28 0 x0.toNatClampNeg) ((g_M_come S (rg_M_answer_1_t0 x1) (S.1 26 0 x0.toNatClampNeg) x2).2 29 0 x0.toNatClampNeg))) ((g_M_come S (rg_M_answer_1_t0 x1) (S.1 26 0 x0.toNatClampNeg) x2).1 27 0 x0.toNatClampNeg) ((g_M_come S (rg_M_answer_1_t0 x1) (S.1 26 0 x0.toNatClampNeg) x2).1 28 0 x0.toNatClampNeg))), (4, .int (f_M_come S)), (0, .ref (ad 21 0)), (1, .int x0), (2, .int x1), (3, .int x2)]) hx hb d_M_answer_69 hl (Nat.le_of_ble_eq_true rfl) rfl (fun ls hl => ?_)
  refine lv_iconst (v := 0) hx hb d_M_answer_71 z_k0 ?_
  refine lv_istore (lv' := [(6, .int 0), (5, .int (f_M_sizeOf (z_sL (g_M_come S (rg_M_answer_1_t0 x1) (S.1 26 0 x0.toNatClampNeg) x2) 38 0 ((f_M_come S).toNatClampNeg) (f_M_sum (g_M_come S (rg_M_answer_1_t0 x1) (S.1 26 0 x0.toNatClampNeg) x2) x2 ((g_M_come S (rg_M_answer_1_t0 x1) (S.1 26 0 x0.toNatClampNeg) x2).1 27 0 x0.toNatClampNeg) ((g_M_come S (rg_M_answer_1_t0 x1) (S.1 26 0 x0.toNatClampNeg) x2).1 28 0 x0.toNatClampNeg) ((g_M_come S (rg_M_answer_1_t0 x1) (S.1 26 0 x0.toNatClampNeg) x2).2 29 0 x0.toNatClampNeg))) ((g_M_come S (rg_M_answer_1_t0 x1) (S.1 26 0 x0.toNatClampNeg) x2).1 27 0 x0.toNatClampNeg) ((g_M_come S (rg_M_answer_1_t0 x1) (S.1 26 0 x0.toNatClampNeg) x2).1 28 0 x0.toNatClampNeg))), (4, .int (f_M_come S)), (0, .ref (ad 21 0)), (1, .int x0), (2, .int x1), (3, .int x2)]) hx hb d_M_answer_72 hl (Nat.le_of_ble_eq_true rfl) rfl (fun ls hl => ?_)
  have hl : lv_has ls 7 [(0, .ref (ad 21 0)), (1, .int x0), (2, .int x1), (3, .int x2), (4, .int (f_M_come S)), (5, .int (f_M_sizeOf (z_sL (g_M_come S (rg_M_answer_1_t0 x1) (S.1 26 0 x0.toNatClampNeg) x2) 38 0 ((f_M_come S).toNatClampNeg) (f_M_sum (g_M_come S (rg_M_answer_1_t0 x1) (S.1 26 0 x0.toNatClampNeg) x2) x2 ((g_M_come S (rg_M_answer_1_t0 x1) (S.1 26 0 x0.toNatClampNeg) x2).1 27 0 x0.toNatClampNeg) ((g_M_come S (rg_M_answer_1_t0 x1) (S.1 26 0 x0.toNatClampNeg) x2).1 28 0 x0.toNatClampNeg) ((g_M_come S (rg_M_answer_1_t0 x1) (S.1 26 0 x0.toNatClampNeg) x2).2 29 0 x0.toNatClampNeg))) ((g_M_come S (rg_M_answer_1_t0 x1) (S.1 26 0 x0.toNatClampNeg) x2).1 27 0 x0.toNatClampNeg) ((g_M_come S (rg_M_answer_1_t0 x1) (S.1 26 0 x0.toNatClampNeg) x2).1 28 0 x0.toNatClampNeg))), (6, .int (nI 0))] := by
    have h9 := lv_sub hl [3, 4, 5, 6, 2, 1, 0] rfl
    rw [nI_0]; exact h9
  refine lp_M_answer_74 (N := 4 * (f_M_sizeOf (z_sL (g_M_come S (rg_M_answer_1_t0 x1) (S.1 26 0 x0.toNatClampNeg) x2) 38 0 ((f_M_come S).toNatClampNeg) (f_M_sum (g_M_come S (rg_M_answer_1_t0 x1) (S.1 26 0 x0.toNatClampNeg) x2) x2 ((g_M_come S (rg_M_answer_1_t0 x1) (S.1 26 0 x0.toNatClampNeg) x2).1 27 0 x0.toNatClampNeg) ((g_M_come S (rg_M_answer_1_t0 x1) (S.1 26 0 x0.toNatClampNeg) x2).1 28 0 x0.toNatClampNeg) ((g_M_come S (rg_M_answer_1_t0 x1) (S.1 26 0 x0.toNatClampNeg) x2).2 29 0 x0.toNatClampNeg))) ((g_M_come S (rg_M_answer_1_t0 x1) (S.1 26 0 x0.toNatClampNeg) x2).1 27 0 x0.toNatClampNeg) ((g_M_come S (rg_M_answer_1_t0 x1) (S.1 26 0 x0.toNatClampNeg) x2).1 28 0 x0.toNatClampNeg)).toNatClampNeg) hF  (z_4n z_szn) z_szl8 hp (z_l8 (z_cmr hm)) (4 * (f_M_sizeOf (z_sL (g_M_come S (rg_M_answer_1_t0 x1) (S.1 26 0 x0.toNatClampNeg) x2) 38 0 ((f_M_come S).toNatClampNeg) (f_M_sum (g_M_come S (rg_M_answer_1_t0 x1) (S.1 26 0 x0.toNatClampNeg) x2) x2 ((g_M_come S (rg_M_answer_1_t0 x1) (S.1 26 0 x0.toNatClampNeg) x2).1 27 0 x0.toNatClampNeg) ((g_M_come S (rg_M_answer_1_t0 x1) (S.1 26 0 x0.toNatClampNeg) x2).1 28 0 x0.toNatClampNeg) ((g_M_come S (rg_M_answer_1_t0 x1) (S.1 26 0 x0.toNatClampNeg) x2).2 29 0 x0.toNatClampNeg))) ((g_M_come S (rg_M_answer_1_t0 x1) (S.1 26 0 x0.toNatClampNeg) x2).1 27 0 x0.toNatClampNeg) ((g_M_come S (rg_M_answer_1_t0 x1) (S.1 26 0 x0.toNatClampNeg) x2).1 28 0 x0.toNatClampNeg)).toNatClampNeg) 0 (z_sL (g_M_come S (rg_M_answer_1_t0 x1) (S.1 26 0 x0.toNatClampNeg) x2) 38 0 ((f_M_come S).toNatClampNeg) (f_M_sum (g_M_come S (rg_M_answer_1_t0 x1) (S.1 26 0 x0.toNatClampNeg) x2) x2 ((g_M_come S (rg_M_answer_1_t0 x1) (S.1 26 0 x0.toNatClampNeg) x2).1 27 0 x0.toNatClampNeg) ((g_M_come S (rg_M_answer_1_t0 x1) (S.1 26 0 x0.toNatClampNeg) x2).1 28 0 x0.toNatClampNeg) ((g_M_come S (rg_M_answer_1_t0 x1) (S.1 26 0 x0.toNatClampNeg) x2).2 29 0 x0.toNatClampNeg))) _ _ ls (Nat.zero_add _) (z_bat hom1 hp hh (Nat.le_refl 8)) hG hl (fun H locs ls hG hl => ?_)
  exact z_vret hF hr hlk hG rfl d_M_answer_115
def f_M_step (S : z_S) : Int32 := (if (S.1 21 0 14) = 0 then 0 else (if (f_M_placeOf S (S.1 36 0 0)) < 0 then (S.1 35 0 0) else (if (S.1 35 0 0) = 2 then (S.1 35 0 0) else (if (S.1 35 0 0) = 4 then (S.1 35 0 0) else (if ((g_M_leave S 0 0 ((S.1 21 0 14).toNatClampNeg - 1)).1 24 0 ((S.1 37 0 0).toNatClampNeg)) = 0 then (S.1 35 0 0) else (S.1 35 0 0))))))
def g_M_step (S : z_S) : z_S := (if (S.1 21 0 14) = 0 then S else (if (f_M_placeOf S (S.1 36 0 0)) < 0 then (g_M_leave S 0 0 ((S.1 21 0 14).toNatClampNeg - 1)) else (if (S.1 35 0 0) = 2 then (g_M_takeSum (g_M_leave S 0 0 ((S.1 21 0 14).toNatClampNeg - 1)) (f_M_placeOf S (S.1 36 0 0)) (S.1 37 0 0) ((g_M_leave S 0 0 ((S.1 21 0 14).toNatClampNeg - 1)).2 38 0 24)) else (if (S.1 35 0 0) = 4 then (g_M_takeCopy (g_M_leave S 0 0 ((S.1 21 0 14).toNatClampNeg - 1)) (f_M_placeOf S (S.1 36 0 0)) (S.1 37 0 0)) else (if ((g_M_leave S 0 0 ((S.1 21 0 14).toNatClampNeg - 1)).1 24 0 ((S.1 37 0 0).toNatClampNeg)) = 0 then (g_M_leave S 0 0 ((S.1 21 0 14).toNatClampNeg - 1)) else (g_M_answer (g_M_leave S 0 0 ((S.1 21 0 14).toNatClampNeg - 1)) (f_M_placeOf S (S.1 36 0 0)) (S.1 35 0 0) (S.1 37 0 0)))))))
set_option maxHeartbeats 4000000 in
set_option maxRecDepth 100000 in
theorem c_M_step (l : Launch) (D : va_G) (C : Nat → ClassId) (ad : Nat → Nat → Nat) (hJ : z_J ad) (S : z_S) (hom : z_Om S) : z_M l y_M_step b_M_step 4 (some .int) rm_M_step D C ad [.ref (ad 21 0)] S (z_Qi D C ad (f_M_step S) (g_M_step S)) := by
  refine z_enter (by decide) (Nat.le_of_ble_eq_true rfl) hJ ?_
  intro p e s m below meth c ls hF hr hlk hl hG
  obtain ⟨hx, hb, hml, hown, hts⟩ := hF.1
  have hl : lv_has ls 4 [(0, .ref (ad 21 0))] := hl
  refine lv_aload_n hx hb d_M_step_0 rfl (lv_at hl 0 rfl) ?_
  refine gf_M_98_21 hF hG (v := (S.1 21 0 14)) rfl d_M_step_1 ?_
  refine lv_if_ne (tgt := 9) hx hb d_M_step_4 rfl (fun h4 => ?_) (fun h4 => ?_)
  ·
    refine lv_aload_n hx hb d_M_step_9 rfl (lv_at hl 0 rfl) ?_
    refine gf_M_51_21 hF hG d_M_step_10 ?_
    refine lv_iconst (v := 0) hx hb d_M_step_13 z_k0 ?_
    refine z_iald (n := 25) (j := 0) (v := (S.1 35 0 0)) hF hG z_o35 (z_c35 C ad _ _ _) z_q0 z_in0_25 rfl d_M_step_14 ?_
    refine lv_istore_n (lv' := [(1, .int (S.1 35 0 0)), (0, .ref (ad 21 0))]) hx hb d_M_step_15 rfl hl (Nat.le_of_ble_eq_true rfl) rfl (fun ls hl => ?_)
    refine lv_aload_n hx hb d_M_step_16 rfl (lv_at hl 1 rfl) ?_
    refine gf_M_57_21 hF hG d_M_step_17 ?_
    refine lv_iconst (v := 0) hx hb d_M_step_20 z_k0 ?_
    refine z_iald (n := 25) (j := 0) (v := (S.1 37 0 0)) hF hG z_o37 (z_c37 C ad _ _ _) z_q0 z_in0_25 rfl d_M_step_21 ?_
    refine lv_istore_n (lv' := [(2, .int (S.1 37 0 0)), (1, .int (S.1 35 0 0)), (0, .ref (ad 21 0))]) hx hb d_M_step_22 rfl hl (Nat.le_of_ble_eq_true rfl) rfl (fun ls hl => ?_)
    refine lv_aload_n hx hb d_M_step_23 rfl (lv_at hl 2 rfl) ?_
    refine lv_aload_n hx hb d_M_step_24 rfl (lv_at hl 2 rfl) ?_
    refine gf_M_54_21 hF hG d_M_step_25 ?_
    refine lv_iconst (v := 0) hx hb d_M_step_28 z_k0 ?_
    refine z_iald (n := 25) (j := 0) (v := (S.1 36 0 0)) hF hG z_o36 (z_c36 C ad _ _ _) z_q0 z_in0_25 rfl d_M_step_29 ?_
    refine kc_M_119 hF (c_M_placeOf l D C ad hF.2.2 _ _ ) hG ⟨Nat.le_of_ble_eq_true rfl, Nat.le_of_ble_eq_true rfl⟩ ⟨Nat.zero_le _, Nat.zero_le _⟩ hl.1 (Nat.le_of_ble_eq_true rfl) d_M_step_30 (fun H locs hG => ?_)
    refine lv_istore_n (lv' := [(3, .int (f_M_placeOf S (S.1 36 0 0))), (2, .int (S.1 37 0 0)), (1, .int (S.1 35 0 0)), (0, .ref (ad 21 0))]) hx hb d_M_step_33 rfl hl (Nat.le_of_ble_eq_true rfl) rfl (fun ls hl => ?_)
    refine lv_aload_n hx hb d_M_step_34 rfl (lv_at hl 3 rfl) ?_
    refine lv_iconst (v := 0) hx hb d_M_step_35 z_k0 ?_
    refine kc_M_108 hF (c_M_leave l D C ad hF.2.2 _ _ 0 ((S.1 21 0 14).toNatClampNeg - 1) nI_0.symm (z_ns2 hom h4) (Nat.zero_le _) (z_ns4 hom h4)) hG ⟨Nat.le_of_ble_eq_true rfl, Nat.le_of_ble_eq_true rfl⟩ ⟨Nat.zero_le _, Nat.zero_le _⟩ hl.1 (Nat.le_of_ble_eq_true rfl) d_M_step_36 (fun H locs hG => ?_)
    have hom1 : z_Om (g_M_leave S 0 0 ((S.1 21 0 14).toNatClampNeg - 1)) := om_M_leave hom nI_0.symm (z_ns2 hom h4) (Nat.zero_le _) (z_ns4 hom h4)
    refine lv_iload_n hx hb d_M_step_39 rfl (lv_at hl 0 rfl) ?_
    refine lv_if_lt (tgt := 94) hx hb d_M_step_40 rfl (fun h40 => ?_) (fun h40 => ?_)
    ·
      refine lv_iload_n hx hb d_M_step_94 rfl (lv_at hl 2 rfl) ?_
      exact z_iret hF hr hlk hG (Eq.symm ((if_neg h4).trans ((if_pos h40).trans rfl))) (Eq.symm ((if_neg h4).trans ((if_pos h40).trans rfl))) d_M_step_95
    ·
      refine lv_iload_n hx hb d_M_step_43 rfl (lv_at hl 2 rfl) ?_
      refine lv_iconst (v := 2) hx hb d_M_step_44 z_k2 ?_
      refine lv_icmp_ne (tgt := 64) hx hb d_M_step_45 rfl (fun h45 => ?_) (fun h45 => ?_)
      ·
        refine lv_iload_n hx hb d_M_step_64 rfl (lv_at hl 2 rfl) ?_
        refine lv_iconst (v := 4) hx hb d_M_step_65 z_k4 ?_
        refine lv_icmp_ne (tgt := 78) hx hb d_M_step_66 rfl (fun h66 => ?_) (fun h66 => ?_)
        ·
          refine lv_aload_n hx hb d_M_step_78 rfl (lv_at hl 3 rfl) ?_
          refine gf_M_16_21 hF hG d_M_step_79 ?_
          refine lv_iload_n hx hb d_M_step_82 rfl (lv_at hl 1 rfl) ?_
          refine z_zald (n := 3) (j := (S.1 37 0 0).toNatClampNeg) (v := ((g_M_leave S 0 0 ((S.1 21 0 14).toNatClampNeg - 1)).1 24 0 ((S.1 37 0 0).toNatClampNeg))) hF hG z_o24 (z_c24 C ad _ _ _) rfl (hom.2.2.1 0 (by decide)) rfl d_M_step_83 ?_
          refine lv_if_eq (tgt := 94) hx hb d_M_step_84 rfl (fun h84 => ?_) (fun h84 => ?_)
          ·
            refine lv_iload_n hx hb d_M_step_94 rfl (lv_at hl 2 rfl) ?_
            exact z_iret hF hr hlk hG (Eq.symm ((if_neg h4).trans ((if_neg h40).trans ((if_neg h45).trans ((if_neg h66).trans ((if_pos h84).trans rfl)))))) (Eq.symm ((if_neg h4).trans ((if_neg h40).trans ((if_neg h45).trans ((if_neg h66).trans ((if_pos h84).trans rfl)))))) d_M_step_95
          ·
            refine lv_aload_n hx hb d_M_step_87 rfl (lv_at hl 3 rfl) ?_
            refine lv_iload_n hx hb d_M_step_88 rfl (lv_at hl 0 rfl) ?_
            refine lv_iload_n hx hb d_M_step_89 rfl (lv_at hl 2 rfl) ?_
            refine lv_iload_n hx hb d_M_step_90 rfl (lv_at hl 1 rfl) ?_
            refine kc_M_160 hF (c_M_answer l D C ad hF.2.2 (g_M_leave S 0 0 ((S.1 21 0 14).toNatClampNeg - 1)) _ _ _ hom1 (z_mi_nn pl_M_placeOf h40) (hom.2.2.1 0 (by decide))) hG ⟨Nat.le_of_ble_eq_true rfl, Nat.le_of_ble_eq_true rfl⟩ ⟨Nat.zero_le _, Nat.zero_le _⟩ hl.1 (Nat.le_of_ble_eq_true rfl) d_M_step_91 (fun H locs hG => ?_)
            refine lv_iload_n hx hb d_M_step_94 rfl (lv_at hl 2 rfl) ?_
            exact z_iret hF hr hlk hG (Eq.symm ((if_neg h4).trans ((if_neg h40).trans ((if_neg h45).trans ((if_neg h66).trans ((if_neg h84).trans rfl)))))) (Eq.symm ((if_neg h4).trans ((if_neg h40).trans ((if_neg h45).trans ((if_neg h66).trans ((if_neg h84).trans rfl)))))) d_M_step_95
        ·
          refine lv_aload_n hx hb d_M_step_69 rfl (lv_at hl 3 rfl) ?_
          refine lv_iload_n hx hb d_M_step_70 rfl (lv_at hl 0 rfl) ?_
          refine lv_iload_n hx hb d_M_step_71 rfl (lv_at hl 1 rfl) ?_
          refine kc_M_157 hF (c_M_takeCopy l D C ad hF.2.2 (g_M_leave S 0 0 ((S.1 21 0 14).toNatClampNeg - 1)) _ _ hom1 (z_mi_nn pl_M_placeOf h40) (hom.2.2.1 0 (by decide))) hG ⟨Nat.le_of_ble_eq_true rfl, Nat.le_of_ble_eq_true rfl⟩ ⟨Nat.zero_le _, Nat.zero_le _⟩ hl.1 (Nat.le_of_ble_eq_true rfl) d_M_step_72 (fun H locs hG => ?_)
          refine lv_goto (tgt := 94) hx hb d_M_step_75 rfl ?_
          refine lv_iload_n hx hb d_M_step_94 rfl (lv_at hl 2 rfl) ?_
          exact z_iret hF hr hlk hG (Eq.symm ((if_neg h4).trans ((if_neg h40).trans ((if_neg h45).trans ((if_pos h66).trans rfl))))) (Eq.symm ((if_neg h4).trans ((if_neg h40).trans ((if_neg h45).trans ((if_pos h66).trans rfl))))) d_M_step_95
      ·
        refine lv_aload_n hx hb d_M_step_48 rfl (lv_at hl 3 rfl) ?_
        refine lv_iload_n hx hb d_M_step_49 rfl (lv_at hl 0 rfl) ?_
        refine lv_iload_n hx hb d_M_step_50 rfl (lv_at hl 1 rfl) ?_
        refine lv_aload_n hx hb d_M_step_51 rfl (lv_at hl 3 rfl) ?_
        refine gf_M_60_21 hF hG d_M_step_52 ?_
        refine lv_bipush (v := 24) hx hb d_M_step_55 z_bi24 ?_
        refine z_lald (n := 25) (j := 24) (v := ((g_M_leave S 0 0 ((S.1 21 0 14).toNatClampNeg - 1)).2 38 0 24)) hF hG z_o38 (z_c38 C ad _ _ _) z_q24 z_in24_25 rfl d_M_step_57 ?_
        refine kc_M_153 hF (c_M_takeSum l D C ad hF.2.2 (g_M_leave S 0 0 ((S.1 21 0 14).toNatClampNeg - 1)) _ _ _ hom1 (z_mi_nn pl_M_placeOf h40) (hom.2.2.1 0 (by decide))) hG ⟨Nat.le_of_ble_eq_true rfl, Nat.le_of_ble_eq_true rfl⟩ ⟨Nat.zero_le _, Nat.zero_le _⟩ hl.1 (Nat.le_of_ble_eq_true rfl) d_M_step_58 (fun H locs hG => ?_)
        refine lv_goto (tgt := 94) hx hb d_M_step_61 rfl ?_
        refine lv_iload_n hx hb d_M_step_94 rfl (lv_at hl 2 rfl) ?_
        exact z_iret hF hr hlk hG (Eq.symm ((if_neg h4).trans ((if_neg h40).trans ((if_pos h45).trans rfl)))) (Eq.symm ((if_neg h4).trans ((if_neg h40).trans ((if_pos h45).trans rfl)))) d_M_step_95
  ·
    refine lv_iconst (v := 0) hx hb d_M_step_7 z_k0 ?_
    exact z_iret hF hr hlk hG (Eq.symm ((if_pos h4).trans rfl)) (Eq.symm ((if_pos h4).trans rfl)) d_M_step_8
def f_M_giveUp (S : z_S) (x0 : Int32) : Int32 := (if 0 ≤ (f_M_placeOf S x0) then 1 else 0)
def g_M_giveUp (S : z_S) (x0 : Int32) : z_S := (if 0 ≤ (f_M_placeOf S x0) then (g_M_end S (f_M_placeOf S x0) 4) else S)
set_option maxHeartbeats 4000000 in
set_option maxRecDepth 100000 in
theorem c_M_giveUp (l : Launch) (D : va_G) (C : Nat → ClassId) (ad : Nat → Nat → Nat) (hJ : z_J ad) (S : z_S) (x0 : Int32) (hom : z_Om S) : z_M l y_M_giveUp b_M_giveUp 3 (some .boolean) rm_M_giveUp D C ad [.ref (ad 21 0), .int x0] S (z_Qi D C ad (f_M_giveUp S x0) (g_M_giveUp S x0)) := by
  refine z_enter (by decide) (Nat.le_of_ble_eq_true rfl) hJ ?_
  intro p e s m below meth c ls hF hr hlk hl hG
  obtain ⟨hx, hb, hml, hown, hts⟩ := hF.1
  have hl : lv_has ls 3 [(0, .ref (ad 21 0)), (1, .int x0)] := hl
  refine lv_aload_n hx hb d_M_giveUp_0 rfl (lv_at hl 0 rfl) ?_
  refine lv_iload_n hx hb d_M_giveUp_1 rfl (lv_at hl 1 rfl) ?_
  refine kc_M_119 hF (c_M_placeOf l D C ad hF.2.2 _ _ ) hG ⟨Nat.le_of_ble_eq_true rfl, Nat.le_of_ble_eq_true rfl⟩ ⟨Nat.zero_le _, Nat.zero_le _⟩ hl.1 (Nat.le_of_ble_eq_true rfl) d_M_giveUp_2 (fun H locs hG => ?_)
  refine lv_istore_n (lv' := [(2, .int (f_M_placeOf S x0)), (0, .ref (ad 21 0)), (1, .int x0)]) hx hb d_M_giveUp_5 rfl hl (Nat.le_of_ble_eq_true rfl) rfl (fun ls hl => ?_)
  refine lv_iload_n hx hb d_M_giveUp_6 rfl (lv_at hl 0 rfl) ?_
  refine lv_if_ge (tgt := 12) hx hb d_M_giveUp_7 rfl (fun h7 => ?_) (fun h7 => ?_)
  ·
    refine lv_aload_n hx hb d_M_giveUp_12 rfl (lv_at hl 1 rfl) ?_
    refine lv_iload_n hx hb d_M_giveUp_13 rfl (lv_at hl 0 rfl) ?_
    refine lv_iconst (v := 4) hx hb d_M_giveUp_14 z_k4 ?_
    refine kc_M_129 hF (c_M_end l D C ad hF.2.2 _ _ _ hom (z_mi_pos pl_M_placeOf h7)) hG ⟨Nat.le_of_ble_eq_true rfl, Nat.le_of_ble_eq_true rfl⟩ ⟨Nat.zero_le _, Nat.zero_le _⟩ hl.1 (Nat.le_of_ble_eq_true rfl) d_M_giveUp_15 (fun H locs hG => ?_)
    refine lv_iconst (v := 1) hx hb d_M_giveUp_18 z_k1 ?_
    exact z_zret hF hr hlk rfl hG (Eq.symm ((if_pos h7).trans rfl)) (Eq.symm ((if_pos h7).trans rfl)) d_M_giveUp_19
  ·
    refine lv_iconst (v := 0) hx hb d_M_giveUp_10 z_k0 ?_
    exact z_zret hF hr hlk rfl hG (Eq.symm ((if_neg h7).trans rfl)) (Eq.symm ((if_neg h7).trans rfl)) d_M_giveUp_11
def f_M_result (S : z_S) (x0 : Int32) : Int32 := (if x0 < 1 then (-1) else (if x0 ≤ (S.1 21 0 3) then (S.1 25 0 x0.toNatClampNeg) else (-1)))
set_option maxHeartbeats 4000000 in
set_option maxRecDepth 100000 in
theorem c_M_result (l : Launch) (D : va_G) (C : Nat → ClassId) (ad : Nat → Nat → Nat) (hJ : z_J ad) (S : z_S) (x0 : Int32) (hom : z_Om S) : z_M l y_M_result b_M_result 2 (some .int) rm_M_result D C ad [.ref (ad 21 0), .int x0] S (z_Qi D C ad (f_M_result S x0) S) := by
  refine z_enter (by decide) (Nat.le_of_ble_eq_true rfl) hJ ?_
  intro p e s m below meth c ls hF hr hlk hl hG
  obtain ⟨hx, hb, hml, hown, hts⟩ := hF.1
  have hl : lv_has ls 2 [(0, .ref (ad 21 0)), (1, .int x0)] := hl
  refine lv_iload_n hx hb d_M_result_0 rfl (lv_at hl 1 rfl) ?_
  refine lv_iconst (v := 1) hx hb d_M_result_1 z_k1 ?_
  refine lv_icmp_lt (tgt := 13) hx hb d_M_result_2 rfl (fun h2 => ?_) (fun h2 => ?_)
  ·
    refine lv_iconst (v := (-1)) hx hb d_M_result_13 z_km1 ?_
    refine lv_goto (tgt := 23) hx hb d_M_result_14 rfl ?_
    exact z_iret hF hr hlk hG (Eq.symm ((if_pos h2).trans rfl)) rfl d_M_result_23
  ·
    refine lv_iload_n hx hb d_M_result_5 rfl (lv_at hl 1 rfl) ?_
    refine lv_aload_n hx hb d_M_result_6 rfl (lv_at hl 0 rfl) ?_
    refine gf_M_112_21 hF hG (v := (S.1 21 0 3)) rfl d_M_result_7 ?_
    refine lv_icmp_le (tgt := 17) hx hb d_M_result_10 rfl (fun h10 => ?_) (fun h10 => ?_)
    ·
      refine lv_aload_n hx hb d_M_result_17 rfl (lv_at hl 0 rfl) ?_
      refine gf_M_20_21 hF hG d_M_result_18 ?_
      refine lv_iload_n hx hb d_M_result_21 rfl (lv_at hl 1 rfl) ?_
      refine z_iald (n := 600) (j := x0.toNatClampNeg) (v := (S.1 25 0 x0.toNatClampNeg)) hF hG z_o25 (z_c25 C ad _ _ _) rfl (z_mre hom h2 h10) rfl d_M_result_22 ?_
      exact z_iret hF hr hlk hG (Eq.symm ((if_neg h2).trans ((if_pos h10).trans rfl))) rfl d_M_result_23
    ·
      refine lv_iconst (v := (-1)) hx hb d_M_result_13 z_km1 ?_
      refine lv_goto (tgt := 23) hx hb d_M_result_14 rfl ?_
      exact z_iret hF hr hlk hG (Eq.symm ((if_neg h2).trans ((if_neg h10).trans rfl))) rfl d_M_result_23
def f_M_close (S : z_S) (x0 : Int32) : Int32 := (if (f_M_isHouse x0) = 0 then 0 else (if (S.1 24 0 x0.toNatClampNeg) = 0 then 0 else 1))
def g_M_close (S : z_S) (x0 : Int32) : z_S := (if (f_M_isHouse x0) = 0 then S else (if (S.1 24 0 x0.toNatClampNeg) = 0 then S else (z_sI S 24 0 x0.toNatClampNeg 0)))
set_option maxHeartbeats 4000000 in
set_option maxRecDepth 100000 in
theorem c_M_close (l : Launch) (D : va_G) (C : Nat → ClassId) (ad : Nat → Nat → Nat) (hJ : z_J ad) (S : z_S) (x0 : Int32)  : z_M l y_M_close b_M_close 2 (some .boolean) rm_M_close D C ad [.ref (ad 21 0), .int x0] S (z_Qi D C ad (f_M_close S x0) (g_M_close S x0)) := by
  refine z_enter (by decide) (Nat.le_of_ble_eq_true rfl) hJ ?_
  intro p e s m below meth c ls hF hr hlk hl hG
  obtain ⟨hx, hb, hml, hown, hts⟩ := hF.1
  have hl : lv_has ls 2 [(0, .ref (ad 21 0)), (1, .int x0)] := hl
  refine lv_iload_n hx hb d_M_close_0 rfl (lv_at hl 1 rfl) ?_
  refine kc_M_76 hF (c_M_isHouse l D C ad hF.2.2 _ _ ) hG ⟨Nat.le_of_ble_eq_true rfl, Nat.le_of_ble_eq_true rfl⟩ ⟨Nat.zero_le _, Nat.zero_le _⟩ hl.1 (Nat.le_of_ble_eq_true rfl) d_M_close_1 (fun H locs hG => ?_)
  refine lv_if_eq (tgt := 16) hx hb d_M_close_4 rfl (fun h4 => ?_) (fun h4 => ?_)
  ·
    refine lv_iconst (v := 0) hx hb d_M_close_16 z_k0 ?_
    exact z_zret hF hr hlk rfl hG (Eq.symm ((if_pos h4).trans rfl)) (Eq.symm ((if_pos h4).trans rfl)) d_M_close_17
  ·
    refine lv_aload_n hx hb d_M_close_7 rfl (lv_at hl 0 rfl) ?_
    refine gf_M_16_21 hF hG d_M_close_8 ?_
    refine lv_iload_n hx hb d_M_close_11 rfl (lv_at hl 1 rfl) ?_
    refine z_zald (n := 3) (j := x0.toNatClampNeg) (v := (S.1 24 0 x0.toNatClampNeg)) hF hG z_o24 (z_c24 C ad _ _ _) rfl (z_mho h4) rfl d_M_close_12 ?_
    refine lv_if_ne (tgt := 18) hx hb d_M_close_13 rfl (fun h13 => ?_) (fun h13 => ?_)
    ·
      refine lv_aload_n hx hb d_M_close_18 rfl (lv_at hl 0 rfl) ?_
      refine gf_M_16_21 hF hG d_M_close_19 ?_
      refine lv_iload_n hx hb d_M_close_22 rfl (lv_at hl 1 rfl) ?_
      refine lv_iconst (v := 0) hx hb d_M_close_23 z_k0 ?_
      refine z_zast (n := 3) (j := x0.toNatClampNeg) hF hG z_o24 (fun f g => z_c24 C ad f g _) rfl (z_mho h4) rfl d_M_close_24 (fun H locs hG => ?_)
      refine lv_iconst (v := 1) hx hb d_M_close_25 z_k1 ?_
      exact z_zret hF hr hlk rfl hG (Eq.symm ((if_neg h4).trans ((if_neg h13).trans rfl))) (Eq.symm ((if_neg h4).trans ((if_neg h13).trans rfl))) d_M_close_26
    ·
      refine lv_iconst (v := 0) hx hb d_M_close_16 z_k0 ?_
      exact z_zret hF hr hlk rfl hG (Eq.symm ((if_neg h4).trans ((if_pos h13).trans rfl))) (Eq.symm ((if_neg h4).trans ((if_pos h13).trans rfl))) d_M_close_17
def f_M_open (S : z_S) (x0 : Int32) : Int32 := (if (f_M_isHouse x0) = 0 then 0 else (if (S.1 24 0 x0.toNatClampNeg) = 0 then 1 else 0))
def g_M_open (S : z_S) (x0 : Int32) : z_S := (if (f_M_isHouse x0) = 0 then S else (if (S.1 24 0 x0.toNatClampNeg) = 0 then (z_sI S 24 0 x0.toNatClampNeg 1) else S))
set_option maxHeartbeats 4000000 in
set_option maxRecDepth 100000 in
theorem c_M_open (l : Launch) (D : va_G) (C : Nat → ClassId) (ad : Nat → Nat → Nat) (hJ : z_J ad) (S : z_S) (x0 : Int32)  : z_M l y_M_open b_M_open 2 (some .boolean) rm_M_open D C ad [.ref (ad 21 0), .int x0] S (z_Qi D C ad (f_M_open S x0) (g_M_open S x0)) := by
  refine z_enter (by decide) (Nat.le_of_ble_eq_true rfl) hJ ?_
  intro p e s m below meth c ls hF hr hlk hl hG
  obtain ⟨hx, hb, hml, hown, hts⟩ := hF.1
  have hl : lv_has ls 2 [(0, .ref (ad 21 0)), (1, .int x0)] := hl
  refine lv_iload_n hx hb d_M_open_0 rfl (lv_at hl 1 rfl) ?_
  refine kc_M_76 hF (c_M_isHouse l D C ad hF.2.2 _ _ ) hG ⟨Nat.le_of_ble_eq_true rfl, Nat.le_of_ble_eq_true rfl⟩ ⟨Nat.zero_le _, Nat.zero_le _⟩ hl.1 (Nat.le_of_ble_eq_true rfl) d_M_open_1 (fun H locs hG => ?_)
  refine lv_if_eq (tgt := 16) hx hb d_M_open_4 rfl (fun h4 => ?_) (fun h4 => ?_)
  ·
    refine lv_iconst (v := 0) hx hb d_M_open_16 z_k0 ?_
    exact z_zret hF hr hlk rfl hG (Eq.symm ((if_pos h4).trans rfl)) (Eq.symm ((if_pos h4).trans rfl)) d_M_open_17
  ·
    refine lv_aload_n hx hb d_M_open_7 rfl (lv_at hl 0 rfl) ?_
    refine gf_M_16_21 hF hG d_M_open_8 ?_
    refine lv_iload_n hx hb d_M_open_11 rfl (lv_at hl 1 rfl) ?_
    refine z_zald (n := 3) (j := x0.toNatClampNeg) (v := (S.1 24 0 x0.toNatClampNeg)) hF hG z_o24 (z_c24 C ad _ _ _) rfl (z_mho h4) rfl d_M_open_12 ?_
    refine lv_if_eq (tgt := 18) hx hb d_M_open_13 rfl (fun h13 => ?_) (fun h13 => ?_)
    ·
      refine lv_aload_n hx hb d_M_open_18 rfl (lv_at hl 0 rfl) ?_
      refine gf_M_16_21 hF hG d_M_open_19 ?_
      refine lv_iload_n hx hb d_M_open_22 rfl (lv_at hl 1 rfl) ?_
      refine lv_iconst (v := 1) hx hb d_M_open_23 z_k1 ?_
      refine z_zast (n := 3) (j := x0.toNatClampNeg) hF hG z_o24 (fun f g => z_c24 C ad f g _) rfl (z_mho h4) rfl d_M_open_24 (fun H locs hG => ?_)
      refine lv_iconst (v := 1) hx hb d_M_open_25 z_k1 ?_
      exact z_zret hF hr hlk rfl hG (Eq.symm ((if_neg h4).trans ((if_pos h13).trans rfl))) (Eq.symm ((if_neg h4).trans ((if_pos h13).trans rfl))) d_M_open_26
    ·
      refine lv_iconst (v := 0) hx hb d_M_open_16 z_k0 ?_
      exact z_zret hF hr hlk rfl hG (Eq.symm ((if_neg h4).trans ((if_neg h13).trans rfl))) (Eq.symm ((if_neg h4).trans ((if_neg h13).trans rfl))) d_M_open_17
def f_M_round (S : z_S) : Int32 := (S.1 21 0 20)
set_option maxHeartbeats 4000000 in
set_option maxRecDepth 100000 in
theorem c_M_round (l : Launch) (D : va_G) (C : Nat → ClassId) (ad : Nat → Nat → Nat) (hJ : z_J ad) (S : z_S)  : z_M l y_M_round b_M_round 1 (some .int) rm_M_round D C ad [.ref (ad 21 0)] S (z_Qi D C ad (f_M_round S) S) := by
  refine z_enter (by decide) (Nat.le_of_ble_eq_true rfl) hJ ?_
  intro p e s m below meth c ls hF hr hlk hl hG
  obtain ⟨hx, hb, hml, hown, hts⟩ := hF.1
  have hl : lv_has ls 1 [(0, .ref (ad 21 0))] := hl
  refine lv_aload_n hx hb d_M_round_0 rfl (lv_at hl 0 rfl) ?_
  refine gf_M_66_21 hF hG (v := (S.1 21 0 20)) rfl d_M_round_1 ?_
  exact z_iret hF hr hlk hG rfl rfl d_M_round_4
def f_M_done (S : z_S) : Int32 := (f_M_count S 1)
set_option maxHeartbeats 4000000 in
set_option maxRecDepth 100000 in
theorem c_M_done (l : Launch) (D : va_G) (C : Nat → ClassId) (ad : Nat → Nat → Nat) (hJ : z_J ad) (S : z_S)  : z_M l y_M_done b_M_done 1 (some .int) rm_M_done D C ad [.ref (ad 21 0)] S (z_Qi D C ad (f_M_done S) S) := by
  refine z_enter (by decide) (Nat.le_of_ble_eq_true rfl) hJ ?_
  intro p e s m below meth c ls hF hr hlk hl hG
  obtain ⟨hx, hb, hml, hown, hts⟩ := hF.1
  have hl : lv_has ls 1 [(0, .ref (ad 21 0))] := hl
  refine lv_aload_n hx hb d_M_done_0 rfl (lv_at hl 0 rfl) ?_
  refine lv_iconst (v := 1) hx hb d_M_done_1 z_k1 ?_
  refine kc_M_125 hF (c_M_count l D C ad hF.2.2 _ _ ) hG ⟨Nat.le_of_ble_eq_true rfl, Nat.le_of_ble_eq_true rfl⟩ ⟨Nat.zero_le _, Nat.zero_le _⟩ hl.1 (Nat.le_of_ble_eq_true rfl) d_M_done_2 (fun H locs hG => ?_)
  exact z_iret hF hr hlk hG rfl rfl d_M_done_5
def f_M_parts (S : z_S) : Int32 := (f_M_count S 0)
set_option maxHeartbeats 4000000 in
set_option maxRecDepth 100000 in
theorem c_M_parts (l : Launch) (D : va_G) (C : Nat → ClassId) (ad : Nat → Nat → Nat) (hJ : z_J ad) (S : z_S)  : z_M l y_M_parts b_M_parts 1 (some .int) rm_M_parts D C ad [.ref (ad 21 0)] S (z_Qi D C ad (f_M_parts S) S) := by
  refine z_enter (by decide) (Nat.le_of_ble_eq_true rfl) hJ ?_
  intro p e s m below meth c ls hF hr hlk hl hG
  obtain ⟨hx, hb, hml, hown, hts⟩ := hF.1
  have hl : lv_has ls 1 [(0, .ref (ad 21 0))] := hl
  refine lv_aload_n hx hb d_M_parts_0 rfl (lv_at hl 0 rfl) ?_
  refine lv_iconst (v := 0) hx hb d_M_parts_1 z_k0 ?_
  refine kc_M_125 hF (c_M_count l D C ad hF.2.2 _ _ ) hG ⟨Nat.le_of_ble_eq_true rfl, Nat.le_of_ble_eq_true rfl⟩ ⟨Nat.zero_le _, Nat.zero_le _⟩ hl.1 (Nat.le_of_ble_eq_true rfl) d_M_parts_2 (fun H locs hG => ?_)
  exact z_iret hF hr hlk hG rfl rfl d_M_parts_5
def f_M_mends (S : z_S) (x0 : Int32) : Int32 := (if (f_M_isHouse x0) = 0 then (-1) else (S.1 41 0 x0.toNatClampNeg))
set_option maxHeartbeats 4000000 in
set_option maxRecDepth 100000 in
theorem c_M_mends (l : Launch) (D : va_G) (C : Nat → ClassId) (ad : Nat → Nat → Nat) (hJ : z_J ad) (S : z_S) (x0 : Int32)  : z_M l y_M_mends b_M_mends 2 (some .int) rm_M_mends D C ad [.ref (ad 21 0), .int x0] S (z_Qi D C ad (f_M_mends S x0) S) := by
  refine z_enter (by decide) (Nat.le_of_ble_eq_true rfl) hJ ?_
  intro p e s m below meth c ls hF hr hlk hl hG
  obtain ⟨hx, hb, hml, hown, hts⟩ := hF.1
  have hl : lv_has ls 2 [(0, .ref (ad 21 0)), (1, .int x0)] := hl
  refine lv_iload_n hx hb d_M_mends_0 rfl (lv_at hl 1 rfl) ?_
  refine kc_M_76 hF (c_M_isHouse l D C ad hF.2.2 _ _ ) hG ⟨Nat.le_of_ble_eq_true rfl, Nat.le_of_ble_eq_true rfl⟩ ⟨Nat.zero_le _, Nat.zero_le _⟩ hl.1 (Nat.le_of_ble_eq_true rfl) d_M_mends_1 (fun H locs hG => ?_)
  refine lv_if_eq (tgt := 16) hx hb d_M_mends_4 rfl (fun h4 => ?_) (fun h4 => ?_)
  ·
    refine lv_iconst (v := (-1)) hx hb d_M_mends_16 z_km1 ?_
    exact z_iret hF hr hlk hG (Eq.symm ((if_pos h4).trans rfl)) rfl d_M_mends_17
  ·
    refine lv_aload_n hx hb d_M_mends_7 rfl (lv_at hl 0 rfl) ?_
    refine gf_M_73_21 hF hG d_M_mends_8 ?_
    refine lv_iload_n hx hb d_M_mends_11 rfl (lv_at hl 1 rfl) ?_
    refine z_iald (n := 3) (j := x0.toNatClampNeg) (v := (S.1 41 0 x0.toNatClampNeg)) hF hG z_o41 (z_c41 C ad _ _ _) rfl (z_mho h4) rfl d_M_mends_12 ?_
    refine lv_goto (tgt := 17) hx hb d_M_mends_13 rfl ?_
    exact z_iret hF hr hlk hG (Eq.symm ((if_neg h4).trans rfl)) rfl d_M_mends_17
def f_M_disputes (S : z_S) : Int32 := (S.1 21 0 23)
set_option maxHeartbeats 4000000 in
set_option maxRecDepth 100000 in
theorem c_M_disputes (l : Launch) (D : va_G) (C : Nat → ClassId) (ad : Nat → Nat → Nat) (hJ : z_J ad) (S : z_S)  : z_M l y_M_disputes b_M_disputes 1 (some .int) rm_M_disputes D C ad [.ref (ad 21 0)] S (z_Qi D C ad (f_M_disputes S) S) := by
  refine z_enter (by decide) (Nat.le_of_ble_eq_true rfl) hJ ?_
  intro p e s m below meth c ls hF hr hlk hl hG
  obtain ⟨hx, hb, hml, hown, hts⟩ := hF.1
  have hl : lv_has ls 1 [(0, .ref (ad 21 0))] := hl
  refine lv_aload_n hx hb d_M_disputes_0 rfl (lv_at hl 0 rfl) ?_
  refine gf_M_122_21 hF hG (v := (S.1 21 0 23)) rfl d_M_disputes_1 ?_
  exact z_iret hF hr hlk hG rfl rfl d_M_disputes_4
