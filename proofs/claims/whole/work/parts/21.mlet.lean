def rg_M_deposit_80i_S1 (S : z_S) (v1 : Int32) (v3 : Int32) (v4 : Int32) (k : Nat) : z_S := (z_sI S 22 0 ((((384 * v4) + (64 * v1)) + (nI k)).toNatClampNeg) ((v3 + (31 * (nI k))) &&& 255))
set_option maxHeartbeats 4000000 in
set_option maxRecDepth 100000 in
theorem rg_M_deposit_80i {D : va_G} {C : Nat → ClassId} {ad : Nat → Nat → Nat} {S : z_S} {p : Program} {l : Launch} {e : Env} {s : State} {m : MethodId} {args : Array Value} {below : List Frame} {meth : Method} {c : Code} {H H0 : Heap} {locs : List Loc} {Q : State → Prop} {ls : Array Slot} {v1 : Int32} {v2 : Int32} {v3 : Int32} {v4 : Int32} {k : Nat} {N : Nat} (hF : z_F D C ad p m c b_M_deposit 6 s args R_M)  (hN : 4 * v2 = nI N) (hN2 : N < 2 ^ 31) (hin : ∀ k : Nat, k < N → vp_in (((384 * v4) + (64 * v1)) + (nI k)) 1152) (hk : k < N) (hG : z_G D C ad H0 S H locs) (hl : lv_has ls 6 [(0, .ref (ad 21 0)), (1, .int v1), (2, .int v2), (3, .int v3), (4, .int v4), (5, .int (nI k))]) (kk : ∀ (H : Heap) (locs : List Loc) (ls : Array Slot) (S1 : z_S), z_G D C ad H0 S1 H locs → lv_has ls 6 [(0, .ref (ad 21 0)), (1, .int v1), (2, .int v2), (3, .int v3), (4, .int v4), (5, .int (nI (k + 1)))] → rg_M_deposit_80i_S1 S v1 v3 v4 k = S1 → W p l e rm_M_deposit s m args below meth c H locs 0 0 Q (F0 m 80 ls [])) : W p l e rm_M_deposit s m args below meth c H locs 0 0 Q (F0 m 80 ls []) := by
  obtain ⟨hx, hb, hml, hown, hts⟩ := hF.1
  refine lv_iload hx hb d_M_deposit_80 (lv_at hl 5 rfl) ?_
  refine lv_iconst (v := 4) hx hb d_M_deposit_82 z_k4 ?_
  refine lv_iload_n hx hb d_M_deposit_83 rfl (lv_at hl 2 rfl) ?_
  refine lv_imul hx hb d_M_deposit_84 ?_
  refine lv_icmp_ge (tgt := 124) hx hb d_M_deposit_85 rfl (fun h => absurd h (by rw [hN]; exact nI_ge hk hN2)) (fun _ => ?_)
  refine lv_aload_n hx hb d_M_deposit_88 rfl (lv_at hl 0 rfl) ?_
  refine gf_M_7_21 hF hG d_M_deposit_89 ?_
  refine lv_sipush (v := 384) hx hb d_M_deposit_92 z_si384 ?_
  refine lv_iload hx hb d_M_deposit_95 (lv_at hl 4 rfl) ?_
  refine lv_imul hx hb d_M_deposit_97 ?_
  refine lv_bipush (v := 64) hx hb d_M_deposit_98 z_bi64 ?_
  refine lv_iload_n hx hb d_M_deposit_100 rfl (lv_at hl 1 rfl) ?_
  refine lv_imul hx hb d_M_deposit_101 ?_
  refine lv_iadd hx hb d_M_deposit_102 ?_
  refine lv_iload hx hb d_M_deposit_103 (lv_at hl 5 rfl) ?_
  refine lv_iadd hx hb d_M_deposit_105 ?_
  refine lv_iload_n hx hb d_M_deposit_106 rfl (lv_at hl 3 rfl) ?_
  refine lv_bipush (v := 31) hx hb d_M_deposit_107 z_bi31 ?_
  refine lv_iload hx hb d_M_deposit_109 (lv_at hl 5 rfl) ?_
  refine lv_imul hx hb d_M_deposit_111 ?_
  refine lv_iadd hx hb d_M_deposit_112 ?_
  refine lv_sipush (v := 255) hx hb d_M_deposit_113 z_si255 ?_
  refine lv_iand hx hb d_M_deposit_116 ?_
  refine z_iast (n := 1152) (j := (((384 * v4) + (64 * v1)) + (nI k)).toNatClampNeg) hF hG z_o22 (fun f g => z_c22 C ad f g _) rfl (hin k hk) d_M_deposit_117 (fun H locs hG => ?_)
  refine lv_iinc (k := 5) (v := (nI (k + 1))) (lv' := [(5, .int (nI (k + 1))), (0, .ref (ad 21 0)), (1, .int v1), (2, .int v2), (3, .int v3), (4, .int v4)]) hx hb d_M_deposit_118 hl rfl (z_incN _) (Nat.le_of_ble_eq_true rfl) rfl (fun ls hl => ?_)
  refine lv_goto (tgt := 80) hx hb d_M_deposit_121 rfl ?_
  exact kk _ _ _ _ hG (lv_sub hl [1, 2, 3, 4, 5, 0] rfl) rfl
set_option maxHeartbeats 4000000 in
set_option maxRecDepth 100000 in
theorem rg_M_deposit_80e {D : va_G} {C : Nat → ClassId} {ad : Nat → Nat → Nat} {S : z_S} {p : Program} {l : Launch} {e : Env} {s : State} {m : MethodId} {args : Array Value} {below : List Frame} {meth : Method} {c : Code} {H H0 : Heap} {locs : List Loc} {Q : State → Prop} {ls : Array Slot} {v1 : Int32} {v2 : Int32} {v3 : Int32} {v4 : Int32} {k : Nat} {N : Nat} (hF : z_F D C ad p m c b_M_deposit 6 s args R_M)  (hN : 4 * v2 = nI N) (hN2 : N < 2 ^ 31) (hin : ∀ k : Nat, k < N → vp_in (((384 * v4) + (64 * v1)) + (nI k)) 1152) (hk : k = N) (hG : z_G D C ad H0 S H locs) (hl : lv_has ls 6 [(0, .ref (ad 21 0)), (1, .int v1), (2, .int v2), (3, .int v3), (4, .int v4), (5, .int (nI k))]) (kk : ∀ (H : Heap) (locs : List Loc) (ls : Array Slot) , z_G D C ad H0 S H locs → lv_has ls 6 [(0, .ref (ad 21 0)), (1, .int v1), (2, .int v2), (3, .int v3), (4, .int v4), (5, .int (nI k))] → W p l e rm_M_deposit s m args below meth c H locs 0 0 Q (F0 m 124 ls [])) : W p l e rm_M_deposit s m args below meth c H locs 0 0 Q (F0 m 80 ls []) := by
  obtain ⟨hx, hb, hml, hown, hts⟩ := hF.1
  refine lv_iload hx hb d_M_deposit_80 (lv_at hl 5 rfl) ?_
  refine lv_iconst (v := 4) hx hb d_M_deposit_82 z_k4 ?_
  refine lv_iload_n hx hb d_M_deposit_83 rfl (lv_at hl 2 rfl) ?_
  refine lv_imul hx hb d_M_deposit_84 ?_
  refine lv_icmp_ge (tgt := 124) hx hb d_M_deposit_85 rfl (fun _ => ?_) (fun h => absurd h (by rw [hN, hk]; exact not_not_intro (nI_le (Nat.le_refl _) hN2)))
  exact kk _ _ _  hG (lv_sub hl [0, 1, 2, 3, 4, 5] rfl) 
set_option maxHeartbeats 4000000 in
set_option maxRecDepth 100000 in
theorem lp_M_deposit_80 {D : va_G} {C : Nat → ClassId} {ad : Nat → Nat → Nat} {p : Program} {l : Launch} {e : Env} {s : State} {m : MethodId} {args : Array Value} {below : List Frame} {meth : Method} {c : Code} {H0 : Heap} {Q : State → Prop} {v1 : Int32} {v2 : Int32} {v3 : Int32} {v4 : Int32} {N : Nat} (hF : z_F D C ad p m c b_M_deposit 6 s args R_M)  (hN : 4 * v2 = nI N) (hN2 : N < 2 ^ 31) (hin : ∀ k : Nat, k < N → vp_in (((384 * v4) + (64 * v1)) + (nI k)) 1152) : ∀ (n k : Nat) (S : z_S) (H : Heap) (locs : List Loc) (ls : Array Slot), k + n = N → z_G D C ad H0 S H locs → lv_has ls 6 [(0, .ref (ad 21 0)), (1, .int v1), (2, .int v2), (3, .int v3), (4, .int v4), (5, .int (nI k))] → (∀ (H : Heap) (locs : List Loc) (ls : Array Slot), z_G D C ad H0 (z_it (fun (k : Nat) (S : z_S) => rg_M_deposit_80i_S1 S v1 v3 v4 k) k n S) H locs → lv_has ls 6 [(0, .ref (ad 21 0)), (1, .int v1), (2, .int v2), (3, .int v3), (4, .int v4), (5, .int (nI N))] → W p l e rm_M_deposit s m args below meth c H locs 0 0 Q (F0 m 124 ls [])) → W p l e rm_M_deposit s m args below meth c H locs 0 0 Q (F0 m 80 ls []) := by
  intro n
  induction n with
  | zero =>
    intro k S H locs ls hk hG hl kk
    have hk : k = N := by omega
    refine rg_M_deposit_80e hF  hN hN2 hin hk hG hl (fun H locs ls hG hl => ?_)
    subst hk
    exact kk H locs ls hG hl
  | succ n ih =>
    intro k S H locs ls hk hG hl kk
    refine rg_M_deposit_80i hF  hN hN2 hin (by omega) hG hl (fun H locs ls S1 hG hl e1 => ?_)
    subst e1
    exact ih (k + 1) (rg_M_deposit_80i_S1 S v1 v3 v4 k) H locs ls (by omega) hG hl kk
def f_M_deposit (S : z_S) (x0 : Int32) (x1 : Int32) : Int32 := (if x0 < 0 then (-1) else (if 5 < x0 then (-1) else (if x1 < 1 then (-1) else (if x1 ≤ 16 then (if 0 < (S.1 23 0 x0.toNatClampNeg) then (-2) else (if (S.1 24 0 0) = 0 then (-2) else (if (S.1 24 0 1) = 0 then (-2) else (if (S.1 24 0 2) = 0 then (-2) else (4 * x1))))) else (-1)))))
def g_M_deposit (S : z_S) (x0 : Int32) (x1 : Int32) (x2 : Int32) : z_S := (if x0 < 0 then S else (if 5 < x0 then S else (if x1 < 1 then S else (if x1 ≤ 16 then (if 0 < (S.1 23 0 x0.toNatClampNeg) then S else (if (S.1 24 0 0) = 0 then S else (if (S.1 24 0 1) = 0 then S else (if (S.1 24 0 2) = 0 then S else (z_it (fun (kk9 : Nat) (T9 : z_S) => rg_M_deposit_80i_S1 T9 x0 x2 2 kk9) 0 (4 * x1.toNatClampNeg) (z_it (fun (kk9 : Nat) (T9 : z_S) => rg_M_deposit_80i_S1 T9 x0 x2 1 kk9) 0 (4 * x1.toNatClampNeg) (z_it (fun (kk9 : Nat) (T9 : z_S) => rg_M_deposit_80i_S1 T9 x0 x2 0 kk9) 0 (4 * x1.toNatClampNeg) (z_sI S 23 0 x0.toNatClampNeg x1)))))))) else S))))
set_option maxHeartbeats 4000000 in
set_option maxRecDepth 100000 in
theorem c_M_deposit (l : Launch) (D : va_G) (C : Nat → ClassId) (ad : Nat → Nat → Nat) (hJ : z_J ad) (S : z_S) (x0 : Int32) (x1 : Int32) (x2 : Int32)  : z_M l y_M_deposit b_M_deposit 6 (some .int) rm_M_deposit D C ad [.ref (ad 21 0), .int x0, .int x1, .int x2] S (z_Qi D C ad (f_M_deposit S x0 x1) (g_M_deposit S x0 x1 x2)) := by
  refine z_enter (by decide) (Nat.le_of_ble_eq_true rfl) hJ ?_
  intro p e s m below meth c ls hF hr hlk hl hG
  obtain ⟨hx, hb, hml, hown, hts⟩ := hF.1
  have hl : lv_has ls 6 [(0, .ref (ad 21 0)), (1, .int x0), (2, .int x1), (3, .int x2)] := hl
  refine lv_iload_n hx hb d_M_deposit_0 rfl (lv_at hl 1 rfl) ?_
  refine lv_if_lt (tgt := 20) hx hb d_M_deposit_1 rfl (fun h1 => ?_) (fun h1 => ?_)
  ·
    refine lv_iconst (v := (-1)) hx hb d_M_deposit_20 z_km1 ?_
    exact z_iret hF hr hlk hG (Eq.symm ((if_pos h1).trans rfl)) (Eq.symm ((if_pos h1).trans rfl)) d_M_deposit_21
  ·
    refine lv_iload_n hx hb d_M_deposit_4 rfl (lv_at hl 1 rfl) ?_
    refine lv_iconst (v := 5) hx hb d_M_deposit_5 z_k5 ?_
    refine lv_icmp_gt (tgt := 20) hx hb d_M_deposit_6 rfl (fun h6 => ?_) (fun h6 => ?_)
    ·
      refine lv_iconst (v := (-1)) hx hb d_M_deposit_20 z_km1 ?_
      exact z_iret hF hr hlk hG (Eq.symm ((if_neg h1).trans ((if_pos h6).trans rfl))) (Eq.symm ((if_neg h1).trans ((if_pos h6).trans rfl))) d_M_deposit_21
    ·
      refine lv_iload_n hx hb d_M_deposit_9 rfl (lv_at hl 2 rfl) ?_
      refine lv_iconst (v := 1) hx hb d_M_deposit_10 z_k1 ?_
      refine lv_icmp_lt (tgt := 20) hx hb d_M_deposit_11 rfl (fun h11 => ?_) (fun h11 => ?_)
      ·
        refine lv_iconst (v := (-1)) hx hb d_M_deposit_20 z_km1 ?_
        exact z_iret hF hr hlk hG (Eq.symm ((if_neg h1).trans ((if_neg h6).trans ((if_pos h11).trans rfl)))) (Eq.symm ((if_neg h1).trans ((if_neg h6).trans ((if_pos h11).trans rfl)))) d_M_deposit_21
      ·
        refine lv_iload_n hx hb d_M_deposit_14 rfl (lv_at hl 2 rfl) ?_
        refine lv_bipush (v := 16) hx hb d_M_deposit_15 z_bi16 ?_
        refine lv_icmp_le (tgt := 22) hx hb d_M_deposit_17 rfl (fun h17 => ?_) (fun h17 => ?_)
        ·
          refine lv_aload_n hx hb d_M_deposit_22 rfl (lv_at hl 0 rfl) ?_
          refine gf_M_13_21 hF hG d_M_deposit_23 ?_
          refine lv_iload_n hx hb d_M_deposit_26 rfl (lv_at hl 1 rfl) ?_
          refine z_iald (n := 6) (j := x0.toNatClampNeg) (v := (S.1 23 0 x0.toNatClampNeg)) hF hG z_o23 (z_c23 C ad _ _ _) rfl (z_rg6 h1 h6) rfl d_M_deposit_27 ?_
          refine lv_if_gt (tgt := 58) hx hb d_M_deposit_28 rfl (fun h28 => ?_) (fun h28 => ?_)
          ·
            refine lv_bipush (v := (-2)) hx hb d_M_deposit_58 z_bim2 ?_
            exact z_iret hF hr hlk hG (Eq.symm ((if_neg h1).trans ((if_neg h6).trans ((if_neg h11).trans ((if_pos h17).trans ((if_pos h28).trans rfl)))))) (Eq.symm ((if_neg h1).trans ((if_neg h6).trans ((if_neg h11).trans ((if_pos h17).trans ((if_pos h28).trans rfl)))))) d_M_deposit_60
          ·
            refine lv_aload_n hx hb d_M_deposit_31 rfl (lv_at hl 0 rfl) ?_
            refine gf_M_16_21 hF hG d_M_deposit_32 ?_
            refine lv_iconst (v := 0) hx hb d_M_deposit_35 z_k0 ?_
            refine z_zald (n := 3) (j := 0) (v := (S.1 24 0 0)) hF hG z_o24 (z_c24 C ad _ _ _) z_q0 z_in0_3 rfl d_M_deposit_36 ?_
            refine lv_if_eq (tgt := 58) hx hb d_M_deposit_37 rfl (fun h37 => ?_) (fun h37 => ?_)
            ·
              refine lv_bipush (v := (-2)) hx hb d_M_deposit_58 z_bim2 ?_
              exact z_iret hF hr hlk hG (Eq.symm ((if_neg h1).trans ((if_neg h6).trans ((if_neg h11).trans ((if_pos h17).trans ((if_neg h28).trans ((if_pos h37).trans rfl))))))) (Eq.symm ((if_neg h1).trans ((if_neg h6).trans ((if_neg h11).trans ((if_pos h17).trans ((if_neg h28).trans ((if_pos h37).trans rfl))))))) d_M_deposit_60
            ·
              refine lv_aload_n hx hb d_M_deposit_40 rfl (lv_at hl 0 rfl) ?_
              refine gf_M_16_21 hF hG d_M_deposit_41 ?_
              refine lv_iconst (v := 1) hx hb d_M_deposit_44 z_k1 ?_
              refine z_zald (n := 3) (j := 1) (v := (S.1 24 0 1)) hF hG z_o24 (z_c24 C ad _ _ _) z_q1 z_in1_3 rfl d_M_deposit_45 ?_
              refine lv_if_eq (tgt := 58) hx hb d_M_deposit_46 rfl (fun h46 => ?_) (fun h46 => ?_)
              ·
                refine lv_bipush (v := (-2)) hx hb d_M_deposit_58 z_bim2 ?_
                exact z_iret hF hr hlk hG (Eq.symm ((if_neg h1).trans ((if_neg h6).trans ((if_neg h11).trans ((if_pos h17).trans ((if_neg h28).trans ((if_neg h37).trans ((if_pos h46).trans rfl)))))))) (Eq.symm ((if_neg h1).trans ((if_neg h6).trans ((if_neg h11).trans ((if_pos h17).trans ((if_neg h28).trans ((if_neg h37).trans ((if_pos h46).trans rfl)))))))) d_M_deposit_60
              ·
                refine lv_aload_n hx hb d_M_deposit_49 rfl (lv_at hl 0 rfl) ?_
                refine gf_M_16_21 hF hG d_M_deposit_50 ?_
                refine lv_iconst (v := 2) hx hb d_M_deposit_53 z_k2 ?_
                refine z_zald (n := 3) (j := 2) (v := (S.1 24 0 2)) hF hG z_o24 (z_c24 C ad _ _ _) z_q2 z_in2_3 rfl d_M_deposit_54 ?_
                refine lv_if_ne (tgt := 61) hx hb d_M_deposit_55 rfl (fun h55 => ?_) (fun h55 => ?_)
                ·
                  refine lv_aload_n hx hb d_M_deposit_61 rfl (lv_at hl 0 rfl) ?_
                  refine gf_M_13_21 hF hG d_M_deposit_62 ?_
                  refine lv_iload_n hx hb d_M_deposit_65 rfl (lv_at hl 1 rfl) ?_
                  refine lv_iload_n hx hb d_M_deposit_66 rfl (lv_at hl 2 rfl) ?_
                  refine z_iast (n := 6) (j := x0.toNatClampNeg) hF hG z_o23 (fun f g => z_c23 C ad f g _) rfl (z_rg6 h1 h6) d_M_deposit_67 (fun H locs hG => ?_)
                  refine lv_iconst (v := 0) hx hb d_M_deposit_68 z_k0 ?_
                  refine lv_istore (lv' := [(4, .int 0), (0, .ref (ad 21 0)), (1, .int x0), (2, .int x1), (3, .int x2)]) hx hb d_M_deposit_69 hl (Nat.le_of_ble_eq_true rfl) rfl (fun ls hl => ?_)
                  refine lv_iload hx hb d_M_deposit_71 (lv_at hl 0 rfl) ?_
                  refine lv_iconst (v := 3) hx hb d_M_deposit_73 z_k3 ?_
                  refine lv_icmp_ge (tgt := 130) hx hb d_M_deposit_74 rfl (fun h => absurd h (by decide)) (fun _ => ?_)
                  refine lv_iconst (v := 0) hx hb d_M_deposit_77 z_k0 ?_
                  refine lv_istore (lv' := [(5, .int 0), (4, .int 0), (0, .ref (ad 21 0)), (1, .int x0), (2, .int x1), (3, .int x2)]) hx hb d_M_deposit_78 hl (Nat.le_of_ble_eq_true rfl) rfl (fun ls hl => ?_)
                  have hl : lv_has ls 6 [(0, .ref (ad 21 0)), (1, .int x0), (2, .int x1), (3, .int x2), (4, .int 0), (5, .int (nI 0))] := by
                    have h9 := lv_sub hl [2, 3, 4, 5, 1, 0] rfl
                    rw [nI_0]; exact h9
                  refine lp_M_deposit_80 (N := 4 * x1.toNatClampNeg) hF  (z_md1 h11 h17) (z_de2 h11 h17) (z_md3 h11 h17 (z_rg6 h1 h6) z_in0_3) (4 * x1.toNatClampNeg) 0 (z_sI S 23 0 x0.toNatClampNeg x1) _ _ ls (Nat.zero_add _) hG hl (fun H locs ls hG hl => ?_)
                  refine lv_iinc (k := 4) (v := 1) (lv' := [(4, .int 1), (0, .ref (ad 21 0)), (1, .int x0), (2, .int x1), (3, .int x2), (5, .int (nI (4 * x1.toNatClampNeg)))]) hx hb d_M_deposit_124 hl rfl (by decide) (Nat.le_of_ble_eq_true rfl) rfl (fun ls hl => ?_)
                  refine lv_goto (tgt := 71) hx hb d_M_deposit_127 rfl ?_
                  refine lv_iload hx hb d_M_deposit_71 (lv_at hl 0 rfl) ?_
                  refine lv_iconst (v := 3) hx hb d_M_deposit_73 z_k3 ?_
                  refine lv_icmp_ge (tgt := 130) hx hb d_M_deposit_74 rfl (fun h => absurd h (by decide)) (fun _ => ?_)
                  refine lv_iconst (v := 0) hx hb d_M_deposit_77 z_k0 ?_
                  refine lv_istore (lv' := [(5, .int 0), (4, .int 1), (0, .ref (ad 21 0)), (1, .int x0), (2, .int x1), (3, .int x2)]) hx hb d_M_deposit_78 hl (Nat.le_of_ble_eq_true rfl) rfl (fun ls hl => ?_)
                  have hl : lv_has ls 6 [(0, .ref (ad 21 0)), (1, .int x0), (2, .int x1), (3, .int x2), (4, .int 1), (5, .int (nI 0))] := by
                    have h9 := lv_sub hl [2, 3, 4, 5, 1, 0] rfl
                    rw [nI_0]; exact h9
                  refine lp_M_deposit_80 (N := 4 * x1.toNatClampNeg) hF  (z_md1 h11 h17) (z_de2 h11 h17) (z_md3 h11 h17 (z_rg6 h1 h6) z_in1_3) (4 * x1.toNatClampNeg) 0 (z_it (fun (kk9 : Nat) (T9 : z_S) => rg_M_deposit_80i_S1 T9 x0 x2 0 kk9) 0 (4 * x1.toNatClampNeg) (z_sI S 23 0 x0.toNatClampNeg x1)) _ _ ls (Nat.zero_add _) hG hl (fun H locs ls hG hl => ?_)
                  refine lv_iinc (k := 4) (v := 2) (lv' := [(4, .int 2), (0, .ref (ad 21 0)), (1, .int x0), (2, .int x1), (3, .int x2), (5, .int (nI (4 * x1.toNatClampNeg)))]) hx hb d_M_deposit_124 hl rfl (by decide) (Nat.le_of_ble_eq_true rfl) rfl (fun ls hl => ?_)
                  refine lv_goto (tgt := 71) hx hb d_M_deposit_127 rfl ?_
                  refine lv_iload hx hb d_M_deposit_71 (lv_at hl 0 rfl) ?_
                  refine lv_iconst (v := 3) hx hb d_M_deposit_73 z_k3 ?_
                  refine lv_icmp_ge (tgt := 130) hx hb d_M_deposit_74 rfl (fun h => absurd h (by decide)) (fun _ => ?_)
                  refine lv_iconst (v := 0) hx hb d_M_deposit_77 z_k0 ?_
                  refine lv_istore (lv' := [(5, .int 0), (4, .int 2), (0, .ref (ad 21 0)), (1, .int x0), (2, .int x1), (3, .int x2)]) hx hb d_M_deposit_78 hl (Nat.le_of_ble_eq_true rfl) rfl (fun ls hl => ?_)
                  have hl : lv_has ls 6 [(0, .ref (ad 21 0)), (1, .int x0), (2, .int x1), (3, .int x2), (4, .int 2), (5, .int (nI 0))] := by
                    have h9 := lv_sub hl [2, 3, 4, 5, 1, 0] rfl
                    rw [nI_0]; exact h9
                  refine lp_M_deposit_80 (N := 4 * x1.toNatClampNeg) hF  (z_md1 h11 h17) (z_de2 h11 h17) (z_md3 h11 h17 (z_rg6 h1 h6) z_in2_3) (4 * x1.toNatClampNeg) 0 (z_it (fun (kk9 : Nat) (T9 : z_S) => rg_M_deposit_80i_S1 T9 x0 x2 1 kk9) 0 (4 * x1.toNatClampNeg) (z_it (fun (kk9 : Nat) (T9 : z_S) => rg_M_deposit_80i_S1 T9 x0 x2 0 kk9) 0 (4 * x1.toNatClampNeg) (z_sI S 23 0 x0.toNatClampNeg x1))) _ _ ls (Nat.zero_add _) hG hl (fun H locs ls hG hl => ?_)
                  refine lv_iinc (k := 4) (v := 3) (lv' := [(4, .int 3), (0, .ref (ad 21 0)), (1, .int x0), (2, .int x1), (3, .int x2), (5, .int (nI (4 * x1.toNatClampNeg)))]) hx hb d_M_deposit_124 hl rfl (by decide) (Nat.le_of_ble_eq_true rfl) rfl (fun ls hl => ?_)
                  refine lv_goto (tgt := 71) hx hb d_M_deposit_127 rfl ?_
                  refine lv_iload hx hb d_M_deposit_71 (lv_at hl 0 rfl) ?_
                  refine lv_iconst (v := 3) hx hb d_M_deposit_73 z_k3 ?_
                  refine lv_icmp_ge (tgt := 130) hx hb d_M_deposit_74 rfl (fun _ => ?_) (fun h => absurd h (by decide))
                  refine lv_iconst (v := 4) hx hb d_M_deposit_130 z_k4 ?_
                  refine lv_iload_n hx hb d_M_deposit_131 rfl (lv_at hl 3 rfl) ?_
                  refine lv_imul hx hb d_M_deposit_132 ?_
                  exact z_iret hF hr hlk hG (Eq.symm ((if_neg h1).trans ((if_neg h6).trans ((if_neg h11).trans ((if_pos h17).trans ((if_neg h28).trans ((if_neg h37).trans ((if_neg h46).trans ((if_neg h55).trans rfl))))))))) (Eq.symm ((if_neg h1).trans ((if_neg h6).trans ((if_neg h11).trans ((if_pos h17).trans ((if_neg h28).trans ((if_neg h37).trans ((if_neg h46).trans ((if_neg h55).trans rfl))))))))) d_M_deposit_133
                ·
                  refine lv_bipush (v := (-2)) hx hb d_M_deposit_58 z_bim2 ?_
                  exact z_iret hF hr hlk hG (Eq.symm ((if_neg h1).trans ((if_neg h6).trans ((if_neg h11).trans ((if_pos h17).trans ((if_neg h28).trans ((if_neg h37).trans ((if_neg h46).trans ((if_pos h55).trans rfl))))))))) (Eq.symm ((if_neg h1).trans ((if_neg h6).trans ((if_neg h11).trans ((if_pos h17).trans ((if_neg h28).trans ((if_neg h37).trans ((if_neg h46).trans ((if_pos h55).trans rfl))))))))) d_M_deposit_60
        ·
          refine lv_iconst (v := (-1)) hx hb d_M_deposit_20 z_km1 ?_
          exact z_iret hF hr hlk hG (Eq.symm ((if_neg h1).trans ((if_neg h6).trans ((if_neg h11).trans ((if_neg h17).trans rfl))))) (Eq.symm ((if_neg h1).trans ((if_neg h6).trans ((if_neg h11).trans ((if_neg h17).trans rfl))))) d_M_deposit_21
def f_M_come (S : z_S) : Int32 := (if 24 ≤ (S.1 21 0 14) then (S.1 21 0 14) else (S.1 21 0 14))
def g_M_come (S : z_S) (x0 : Int32) (x1 : Int32) (x2 : Int32) : z_S := (if 24 ≤ (S.1 21 0 14) then (z_sI (z_sI (z_sI (z_sI S 35 0 ((S.1 21 0 14).toNatClampNeg) x0) 36 0 ((S.1 21 0 14).toNatClampNeg) x1) 37 0 ((S.1 21 0 14).toNatClampNeg) x2) 21 0 14 24) else (z_sI (z_sI (z_sI (z_sI S 35 0 ((S.1 21 0 14).toNatClampNeg) x0) 36 0 ((S.1 21 0 14).toNatClampNeg) x1) 37 0 ((S.1 21 0 14).toNatClampNeg) x2) 21 0 14 ((S.1 21 0 14) + 1)))
set_option maxHeartbeats 4000000 in
set_option maxRecDepth 100000 in
theorem c_M_come (l : Launch) (D : va_G) (C : Nat → ClassId) (ad : Nat → Nat → Nat) (hJ : z_J ad) (S : z_S) (x0 : Int32) (x1 : Int32) (x2 : Int32) (hm : vp_in (S.1 21 0 14) 25) : z_M l y_M_come b_M_come 5 (some .int) rm_M_come D C ad [.ref (ad 21 0), .int x0, .int x1, .int x2] S (z_Qi D C ad (f_M_come S) (g_M_come S x0 x1 x2)) := by
  refine z_enter (by decide) (Nat.le_of_ble_eq_true rfl) hJ ?_
  intro p e s m below meth c ls hF hr hlk hl hG
  obtain ⟨hx, hb, hml, hown, hts⟩ := hF.1
  have hl : lv_has ls 5 [(0, .ref (ad 21 0)), (1, .int x0), (2, .int x1), (3, .int x2)] := hl
  refine lv_aload_n hx hb d_M_come_0 rfl (lv_at hl 0 rfl) ?_
  refine gf_M_98_21 hF hG (v := (S.1 21 0 14)) rfl d_M_come_1 ?_
  refine lv_istore (lv' := [(4, .int (S.1 21 0 14)), (0, .ref (ad 21 0)), (1, .int x0), (2, .int x1), (3, .int x2)]) hx hb d_M_come_4 hl (Nat.le_of_ble_eq_true rfl) rfl (fun ls hl => ?_)
  refine lv_aload_n hx hb d_M_come_6 rfl (lv_at hl 1 rfl) ?_
  refine gf_M_51_21 hF hG d_M_come_7 ?_
  refine lv_iload hx hb d_M_come_10 (lv_at hl 0 rfl) ?_
  refine lv_iload_n hx hb d_M_come_12 rfl (lv_at hl 2 rfl) ?_
  refine z_iast (n := 25) (j := (S.1 21 0 14).toNatClampNeg) hF hG z_o35 (fun f g => z_c35 C ad f g _) rfl hm d_M_come_13 (fun H locs hG => ?_)
  refine lv_aload_n hx hb d_M_come_14 rfl (lv_at hl 1 rfl) ?_
  refine gf_M_54_21 hF hG d_M_come_15 ?_
  refine lv_iload hx hb d_M_come_18 (lv_at hl 0 rfl) ?_
  refine lv_iload_n hx hb d_M_come_20 rfl (lv_at hl 3 rfl) ?_
  refine z_iast (n := 25) (j := (S.1 21 0 14).toNatClampNeg) hF hG z_o36 (fun f g => z_c36 C ad f g _) rfl hm d_M_come_21 (fun H locs hG => ?_)
  refine lv_aload_n hx hb d_M_come_22 rfl (lv_at hl 1 rfl) ?_
  refine gf_M_57_21 hF hG d_M_come_23 ?_
  refine lv_iload hx hb d_M_come_26 (lv_at hl 0 rfl) ?_
  refine lv_iload_n hx hb d_M_come_28 rfl (lv_at hl 4 rfl) ?_
  refine z_iast (n := 25) (j := (S.1 21 0 14).toNatClampNeg) hF hG z_o37 (fun f g => z_c37 C ad f g _) rfl hm d_M_come_29 (fun H locs hG => ?_)
  refine lv_aload_n hx hb d_M_come_30 rfl (lv_at hl 1 rfl) ?_
  refine lv_aload_n hx hb d_M_come_31 rfl (lv_at hl 1 rfl) ?_
  refine gf_M_98_21 hF hG (v := (S.1 21 0 14)) rfl d_M_come_32 ?_
  refine lv_bipush (v := 24) hx hb d_M_come_35 z_bi24 ?_
  refine lv_icmp_ge (tgt := 49) hx hb d_M_come_37 rfl (fun h37 => ?_) (fun h37 => ?_)
  ·
    refine lv_bipush (v := 24) hx hb d_M_come_49 z_bi24 ?_
    refine pf_M_98_21 hF hG d_M_come_51 (fun H locs hG => ?_)
    refine lv_iload hx hb d_M_come_54 (lv_at hl 0 rfl) ?_
    exact z_iret hF hr hlk hG (Eq.symm ((if_pos h37).trans rfl)) (Eq.symm ((if_pos h37).trans rfl)) d_M_come_56
  ·
    refine lv_aload_n hx hb d_M_come_40 rfl (lv_at hl 1 rfl) ?_
    refine gf_M_98_21 hF hG (v := (S.1 21 0 14)) rfl d_M_come_41 ?_
    refine lv_iconst (v := 1) hx hb d_M_come_44 z_k1 ?_
    refine lv_iadd hx hb d_M_come_45 ?_
    refine lv_goto (tgt := 51) hx hb d_M_come_46 rfl ?_
    refine pf_M_98_21 hF hG d_M_come_51 (fun H locs hG => ?_)
    refine lv_iload hx hb d_M_come_54 (lv_at hl 0 rfl) ?_
    exact z_iret hF hr hlk hG (Eq.symm ((if_neg h37).trans rfl)) (Eq.symm ((if_neg h37).trans rfl)) d_M_come_56
def f_M_isLetter (S : z_S) (x0 : Int32) : Int32 := (if x0 < 0 then 0 else (if (S.1 21 0 14) ≤ x0 then 0 else 1))
set_option maxHeartbeats 4000000 in
set_option maxRecDepth 100000 in
theorem c_M_isLetter (l : Launch) (D : va_G) (C : Nat → ClassId) (ad : Nat → Nat → Nat) (hJ : z_J ad) (S : z_S) (x0 : Int32)  : z_M l y_M_isLetter b_M_isLetter 2 (some .boolean) rm_M_isLetter D C ad [.ref (ad 21 0), .int x0] S (z_Qi D C ad (f_M_isLetter S x0) S) := by
  refine z_enter (by decide) (Nat.le_of_ble_eq_true rfl) hJ ?_
  intro p e s m below meth c ls hF hr hlk hl hG
  obtain ⟨hx, hb, hml, hown, hts⟩ := hF.1
  have hl : lv_has ls 2 [(0, .ref (ad 21 0)), (1, .int x0)] := hl
  refine lv_iload_n hx hb d_M_isLetter_0 rfl (lv_at hl 1 rfl) ?_
  refine lv_if_lt (tgt := 16) hx hb d_M_isLetter_1 rfl (fun h1 => ?_) (fun h1 => ?_)
  ·
    refine lv_iconst (v := 0) hx hb d_M_isLetter_16 z_k0 ?_
    exact z_zret hF hr hlk rfl hG (Eq.symm ((if_pos h1).trans rfl)) rfl d_M_isLetter_17
  ·
    refine lv_iload_n hx hb d_M_isLetter_4 rfl (lv_at hl 1 rfl) ?_
    refine lv_aload_n hx hb d_M_isLetter_5 rfl (lv_at hl 0 rfl) ?_
    refine gf_M_98_21 hF hG (v := (S.1 21 0 14)) rfl d_M_isLetter_6 ?_
    refine lv_icmp_ge (tgt := 16) hx hb d_M_isLetter_9 rfl (fun h9 => ?_) (fun h9 => ?_)
    ·
      refine lv_iconst (v := 0) hx hb d_M_isLetter_16 z_k0 ?_
      exact z_zret hF hr hlk rfl hG (Eq.symm ((if_neg h1).trans ((if_pos h9).trans rfl))) rfl d_M_isLetter_17
    ·
      refine lv_iconst (v := 1) hx hb d_M_isLetter_12 z_k1 ?_
      refine lv_goto (tgt := 17) hx hb d_M_isLetter_13 rfl ?_
      exact z_zret hF hr hlk rfl hG (Eq.symm ((if_neg h1).trans ((if_neg h9).trans rfl))) rfl d_M_isLetter_17
theorem z_mleI {S : z_S} {x : Int32} (h : ¬ f_M_isLetter S x = 0) : ¬ x < 0 ∧ ¬ S.1 21 0 14 ≤ x := by
  unfold f_M_isLetter at h
  by_cases h1 : x < 0
  · rw [if_pos h1] at h; exact absurd rfl h
  · rw [if_neg h1] at h
    by_cases h2 : S.1 21 0 14 ≤ x
    · rw [if_pos h2] at h; exact absurd rfl h
    · exact ⟨h1, h2⟩
theorem z_mleN {S : z_S} {x : Int32} (hom : z_Om S) (h : ¬ f_M_isLetter S x = 0) : ∃ k n : Nat, x = nI k ∧ S.1 21 0 14 = nI (n + 1) ∧ k ≤ n ∧ n < 24 := by
  obtain ⟨h1, h2⟩ := z_mleI h
  obtain ⟨k, hk, rfl⟩ := nI_of h1
  obtain ⟨c, hc, e⟩ := vp_in_of (z_mmy hom) (by decide)
  rw [e] at h2
  have hlt : k < c := by
    apply Classical.byContradiction
    intro q
    exact h2 (nI_le (by omega) hk)
  refine ⟨k, c - 1, rfl, ?_, by omega, by omega⟩
  rw [e]
  exact congrArg nI (by omega)
theorem z_mle {S : z_S} {x : Int32} (hom : z_Om S) (h : ¬ f_M_isLetter S x = 0) : vp_in x 25 := by
  obtain ⟨k, n, rfl, -, h1, h2⟩ := z_mleN hom h
  exact vp_in_nI (by omega) (by decide)
theorem z_nm1 {S : z_S} {x : Int32} (h : ¬ f_M_isLetter S x = 0) : x = nI x.toNatClampNeg := by
  obtain ⟨k, hk, rfl⟩ := nI_of (z_mleI h).1
  rw [nI_clamp hk]
theorem z_nm2 {S : z_S} {x : Int32} (hom : z_Om S) (h : ¬ f_M_isLetter S x = 0) : S.1 21 0 14 = nI ((S.1 21 0 14).toNatClampNeg - 1 + 1) := by
  obtain ⟨k, n, -, e, h1, h2⟩ := z_mleN hom h
  rw [e, nI_clamp (by omega)]
  exact congrArg nI (by omega)
theorem z_nm3 {S : z_S} {x : Int32} (hom : z_Om S) (h : ¬ f_M_isLetter S x = 0) : x.toNatClampNeg ≤ (S.1 21 0 14).toNatClampNeg - 1 := by
  obtain ⟨k, n, rfl, e, h1, h2⟩ := z_mleN hom h
  rw [e, nI_clamp (by omega), nI_clamp (by omega)]
  omega
theorem z_nm4 {S : z_S} {x : Int32} (hom : z_Om S) (h : ¬ f_M_isLetter S x = 0) : (S.1 21 0 14).toNatClampNeg - 1 < 24 := by
  obtain ⟨k, n, -, e, h1, h2⟩ := z_mleN hom h
  rw [e, nI_clamp (by omega)]
  omega
theorem z_nsN {S : z_S} (hom : z_Om S) (h : ¬ S.1 21 0 14 = 0) : ¬ f_M_isLetter S 0 = 0 := by
  obtain ⟨c, hc, e⟩ := vp_in_of (z_mmy hom) (by decide)
  unfold f_M_isLetter
  rw [if_neg (by decide), if_neg]
  · decide
  · rw [e]
    have h0 : 0 < c := by
      rcases Nat.eq_zero_or_pos c with z | z
      · subst z; exact absurd e h
      · exact z
    exact nI_ge (a := 0) h0 (by omega)
theorem z_ns2 {S : z_S} (hom : z_Om S) (h : ¬ S.1 21 0 14 = 0) : S.1 21 0 14 = nI ((S.1 21 0 14).toNatClampNeg - 1 + 1) := z_nm2 hom (z_nsN hom h)
theorem z_ns4 {S : z_S} (hom : z_Om S) (h : ¬ S.1 21 0 14 = 0) : (S.1 21 0 14).toNatClampNeg - 1 < 24 := z_nm4 hom (z_nsN hom h)
theorem z_cmr {S : z_S} (hm : vp_in (S.1 21 0 14) 25) : vp_in (f_M_come S) 25 := by
  unfold f_M_come
  split <;> exact hm
theorem z_cme {S : z_S} {a b c : Int32} (hm : vp_in (S.1 21 0 14) 25) : vp_in ((g_M_come S a b c).1 21 0 14) 25 := by
  obtain ⟨n, hn, e⟩ := vp_in_of hm (by decide)
  unfold g_M_come
  split
  · show vp_in (nI 24) 25
    exact vp_in_nI (by decide) (by decide)
  · rename_i h
    show vp_in (S.1 21 0 14 + 1) 25
    rw [e] at h ⊢
    have h4 : ¬ nI 24 ≤ nI n := h
    rw [nI_leI (by decide) (by omega)] at h4
    rw [show nI n + 1 = nI (n + 1) from nI_add n 1]
    exact vp_in_nI (by omega) (by decide)
theorem om_M_come {S : z_S} {a b c : Int32} (hom : z_Om S) (hc : vp_in c 3) : z_Om (g_M_come S a b c) := by
  have h1 := vp_in_iff.mp (z_cme (a := a) (b := b) (c := c) (z_mmy hom))
  refine ⟨?_, ⟨h1.1, by have := h1.2; omega⟩, ?_, ?_, ?_⟩
  · unfold g_M_come
    split <;> exact hom.1
  · intro k hk
    have h2 := hom.2.2.1 k hk
    unfold g_M_come
    split
    · show vp_in ((z_sI (z_sI (z_sI S 35 0 _ a) 36 0 _ b) 37 0 _ c).1 37 0 k) 3
      rw [z_rI]
      split
      · exact hc
      · exact h2
    · show vp_in ((z_sI (z_sI (z_sI S 35 0 _ a) 36 0 _ b) 37 0 _ c).1 37 0 k) 3
      rw [z_rI]
      split
      · exact hc
      · exact h2
  · unfold g_M_come
    split <;> exact hom.2.2.2.1
  · unfold g_M_come
    split <;> exact hom.2.2.2.2
def rg_M_copyLetter_50i_S1 (S : z_S) (v1 : Int32) (v2 : Int32) (k : Nat) : z_S := (z_sI S 39 0 (((8 * v2) + (nI k)).toNatClampNeg) (S.1 39 0 (((8 * v1) + (nI k)).toNatClampNeg)))
set_option maxHeartbeats 4000000 in
set_option maxRecDepth 100000 in
theorem rg_M_copyLetter_50i {D : va_G} {C : Nat → ClassId} {ad : Nat → Nat → Nat} {S : z_S} {p : Program} {l : Launch} {e : Env} {s : State} {m : MethodId} {args : Array Value} {below : List Frame} {meth : Method} {c : Code} {H H0 : Heap} {locs : List Loc} {Q : State → Prop} {ls : Array Slot} {v1 : Int32} {v2 : Int32} {k : Nat}  (hF : z_F D C ad p m c b_M_copyLetter 4 s args R_M)  (ha : ∀ k : Nat, k < 8 → vp_in ((8 * v1) + (nI k)) 200) (hb8 : ∀ k : Nat, k < 8 → vp_in ((8 * v2) + (nI k)) 200) (hk : k < 8) (hG : z_G D C ad H0 S H locs) (hl : lv_has ls 4 [(0, .ref (ad 21 0)), (1, .int v1), (2, .int v2), (3, .int (nI k))]) (kk : ∀ (H : Heap) (locs : List Loc) (ls : Array Slot) (S1 : z_S), z_G D C ad H0 S1 H locs → lv_has ls 4 [(0, .ref (ad 21 0)), (1, .int v1), (2, .int v2), (3, .int (nI (k + 1)))] → rg_M_copyLetter_50i_S1 S v1 v2 k = S1 → W p l e rm_M_copyLetter s m args below meth c H locs 0 0 Q (F0 m 50 ls [])) : W p l e rm_M_copyLetter s m args below meth c H locs 0 0 Q (F0 m 50 ls []) := by
  obtain ⟨hx, hb, hml, hown, hts⟩ := hF.1
  refine lv_iload_n hx hb d_M_copyLetter_50 rfl (lv_at hl 3 rfl) ?_
  refine lv_bipush (v := 8) hx hb d_M_copyLetter_51 z_bi8 ?_
  refine lv_icmp_ge (tgt := 84) hx hb d_M_copyLetter_53 rfl (fun h => absurd h (nI_ge (b := 8) hk (by decide))) (fun _ => ?_)
  refine lv_aload_n hx hb d_M_copyLetter_56 rfl (lv_at hl 0 rfl) ?_
  refine gf_M_63_21 hF hG d_M_copyLetter_57 ?_
  refine lv_bipush (v := 8) hx hb d_M_copyLetter_60 z_bi8 ?_
  refine lv_iload_n hx hb d_M_copyLetter_62 rfl (lv_at hl 2 rfl) ?_
  refine lv_imul hx hb d_M_copyLetter_63 ?_
  refine lv_iload_n hx hb d_M_copyLetter_64 rfl (lv_at hl 3 rfl) ?_
  refine lv_iadd hx hb d_M_copyLetter_65 ?_
  refine lv_aload_n hx hb d_M_copyLetter_66 rfl (lv_at hl 0 rfl) ?_
  refine gf_M_63_21 hF hG d_M_copyLetter_67 ?_
  refine lv_bipush (v := 8) hx hb d_M_copyLetter_70 z_bi8 ?_
  refine lv_iload_n hx hb d_M_copyLetter_72 rfl (lv_at hl 1 rfl) ?_
  refine lv_imul hx hb d_M_copyLetter_73 ?_
  refine lv_iload_n hx hb d_M_copyLetter_74 rfl (lv_at hl 3 rfl) ?_
  refine lv_iadd hx hb d_M_copyLetter_75 ?_
  refine z_iald (n := 200) (j := ((8 * v1) + (nI k)).toNatClampNeg) (v := (S.1 39 0 (((8 * v1) + (nI k)).toNatClampNeg))) hF hG z_o39 (z_c39 C ad _ _ _) rfl (ha k hk) rfl d_M_copyLetter_76 ?_
  refine z_iast (n := 200) (j := ((8 * v2) + (nI k)).toNatClampNeg) hF hG z_o39 (fun f g => z_c39 C ad f g _) rfl (hb8 k hk) d_M_copyLetter_77 (fun H locs hG => ?_)
  refine lv_iinc (k := 3) (v := (nI (k + 1))) (lv' := [(3, .int (nI (k + 1))), (0, .ref (ad 21 0)), (1, .int v1), (2, .int v2)]) hx hb d_M_copyLetter_78 hl rfl (z_incN _) (Nat.le_of_ble_eq_true rfl) rfl (fun ls hl => ?_)
  refine lv_goto (tgt := 50) hx hb d_M_copyLetter_81 rfl ?_
  exact kk _ _ _ _ hG (lv_sub hl [1, 2, 3, 0] rfl) rfl
set_option maxHeartbeats 4000000 in
set_option maxRecDepth 100000 in
theorem rg_M_copyLetter_50e {D : va_G} {C : Nat → ClassId} {ad : Nat → Nat → Nat} {S : z_S} {p : Program} {l : Launch} {e : Env} {s : State} {m : MethodId} {args : Array Value} {below : List Frame} {meth : Method} {c : Code} {H H0 : Heap} {locs : List Loc} {Q : State → Prop} {ls : Array Slot} {v1 : Int32} {v2 : Int32} {k : Nat}  (hF : z_F D C ad p m c b_M_copyLetter 4 s args R_M)  (ha : ∀ k : Nat, k < 8 → vp_in ((8 * v1) + (nI k)) 200) (hb8 : ∀ k : Nat, k < 8 → vp_in ((8 * v2) + (nI k)) 200) (hk : k = 8) (hG : z_G D C ad H0 S H locs) (hl : lv_has ls 4 [(0, .ref (ad 21 0)), (1, .int v1), (2, .int v2), (3, .int (nI k))]) (kk : ∀ (H : Heap) (locs : List Loc) (ls : Array Slot) , z_G D C ad H0 S H locs → lv_has ls 4 [(0, .ref (ad 21 0)), (1, .int v1), (2, .int v2), (3, .int (nI k))] → W p l e rm_M_copyLetter s m args below meth c H locs 0 0 Q (F0 m 84 ls [])) : W p l e rm_M_copyLetter s m args below meth c H locs 0 0 Q (F0 m 50 ls []) := by
  obtain ⟨hx, hb, hml, hown, hts⟩ := hF.1
  refine lv_iload_n hx hb d_M_copyLetter_50 rfl (lv_at hl 3 rfl) ?_
  refine lv_bipush (v := 8) hx hb d_M_copyLetter_51 z_bi8 ?_
  refine lv_icmp_ge (tgt := 84) hx hb d_M_copyLetter_53 rfl (fun _ => ?_) (fun h => absurd h (by rw [hk]; decide))
  exact kk _ _ _  hG (lv_sub hl [0, 1, 2, 3] rfl) 
set_option maxHeartbeats 4000000 in
set_option maxRecDepth 100000 in
theorem lp_M_copyLetter_50 {D : va_G} {C : Nat → ClassId} {ad : Nat → Nat → Nat} {p : Program} {l : Launch} {e : Env} {s : State} {m : MethodId} {args : Array Value} {below : List Frame} {meth : Method} {c : Code} {H0 : Heap} {Q : State → Prop} {v1 : Int32} {v2 : Int32}  (hF : z_F D C ad p m c b_M_copyLetter 4 s args R_M)  (ha : ∀ k : Nat, k < 8 → vp_in ((8 * v1) + (nI k)) 200) (hb8 : ∀ k : Nat, k < 8 → vp_in ((8 * v2) + (nI k)) 200) : ∀ (n k : Nat) (S : z_S) (H : Heap) (locs : List Loc) (ls : Array Slot), k + n = 8 → z_G D C ad H0 S H locs → lv_has ls 4 [(0, .ref (ad 21 0)), (1, .int v1), (2, .int v2), (3, .int (nI k))] → (∀ (H : Heap) (locs : List Loc) (ls : Array Slot), z_G D C ad H0 (z_it (fun (k : Nat) (S : z_S) => rg_M_copyLetter_50i_S1 S v1 v2 k) k n S) H locs → lv_has ls 4 [(0, .ref (ad 21 0)), (1, .int v1), (2, .int v2), (3, .int (nI 8))] → W p l e rm_M_copyLetter s m args below meth c H locs 0 0 Q (F0 m 84 ls [])) → W p l e rm_M_copyLetter s m args below meth c H locs 0 0 Q (F0 m 50 ls []) := by
  intro n
  induction n with
  | zero =>
    intro k S H locs ls hk hG hl kk
    have hk : k = 8 := by omega
    refine rg_M_copyLetter_50e hF  ha hb8 hk hG hl (fun H locs ls hG hl => ?_)
    subst hk
    exact kk H locs ls hG hl
  | succ n ih =>
    intro k S H locs ls hk hG hl kk
    refine rg_M_copyLetter_50i hF  ha hb8 (by omega) hG hl (fun H locs ls S1 hG hl e1 => ?_)
    subst e1
    exact ih (k + 1) (rg_M_copyLetter_50i_S1 S v1 v2 k) H locs ls (by omega) hG hl kk
def g_M_copyLetter (S : z_S) (x0 : Int32) (x1 : Int32) : z_S := (z_it (fun (kk9 : Nat) (T9 : z_S) => rg_M_copyLetter_50i_S1 T9 x0 x1 kk9) 0 8 (z_sL (z_sI (z_sI (z_sI S 35 0 x1.toNatClampNeg (S.1 35 0 x0.toNatClampNeg)) 36 0 x1.toNatClampNeg (S.1 36 0 x0.toNatClampNeg)) 37 0 x1.toNatClampNeg (S.1 37 0 x0.toNatClampNeg)) 38 0 x1.toNatClampNeg (S.2 38 0 x0.toNatClampNeg)))
set_option maxHeartbeats 4000000 in
set_option maxRecDepth 100000 in
theorem c_M_copyLetter (l : Launch) (D : va_G) (C : Nat → ClassId) (ad : Nat → Nat → Nat) (hJ : z_J ad) (S : z_S) (x0 : Int32) (x1 : Int32) (h0 : vp_in x0 25) (h1 : vp_in x1 25) : z_M l y_M_copyLetter b_M_copyLetter 4 none rm_M_copyLetter D C ad [.ref (ad 21 0), .int x0, .int x1] S (z_Qv D C ad (g_M_copyLetter S x0 x1)) := by
  refine z_enter (by decide) (Nat.le_of_ble_eq_true rfl) hJ ?_
  intro p e s m below meth c ls hF hr hlk hl hG
  obtain ⟨hx, hb, hml, hown, hts⟩ := hF.1
  have hl : lv_has ls 4 [(0, .ref (ad 21 0)), (1, .int x0), (2, .int x1)] := hl
  refine lv_aload_n hx hb d_M_copyLetter_0 rfl (lv_at hl 0 rfl) ?_
  refine gf_M_51_21 hF hG d_M_copyLetter_1 ?_
  refine lv_iload_n hx hb d_M_copyLetter_4 rfl (lv_at hl 2 rfl) ?_
  refine lv_aload_n hx hb d_M_copyLetter_5 rfl (lv_at hl 0 rfl) ?_
  refine gf_M_51_21 hF hG d_M_copyLetter_6 ?_
  refine lv_iload_n hx hb d_M_copyLetter_9 rfl (lv_at hl 1 rfl) ?_
  refine z_iald (n := 25) (j := x0.toNatClampNeg) (v := (S.1 35 0 x0.toNatClampNeg)) hF hG z_o35 (z_c35 C ad _ _ _) rfl h0 rfl d_M_copyLetter_10 ?_
  refine z_iast (n := 25) (j := x1.toNatClampNeg) hF hG z_o35 (fun f g => z_c35 C ad f g _) rfl h1 d_M_copyLetter_11 (fun H locs hG => ?_)
  refine lv_aload_n hx hb d_M_copyLetter_12 rfl (lv_at hl 0 rfl) ?_
  refine gf_M_54_21 hF hG d_M_copyLetter_13 ?_
  refine lv_iload_n hx hb d_M_copyLetter_16 rfl (lv_at hl 2 rfl) ?_
  refine lv_aload_n hx hb d_M_copyLetter_17 rfl (lv_at hl 0 rfl) ?_
  refine gf_M_54_21 hF hG d_M_copyLetter_18 ?_
  refine lv_iload_n hx hb d_M_copyLetter_21 rfl (lv_at hl 1 rfl) ?_
  refine z_iald (n := 25) (j := x0.toNatClampNeg) (v := (S.1 36 0 x0.toNatClampNeg)) hF hG z_o36 (z_c36 C ad _ _ _) rfl h0 rfl d_M_copyLetter_22 ?_
  refine z_iast (n := 25) (j := x1.toNatClampNeg) hF hG z_o36 (fun f g => z_c36 C ad f g _) rfl h1 d_M_copyLetter_23 (fun H locs hG => ?_)
  refine lv_aload_n hx hb d_M_copyLetter_24 rfl (lv_at hl 0 rfl) ?_
  refine gf_M_57_21 hF hG d_M_copyLetter_25 ?_
  refine lv_iload_n hx hb d_M_copyLetter_28 rfl (lv_at hl 2 rfl) ?_
  refine lv_aload_n hx hb d_M_copyLetter_29 rfl (lv_at hl 0 rfl) ?_
  refine gf_M_57_21 hF hG d_M_copyLetter_30 ?_
  refine lv_iload_n hx hb d_M_copyLetter_33 rfl (lv_at hl 1 rfl) ?_
  refine z_iald (n := 25) (j := x0.toNatClampNeg) (v := (S.1 37 0 x0.toNatClampNeg)) hF hG z_o37 (z_c37 C ad _ _ _) rfl h0 rfl d_M_copyLetter_34 ?_
  refine z_iast (n := 25) (j := x1.toNatClampNeg) hF hG z_o37 (fun f g => z_c37 C ad f g _) rfl h1 d_M_copyLetter_35 (fun H locs hG => ?_)
  refine lv_aload_n hx hb d_M_copyLetter_36 rfl (lv_at hl 0 rfl) ?_
  refine gf_M_60_21 hF hG d_M_copyLetter_37 ?_
  refine lv_iload_n hx hb d_M_copyLetter_40 rfl (lv_at hl 2 rfl) ?_
  refine lv_aload_n hx hb d_M_copyLetter_41 rfl (lv_at hl 0 rfl) ?_
  refine gf_M_60_21 hF hG d_M_copyLetter_42 ?_
  refine lv_iload_n hx hb d_M_copyLetter_45 rfl (lv_at hl 1 rfl) ?_
  refine z_lald (n := 25) (j := x0.toNatClampNeg) (v := (S.2 38 0 x0.toNatClampNeg)) hF hG z_o38 (z_c38 C ad _ _ _) rfl h0 rfl d_M_copyLetter_46 ?_
  refine z_last (n := 25) (j := x1.toNatClampNeg) hF hG z_o38 (fun f g => z_c38 C ad f g _) rfl h1 d_M_copyLetter_47 (fun H locs hG => ?_)
  refine lv_iconst (v := 0) hx hb d_M_copyLetter_48 z_k0 ?_
  refine lv_istore_n (lv' := [(3, .int 0), (0, .ref (ad 21 0)), (1, .int x0), (2, .int x1)]) hx hb d_M_copyLetter_49 rfl hl (Nat.le_of_ble_eq_true rfl) rfl (fun ls hl => ?_)
  have hl : lv_has ls 4 [(0, .ref (ad 21 0)), (1, .int x0), (2, .int x1), (3, .int (nI 0))] := by
    have h9 := lv_sub hl [1, 2, 3, 0] rfl
    rw [nI_0]; exact h9
  refine lp_M_copyLetter_50  hF  (z_l8 h0) (z_l8 h1) 8 0 (z_sL (z_sI (z_sI (z_sI S 35 0 x1.toNatClampNeg (S.1 35 0 x0.toNatClampNeg)) 36 0 x1.toNatClampNeg (S.1 36 0 x0.toNatClampNeg)) 37 0 x1.toNatClampNeg (S.1 37 0 x0.toNatClampNeg)) 38 0 x1.toNatClampNeg (S.2 38 0 x0.toNatClampNeg)) _ _ ls rfl hG hl (fun H locs ls hG hl => ?_)
  exact z_vret hF hr hlk hG rfl d_M_copyLetter_84
theorem z_it_fr {α β : Type} {f : Nat → α → α} {P : α → β} (h : ∀ k x, P (f k x) = P x) : ∀ (n k : Nat) (x : α), P (z_it f k n x) = P x
  | 0, _, _ => rfl
  | n + 1, k, x => (z_it_fr h n (k + 1) (f k x)).trans (h k x)
theorem fr_M_copyLetter {S : z_S} {x0 x1 : Int32} : (g_M_copyLetter S x0 x1).1 21 = S.1 21 := by
  exact (z_it_fr (P := fun S : z_S => S.1 21) (f := fun (kk9 : Nat) (T9 : z_S) => rg_M_copyLetter_50i_S1 T9 x0 x1 kk9) (fun k S => rfl) 8 0 _).trans rfl
def rg_M_leave_9i_S1 (S : z_S) (k : Nat) : z_S := (g_M_copyLetter S ((nI k) + 1) (nI k))
set_option maxHeartbeats 4000000 in
set_option maxRecDepth 100000 in
theorem rg_M_leave_9i {D : va_G} {C : Nat → ClassId} {ad : Nat → Nat → Nat} {S : z_S} {p : Program} {l : Launch} {e : Env} {s : State} {m : MethodId} {args : Array Value} {below : List Frame} {meth : Method} {c : Code} {H H0 : Heap} {locs : List Loc} {Q : State → Prop} {ls : Array Slot} {v1 : Int32} {k : Nat} {N : Nat} (hF : z_F D C ad p m c b_M_leave 3 s args R_M)  (hN : N < 24) (inv : S.1 21 0 14 = nI (N + 1)) (hk : k < N) (hG : z_G D C ad H0 S H locs) (hl : lv_has ls 3 [(0, .ref (ad 21 0)), (1, .int v1), (2, .int (nI k))]) (kk : ∀ (H : Heap) (locs : List Loc) (ls : Array Slot) (S1 : z_S), z_G D C ad H0 S1 H locs → lv_has ls 3 [(0, .ref (ad 21 0)), (1, .int v1), (2, .int (nI (k + 1)))] → rg_M_leave_9i_S1 S k = S1 → W p l e rm_M_leave s m args below meth c H locs 0 0 Q (F0 m 9 ls [])) : W p l e rm_M_leave s m args below meth c H locs 0 0 Q (F0 m 9 ls []) := by
  obtain ⟨hx, hb, hml, hown, hts⟩ := hF.1
  refine lv_iload_n hx hb d_M_leave_9 rfl (lv_at hl 2 rfl) ?_
  refine lv_iconst (v := 1) hx hb d_M_leave_10 z_k1 ?_
  refine lv_iadd hx hb d_M_leave_11 ?_
  refine z_topi (y := (nI (k + 1))) (nI_succ k).symm ?_
  refine lv_aload_n hx hb d_M_leave_12 rfl (lv_at hl 0 rfl) ?_
  refine gf_M_98_21 hF hG (v := (S.1 21 0 14)) rfl d_M_leave_13 ?_
  refine lv_icmp_ge (tgt := 33) hx hb d_M_leave_16 rfl (fun h => absurd h (by rw [inv]; exact nI_ge (by omega) (by omega))) (fun _ => ?_)
  refine lv_aload_n hx hb d_M_leave_19 rfl (lv_at hl 0 rfl) ?_
  refine lv_iload_n hx hb d_M_leave_20 rfl (lv_at hl 2 rfl) ?_
  refine lv_iconst (v := 1) hx hb d_M_leave_21 z_k1 ?_
  refine lv_iadd hx hb d_M_leave_22 ?_
  refine lv_iload_n hx hb d_M_leave_23 rfl (lv_at hl 2 rfl) ?_
  refine kc_M_101 hF (c_M_copyLetter l D C ad hF.2.2 _ _ _ (by rw [show nI k + 1 = nI (k + 1) from (nI_succ k).symm]; exact vp_in_nI (by omega) (by decide)) (vp_in_nI (by omega) (by decide))) hG ⟨Nat.le_of_ble_eq_true rfl, Nat.le_of_ble_eq_true rfl⟩ ⟨Nat.zero_le _, Nat.zero_le _⟩ hl.1 (Nat.le_of_ble_eq_true rfl) d_M_leave_24 (fun H locs hG => ?_)
  refine lv_iinc (k := 2) (v := (nI (k + 1))) (lv' := [(2, .int (nI (k + 1))), (0, .ref (ad 21 0)), (1, .int v1)]) hx hb d_M_leave_27 hl rfl (z_incN _) (Nat.le_of_ble_eq_true rfl) rfl (fun ls hl => ?_)
  refine lv_goto (tgt := 9) hx hb d_M_leave_30 rfl ?_
  exact kk _ _ _ _ hG (lv_sub hl [1, 2, 0] rfl) rfl
set_option maxHeartbeats 4000000 in
set_option maxRecDepth 100000 in
theorem rg_M_leave_9e {D : va_G} {C : Nat → ClassId} {ad : Nat → Nat → Nat} {S : z_S} {p : Program} {l : Launch} {e : Env} {s : State} {m : MethodId} {args : Array Value} {below : List Frame} {meth : Method} {c : Code} {H H0 : Heap} {locs : List Loc} {Q : State → Prop} {ls : Array Slot} {v1 : Int32} {k : Nat} {N : Nat} (hF : z_F D C ad p m c b_M_leave 3 s args R_M)  (hN : N < 24) (inv : S.1 21 0 14 = nI (N + 1)) (hk : k = N) (hG : z_G D C ad H0 S H locs) (hl : lv_has ls 3 [(0, .ref (ad 21 0)), (1, .int v1), (2, .int (nI k))]) (kk : ∀ (H : Heap) (locs : List Loc) (ls : Array Slot) , z_G D C ad H0 S H locs → lv_has ls 3 [(0, .ref (ad 21 0)), (1, .int v1), (2, .int (nI k))] → W p l e rm_M_leave s m args below meth c H locs 0 0 Q (F0 m 33 ls [])) : W p l e rm_M_leave s m args below meth c H locs 0 0 Q (F0 m 9 ls []) := by
  obtain ⟨hx, hb, hml, hown, hts⟩ := hF.1
  refine lv_iload_n hx hb d_M_leave_9 rfl (lv_at hl 2 rfl) ?_
  refine lv_iconst (v := 1) hx hb d_M_leave_10 z_k1 ?_
  refine lv_iadd hx hb d_M_leave_11 ?_
  refine z_topi (y := (nI (k + 1))) (nI_succ k).symm ?_
  refine lv_aload_n hx hb d_M_leave_12 rfl (lv_at hl 0 rfl) ?_
  refine gf_M_98_21 hF hG (v := (S.1 21 0 14)) rfl d_M_leave_13 ?_
  refine lv_icmp_ge (tgt := 33) hx hb d_M_leave_16 rfl (fun _ => ?_) (fun h => absurd h (by rw [inv, hk]; exact not_not_intro (nI_le (Nat.le_refl _) (by omega))))
  exact kk _ _ _  hG (lv_sub hl [0, 1, 2] rfl) 
set_option maxHeartbeats 4000000 in
set_option maxRecDepth 100000 in
theorem lp_M_leave_9 {D : va_G} {C : Nat → ClassId} {ad : Nat → Nat → Nat} {p : Program} {l : Launch} {e : Env} {s : State} {m : MethodId} {args : Array Value} {below : List Frame} {meth : Method} {c : Code} {H0 : Heap} {Q : State → Prop} {v1 : Int32} {N : Nat} (hF : z_F D C ad p m c b_M_leave 3 s args R_M)  (hN : N < 24) : ∀ (n k : Nat) (S : z_S) (H : Heap) (locs : List Loc) (ls : Array Slot), k + n = N → (S.1 21 0 14 = nI (N + 1)) → z_G D C ad H0 S H locs → lv_has ls 3 [(0, .ref (ad 21 0)), (1, .int v1), (2, .int (nI k))] → (∀ (H : Heap) (locs : List Loc) (ls : Array Slot), z_G D C ad H0 (z_it (fun (k : Nat) (S : z_S) => rg_M_leave_9i_S1 S k) k n S) H locs → lv_has ls 3 [(0, .ref (ad 21 0)), (1, .int v1), (2, .int (nI N))] → W p l e rm_M_leave s m args below meth c H locs 0 0 Q (F0 m 33 ls [])) → W p l e rm_M_leave s m args below meth c H locs 0 0 Q (F0 m 9 ls []) := by
  intro n
  induction n with
  | zero =>
    intro k S H locs ls hk inv hG hl kk
    have hk : k = N := by omega
    refine rg_M_leave_9e hF  hN inv hk hG hl (fun H locs ls hG hl => ?_)
    subst hk
    exact kk H locs ls hG hl
  | succ n ih =>
    intro k S H locs ls hk inv hG hl kk
    refine rg_M_leave_9i hF  hN inv (by omega) hG hl (fun H locs ls S1 hG hl e1 => ?_)
    subst e1
    exact ih (k + 1) (rg_M_leave_9i_S1 S k) H locs ls (by omega) (by rw [show (rg_M_leave_9i_S1 S k).1 21 0 14 = S.1 21 0 14 from congrFun (congrFun fr_M_copyLetter 0) 14]; exact inv) hG hl kk
def g_M_leave (S : z_S) (x0 : Int32) (k0 : Nat) (N : Nat) : z_S := (z_sI (z_it (fun (kk9 : Nat) (T9 : z_S) => rg_M_leave_9i_S1 T9 kk9) k0 (N - k0) (g_M_copyLetter S x0 24)) 21 0 14 (((z_it (fun (kk9 : Nat) (T9 : z_S) => rg_M_leave_9i_S1 T9 kk9) k0 (N - k0) (g_M_copyLetter S x0 24)).1 21 0 14) - 1))
set_option maxHeartbeats 4000000 in
set_option maxRecDepth 100000 in
theorem c_M_leave (l : Launch) (D : va_G) (C : Nat → ClassId) (ad : Nat → Nat → Nat) (hJ : z_J ad) (S : z_S) (x0 : Int32) (k0 : Nat) (N : Nat) (hx0 : x0 = nI k0) (hc : S.1 21 0 14 = nI (N + 1)) (hk0 : k0 ≤ N) (hN : N < 24) : z_M l y_M_leave b_M_leave 3 none rm_M_leave D C ad [.ref (ad 21 0), .int x0] S (z_Qv D C ad (g_M_leave S x0 k0 N)) := by
  refine z_enter (by decide) (Nat.le_of_ble_eq_true rfl) hJ ?_
  intro p e s m below meth c ls hF hr hlk hl hG
  obtain ⟨hx, hb, hml, hown, hts⟩ := hF.1
  have hl : lv_has ls 3 [(0, .ref (ad 21 0)), (1, .int x0)] := hl
  refine lv_aload_n hx hb d_M_leave_0 rfl (lv_at hl 0 rfl) ?_
  refine lv_iload_n hx hb d_M_leave_1 rfl (lv_at hl 1 rfl) ?_
  refine lv_bipush (v := 24) hx hb d_M_leave_2 z_bi24 ?_
  refine kc_M_101 hF (c_M_copyLetter l D C ad hF.2.2 _ _ _ (by rw [hx0]; exact vp_in_nI (by omega) (by decide)) z_in24_25) hG ⟨Nat.le_of_ble_eq_true rfl, Nat.le_of_ble_eq_true rfl⟩ ⟨Nat.zero_le _, Nat.zero_le _⟩ hl.1 (Nat.le_of_ble_eq_true rfl) d_M_leave_4 (fun H locs hG => ?_)
  refine lv_iload_n hx hb d_M_leave_7 rfl (lv_at hl 1 rfl) ?_
  refine lv_istore_n (lv' := [(2, .int x0), (0, .ref (ad 21 0)), (1, .int x0)]) hx hb d_M_leave_8 rfl hl (Nat.le_of_ble_eq_true rfl) rfl (fun ls hl => ?_)
  have hl : lv_has ls 3 [(0, .ref (ad 21 0)), (1, .int x0), (2, .int (nI k0))] := by
    have h9 := lv_sub hl [1, 2, 0] rfl
    rw [← hx0]; exact h9
  refine lp_M_leave_9  hF  hN (N - k0) k0 (g_M_copyLetter S x0 24) _ _ ls (by omega) (by rw [congrFun (congrFun fr_M_copyLetter 0) 14]; exact hc) hG hl (fun H locs ls hG hl => ?_)
  refine lv_aload_n hx hb d_M_leave_33 rfl (lv_at hl 0 rfl) ?_
  refine lv_dup hx hb d_M_leave_34 rfl ?_
  refine gf_M_98_21 hF hG (v := ((z_it (fun (kk9 : Nat) (T9 : z_S) => rg_M_leave_9i_S1 T9 kk9) k0 (N - k0) (g_M_copyLetter S x0 24)).1 21 0 14)) rfl d_M_leave_35 ?_
  refine lv_iconst (v := 1) hx hb d_M_leave_38 z_k1 ?_
  refine lv_isub hx hb d_M_leave_39 ?_
  refine pf_M_98_21 hF hG d_M_leave_40 (fun H locs hG => ?_)
  exact z_vret hF hr hlk hG rfl d_M_leave_43
theorem om_M_copyLetter {S : z_S} {x0 x1 : Int32} (hom : z_Om S) (h0 : vp_in x0 25) : z_Om (g_M_copyLetter S x0 x1) := by
  unfold g_M_copyLetter
  refine z_it_inv (P := z_Om) (f := fun (kk9 : Nat) (T9 : z_S) => rg_M_copyLetter_50i_S1 T9 x0 x1 kk9) (fun k T hT => hT.of rfl rfl rfl rfl rfl rfl rfl) ?_
  refine ⟨hom.1, hom.2.1, ?_, hom.2.2.2.1, hom.2.2.2.2⟩
  intro k hk
  have h2 := hom.2.2.1 k hk
  have h3 := hom.2.2.1 _ (z_lt h0)
  show vp_in ((z_sI (z_sI (z_sI S 35 0 _ _) 36 0 _ _) 37 0 x1.toNatClampNeg (S.1 37 0 x0.toNatClampNeg)).1 37 0 k) 3
  rw [z_rI]
  split
  · exact h3
  · exact h2
theorem om_M_leave {S : z_S} {x0 : Int32} {k0 N : Nat} (hom : z_Om S) (hx0 : x0 = nI k0) (hc : S.1 21 0 14 = nI (N + 1)) (hk0 : k0 ≤ N) (hN : N < 24) : z_Om (g_M_leave S x0 k0 N) := by
  have hP : z_Om (z_it (fun (kk9 : Nat) (T9 : z_S) => rg_M_leave_9i_S1 T9 kk9) k0 (N - k0) (g_M_copyLetter S x0 24)) ∧ (z_it (fun (kk9 : Nat) (T9 : z_S) => rg_M_leave_9i_S1 T9 kk9) k0 (N - k0) (g_M_copyLetter S x0 24)).1 21 0 14 = nI (N + 1) := by
    refine z_it_invB (K := N) (P := fun T : z_S => z_Om T ∧ T.1 21 0 14 = nI (N + 1)) ?_ _ _ _ (by omega) ?_
    · intro k T hk hT
      refine ⟨om_M_copyLetter hT.1 ?_, ?_⟩
      · rw [show nI k + 1 = nI (k + 1) from nI_add k 1]
        exact vp_in_nI (by omega) (by decide)
      · exact (congrFun (congrFun fr_M_copyLetter 0) 14).trans hT.2
    · refine ⟨om_M_copyLetter hom ?_, ?_⟩
      · rw [hx0]
        exact vp_in_nI (by omega) (by decide)
      · exact (congrFun (congrFun fr_M_copyLetter 0) 14).trans hc
  unfold g_M_leave
  refine ⟨hP.1.1, ?_, hP.1.2.2.1, hP.1.2.2.2.1, hP.1.2.2.2.2⟩
  show 0 ≤ (_ - 1 : Int32).toInt ∧ (_ - 1 : Int32).toInt ≤ 24
  rw [hP.2, z_pred, nI_toInt (by omega)]
  omega
def f_M_lose (S : z_S) (x0 : Int32) : Int32 := (if (f_M_isLetter S x0) = 0 then (-1) else (S.1 35 0 x0.toNatClampNeg))
def g_M_lose (S : z_S) (x0 : Int32) : z_S := (if (f_M_isLetter S x0) = 0 then S else (g_M_leave S x0 x0.toNatClampNeg ((S.1 21 0 14).toNatClampNeg - 1)))
set_option maxHeartbeats 4000000 in
set_option maxRecDepth 100000 in
theorem c_M_lose (l : Launch) (D : va_G) (C : Nat → ClassId) (ad : Nat → Nat → Nat) (hJ : z_J ad) (S : z_S) (x0 : Int32) (hom : z_Om S) : z_M l y_M_lose b_M_lose 3 (some .int) rm_M_lose D C ad [.ref (ad 21 0), .int x0] S (z_Qi D C ad (f_M_lose S x0) (g_M_lose S x0)) := by
  refine z_enter (by decide) (Nat.le_of_ble_eq_true rfl) hJ ?_
  intro p e s m below meth c ls hF hr hlk hl hG
  obtain ⟨hx, hb, hml, hown, hts⟩ := hF.1
  have hl : lv_has ls 3 [(0, .ref (ad 21 0)), (1, .int x0)] := hl
  refine lv_aload_n hx hb d_M_lose_0 rfl (lv_at hl 0 rfl) ?_
  refine lv_iload_n hx hb d_M_lose_1 rfl (lv_at hl 1 rfl) ?_
  refine kc_M_105 hF (c_M_isLetter l D C ad hF.2.2 _ _ ) hG ⟨Nat.le_of_ble_eq_true rfl, Nat.le_of_ble_eq_true rfl⟩ ⟨Nat.zero_le _, Nat.zero_le _⟩ hl.1 (Nat.le_of_ble_eq_true rfl) d_M_lose_2 (fun H locs hG => ?_)
  refine lv_if_ne (tgt := 10) hx hb d_M_lose_5 rfl (fun h5 => ?_) (fun h5 => ?_)
  ·
    refine lv_aload_n hx hb d_M_lose_10 rfl (lv_at hl 0 rfl) ?_
    refine gf_M_51_21 hF hG d_M_lose_11 ?_
    refine lv_iload_n hx hb d_M_lose_14 rfl (lv_at hl 1 rfl) ?_
    refine z_iald (n := 25) (j := x0.toNatClampNeg) (v := (S.1 35 0 x0.toNatClampNeg)) hF hG z_o35 (z_c35 C ad _ _ _) rfl (z_mle hom h5) rfl d_M_lose_15 ?_
    refine lv_istore_n (lv' := [(2, .int (S.1 35 0 x0.toNatClampNeg)), (0, .ref (ad 21 0)), (1, .int x0)]) hx hb d_M_lose_16 rfl hl (Nat.le_of_ble_eq_true rfl) rfl (fun ls hl => ?_)
    refine lv_aload_n hx hb d_M_lose_17 rfl (lv_at hl 1 rfl) ?_
    refine lv_iload_n hx hb d_M_lose_18 rfl (lv_at hl 2 rfl) ?_
    refine kc_M_108 hF (c_M_leave l D C ad hF.2.2 _ _ x0.toNatClampNeg ((S.1 21 0 14).toNatClampNeg - 1) (z_nm1 h5) (z_nm2 hom h5) (z_nm3 hom h5) (z_nm4 hom h5)) hG ⟨Nat.le_of_ble_eq_true rfl, Nat.le_of_ble_eq_true rfl⟩ ⟨Nat.zero_le _, Nat.zero_le _⟩ hl.1 (Nat.le_of_ble_eq_true rfl) d_M_lose_19 (fun H locs hG => ?_)
    refine lv_iload_n hx hb d_M_lose_22 rfl (lv_at hl 0 rfl) ?_
    exact z_iret hF hr hlk hG (Eq.symm ((if_neg h5).trans rfl)) (Eq.symm ((if_neg h5).trans rfl)) d_M_lose_23
  ·
    refine lv_iconst (v := (-1)) hx hb d_M_lose_8 z_km1 ?_
    exact z_iret hF hr hlk hG (Eq.symm ((if_pos h5).trans rfl)) (Eq.symm ((if_pos h5).trans rfl)) d_M_lose_9
def f_M_twice (S : z_S) (x0 : Int32) : Int32 := (if (f_M_isLetter S x0) = 0 then (-1) else (if (S.1 21 0 14) = 24 then (-3) else (((g_M_copyLetter S x0 (S.1 21 0 14)).1 21 0 14) + 1)))
def g_M_twice (S : z_S) (x0 : Int32) : z_S := (if (f_M_isLetter S x0) = 0 then S else (if (S.1 21 0 14) = 24 then S else (z_sI (g_M_copyLetter S x0 (S.1 21 0 14)) 21 0 14 (((g_M_copyLetter S x0 (S.1 21 0 14)).1 21 0 14) + 1))))
set_option maxHeartbeats 4000000 in
set_option maxRecDepth 100000 in
theorem c_M_twice (l : Launch) (D : va_G) (C : Nat → ClassId) (ad : Nat → Nat → Nat) (hJ : z_J ad) (S : z_S) (x0 : Int32) (hom : z_Om S) : z_M l y_M_twice b_M_twice 2 (some .int) rm_M_twice D C ad [.ref (ad 21 0), .int x0] S (z_Qi D C ad (f_M_twice S x0) (g_M_twice S x0)) := by
  refine z_enter (by decide) (Nat.le_of_ble_eq_true rfl) hJ ?_
  intro p e s m below meth c ls hF hr hlk hl hG
  obtain ⟨hx, hb, hml, hown, hts⟩ := hF.1
  have hl : lv_has ls 2 [(0, .ref (ad 21 0)), (1, .int x0)] := hl
  refine lv_aload_n hx hb d_M_twice_0 rfl (lv_at hl 0 rfl) ?_
  refine lv_iload_n hx hb d_M_twice_1 rfl (lv_at hl 1 rfl) ?_
  refine kc_M_105 hF (c_M_isLetter l D C ad hF.2.2 _ _ ) hG ⟨Nat.le_of_ble_eq_true rfl, Nat.le_of_ble_eq_true rfl⟩ ⟨Nat.zero_le _, Nat.zero_le _⟩ hl.1 (Nat.le_of_ble_eq_true rfl) d_M_twice_2 (fun H locs hG => ?_)
  refine lv_if_ne (tgt := 10) hx hb d_M_twice_5 rfl (fun h5 => ?_) (fun h5 => ?_)
  ·
    refine lv_aload_n hx hb d_M_twice_10 rfl (lv_at hl 0 rfl) ?_
    refine gf_M_98_21 hF hG (v := (S.1 21 0 14)) rfl d_M_twice_11 ?_
    refine lv_bipush (v := 24) hx hb d_M_twice_14 z_bi24 ?_
    refine lv_icmp_ne (tgt := 22) hx hb d_M_twice_16 rfl (fun h16 => ?_) (fun h16 => ?_)
    ·
      refine lv_aload_n hx hb d_M_twice_22 rfl (lv_at hl 0 rfl) ?_
      refine lv_iload_n hx hb d_M_twice_23 rfl (lv_at hl 1 rfl) ?_
      refine lv_aload_n hx hb d_M_twice_24 rfl (lv_at hl 0 rfl) ?_
      refine gf_M_98_21 hF hG (v := (S.1 21 0 14)) rfl d_M_twice_25 ?_
      refine kc_M_101 hF (c_M_copyLetter l D C ad hF.2.2 _ _ _ (z_mle hom h5) (z_mmy hom)) hG ⟨Nat.le_of_ble_eq_true rfl, Nat.le_of_ble_eq_true rfl⟩ ⟨Nat.zero_le _, Nat.zero_le _⟩ hl.1 (Nat.le_of_ble_eq_true rfl) d_M_twice_28 (fun H locs hG => ?_)
      refine lv_aload_n hx hb d_M_twice_31 rfl (lv_at hl 0 rfl) ?_
      refine lv_dup hx hb d_M_twice_32 rfl ?_
      refine gf_M_98_21 hF hG (v := ((g_M_copyLetter S x0 (S.1 21 0 14)).1 21 0 14)) rfl d_M_twice_33 ?_
      refine lv_iconst (v := 1) hx hb d_M_twice_36 z_k1 ?_
      refine lv_iadd hx hb d_M_twice_37 ?_
      refine pf_M_98_21 hF hG d_M_twice_38 (fun H locs hG => ?_)
      refine lv_aload_n hx hb d_M_twice_41 rfl (lv_at hl 0 rfl) ?_
      refine gf_M_98_21 hF hG (v := (((g_M_copyLetter S x0 (S.1 21 0 14)).1 21 0 14) + 1)) rfl d_M_twice_42 ?_
      exact z_iret hF hr hlk hG (Eq.symm ((if_neg h5).trans ((if_neg h16).trans rfl))) (Eq.symm ((if_neg h5).trans ((if_neg h16).trans rfl))) d_M_twice_45
    ·
      refine lv_bipush (v := (-3)) hx hb d_M_twice_19 z_bim3 ?_
      exact z_iret hF hr hlk hG (Eq.symm ((if_neg h5).trans ((if_pos h16).trans rfl))) (Eq.symm ((if_neg h5).trans ((if_pos h16).trans rfl))) d_M_twice_21
  ·
    refine lv_iconst (v := (-1)) hx hb d_M_twice_8 z_km1 ?_
    exact z_iret hF hr hlk hG (Eq.symm ((if_pos h5).trans rfl)) (Eq.symm ((if_pos h5).trans rfl)) d_M_twice_9
def f_M_letters (S : z_S) : Int32 := (S.1 21 0 14)
set_option maxHeartbeats 4000000 in
set_option maxRecDepth 100000 in
theorem c_M_letters (l : Launch) (D : va_G) (C : Nat → ClassId) (ad : Nat → Nat → Nat) (hJ : z_J ad) (S : z_S)  : z_M l y_M_letters b_M_letters 1 (some .int) rm_M_letters D C ad [.ref (ad 21 0)] S (z_Qi D C ad (f_M_letters S) S) := by
  refine z_enter (by decide) (Nat.le_of_ble_eq_true rfl) hJ ?_
  intro p e s m below meth c ls hF hr hlk hl hG
  obtain ⟨hx, hb, hml, hown, hts⟩ := hF.1
  have hl : lv_has ls 1 [(0, .ref (ad 21 0))] := hl
  refine lv_aload_n hx hb d_M_letters_0 rfl (lv_at hl 0 rfl) ?_
  refine gf_M_98_21 hF hG (v := (S.1 21 0 14)) rfl d_M_letters_1 ?_
  exact z_iret hF hr hlk hG rfl rfl d_M_letters_4
def f_M_letter (S : z_S) (x0 : Int32) (x1 : Int32) : Int32 := (if (f_M_isLetter S x0) = 0 then (-1) else (if x1 < 0 then (-1) else (if x1 ≤ 2 then (if x1 = 0 then (S.1 35 0 x0.toNatClampNeg) else (if x1 = 1 then (S.1 36 0 x0.toNatClampNeg) else (S.1 37 0 x0.toNatClampNeg))) else (-1))))
set_option maxHeartbeats 4000000 in
set_option maxRecDepth 100000 in
theorem c_M_letter (l : Launch) (D : va_G) (C : Nat → ClassId) (ad : Nat → Nat → Nat) (hJ : z_J ad) (S : z_S) (x0 : Int32) (x1 : Int32) (hom : z_Om S) : z_M l y_M_letter b_M_letter 3 (some .int) rm_M_letter D C ad [.ref (ad 21 0), .int x0, .int x1] S (z_Qi D C ad (f_M_letter S x0 x1) S) := by
  refine z_enter (by decide) (Nat.le_of_ble_eq_true rfl) hJ ?_
  intro p e s m below meth c ls hF hr hlk hl hG
  obtain ⟨hx, hb, hml, hown, hts⟩ := hF.1
  have hl : lv_has ls 3 [(0, .ref (ad 21 0)), (1, .int x0), (2, .int x1)] := hl
  refine lv_aload_n hx hb d_M_letter_0 rfl (lv_at hl 0 rfl) ?_
  refine lv_iload_n hx hb d_M_letter_1 rfl (lv_at hl 1 rfl) ?_
  refine kc_M_105 hF (c_M_isLetter l D C ad hF.2.2 _ _ ) hG ⟨Nat.le_of_ble_eq_true rfl, Nat.le_of_ble_eq_true rfl⟩ ⟨Nat.zero_le _, Nat.zero_le _⟩ hl.1 (Nat.le_of_ble_eq_true rfl) d_M_letter_2 (fun H locs hG => ?_)
  refine lv_if_eq (tgt := 17) hx hb d_M_letter_5 rfl (fun h5 => ?_) (fun h5 => ?_)
  ·
    refine lv_iconst (v := (-1)) hx hb d_M_letter_17 z_km1 ?_
    exact z_iret hF hr hlk hG (Eq.symm ((if_pos h5).trans rfl)) rfl d_M_letter_18
  ·
    refine lv_iload_n hx hb d_M_letter_8 rfl (lv_at hl 2 rfl) ?_
    refine lv_if_lt (tgt := 17) hx hb d_M_letter_9 rfl (fun h9 => ?_) (fun h9 => ?_)
    ·
      refine lv_iconst (v := (-1)) hx hb d_M_letter_17 z_km1 ?_
      exact z_iret hF hr hlk hG (Eq.symm ((if_neg h5).trans ((if_pos h9).trans rfl))) rfl d_M_letter_18
    ·
      refine lv_iload_n hx hb d_M_letter_12 rfl (lv_at hl 2 rfl) ?_
      refine lv_iconst (v := 2) hx hb d_M_letter_13 z_k2 ?_
      refine lv_icmp_le (tgt := 19) hx hb d_M_letter_14 rfl (fun h14 => ?_) (fun h14 => ?_)
      ·
        refine lv_iload_n hx hb d_M_letter_19 rfl (lv_at hl 2 rfl) ?_
        refine lv_if_ne (tgt := 32) hx hb d_M_letter_20 rfl (fun h20 => ?_) (fun h20 => ?_)
        ·
          refine lv_iload_n hx hb d_M_letter_32 rfl (lv_at hl 2 rfl) ?_
          refine lv_iconst (v := 1) hx hb d_M_letter_33 z_k1 ?_
          refine lv_icmp_ne (tgt := 46) hx hb d_M_letter_34 rfl (fun h34 => ?_) (fun h34 => ?_)
          ·
            refine lv_aload_n hx hb d_M_letter_46 rfl (lv_at hl 0 rfl) ?_
            refine gf_M_57_21 hF hG d_M_letter_47 ?_
            refine lv_iload_n hx hb d_M_letter_50 rfl (lv_at hl 1 rfl) ?_
            refine z_iald (n := 25) (j := x0.toNatClampNeg) (v := (S.1 37 0 x0.toNatClampNeg)) hF hG z_o37 (z_c37 C ad _ _ _) rfl (z_mle hom h5) rfl d_M_letter_51 ?_
            exact z_iret hF hr hlk hG (Eq.symm ((if_neg h5).trans ((if_neg h9).trans ((if_pos h14).trans ((if_neg h20).trans ((if_neg h34).trans rfl)))))) rfl d_M_letter_52
          ·
            refine lv_aload_n hx hb d_M_letter_37 rfl (lv_at hl 0 rfl) ?_
            refine gf_M_54_21 hF hG d_M_letter_38 ?_
            refine lv_iload_n hx hb d_M_letter_41 rfl (lv_at hl 1 rfl) ?_
            refine z_iald (n := 25) (j := x0.toNatClampNeg) (v := (S.1 36 0 x0.toNatClampNeg)) hF hG z_o36 (z_c36 C ad _ _ _) rfl (z_mle hom h5) rfl d_M_letter_42 ?_
            refine lv_goto (tgt := 52) hx hb d_M_letter_43 rfl ?_
            exact z_iret hF hr hlk hG (Eq.symm ((if_neg h5).trans ((if_neg h9).trans ((if_pos h14).trans ((if_neg h20).trans ((if_pos h34).trans rfl)))))) rfl d_M_letter_52
        ·
          refine lv_aload_n hx hb d_M_letter_23 rfl (lv_at hl 0 rfl) ?_
          refine gf_M_51_21 hF hG d_M_letter_24 ?_
          refine lv_iload_n hx hb d_M_letter_27 rfl (lv_at hl 1 rfl) ?_
          refine z_iald (n := 25) (j := x0.toNatClampNeg) (v := (S.1 35 0 x0.toNatClampNeg)) hF hG z_o35 (z_c35 C ad _ _ _) rfl (z_mle hom h5) rfl d_M_letter_28 ?_
          refine lv_goto (tgt := 52) hx hb d_M_letter_29 rfl ?_
          exact z_iret hF hr hlk hG (Eq.symm ((if_neg h5).trans ((if_neg h9).trans ((if_pos h14).trans ((if_pos h20).trans rfl))))) rfl d_M_letter_52
      ·
        refine lv_iconst (v := (-1)) hx hb d_M_letter_17 z_km1 ?_
        exact z_iret hF hr hlk hG (Eq.symm ((if_neg h5).trans ((if_neg h9).trans ((if_neg h14).trans rfl)))) rfl d_M_letter_18
