def R_law : String := "PolledHousesLaw"
def lw_P (b : Addr) (xs : List Int32) (args : Array Value) (s : State) : Prop := args = #[.ref b] ∧ s.IntsAt b xs ∧ xs.length ≤ 3072 ∧ (Jvm.Cond.and given_1 narrow_1).before args s = true
def lw_Q (_ : Array Value) (s : State) (o : Outcome) (t : State) : Prop := o = .returned (some (.int 1)) ∧ Framed s o t [] 600000 7302250
def lw_Z (below : List Frame) (a : Array Value) (s : State) : State → Prop := fun t => ∃ o, t.status = .running ∧ Ended t below o ∧ lw_Q a s o t
/-- the law's own end, with 1 on the stack, nothing written that was there before, its room as the claim has it -/
theorem lw_ret {p : Program} {l : Launch} {e : Env} {s : State} {m : MethodId} {below : List Frame} {meth : Method} {c : Code} {b : Nat} (hx : p.tables.exec = Jvm.exec) (hb : c.code = code) (hr : meth.sig.returnType = ret) (hlocks : meth.locks = false) {pc : Nat} {H : Heap} {ls : Array Slot} (hdg : decode code pc = .ok (.ireturn, 1)) : W p l e room_1 s m #[Value.ref b] below meth c H [] 600000 7302250 (lw_Z below #[Value.ref b] s) (F0 m pc ls [.int 1]) := by
  intro T hT X
  obtain ⟨fs, hret, hrun, hended, hW, hframe⟩ := X.leave (v := some (.int 1)) (hlocks := hlocks) (fun h => by rw [hr] at h; cases h)
  have hmeth' : T.vm.method? m = some meth := X.method'
  refine ⟨T.setFrames fs, ?_, .returned (some (.int 1)), hrun, hended, rfl, ⟨_, rfl⟩, hW, hframe⟩
  jvm_step X.here [X.here.top, hx, hb, hdg, hmeth', hr, ret, narrow_b1]
  (try refine ⟨rfl, ?_⟩); (try refine ⟨rfl, ?_⟩)
  first | (intro acts; rw [hret _ acts rfl rfl rfl]) | rw [hret _ _ rfl rfl rfl]
  exact Steps.refl _
/-- what holds at the law's entry: the machine, the code, the tables' words (any of lw_tbl by 'hts w (by decide +kernel)'), the script of L ints xs at the cell b, what the Statement gives of the start (any of its parts by flat_of_before) -/
def lw_At (p : Program) (s : State) (m : MethodId) (meth : Method) (c : Code) (b L : Nat) (xs : Nat → Int32) : Prop :=
  p.tables.exec = Jvm.exec ∧ c.code = code ∧ meth.sig.returnType = ret ∧ c.maxLocals = 4 ∧ s.vm.findClass R_law = some m.cls ∧ (∀ w ∈ lw_tbl, w.before #[Value.ref b] s = true) ∧ va_X b L xs s s.heap ∧ b < s.heap.size ∧ meth.locks = false ∧ (Jvm.Cond.and given_1 narrow_1).before #[Value.ref b] s = true
theorem z_lc {x y : Int64} (h : x = y) : lg_cmp x y = 0 := by subst h; simp [lg_cmp]
theorem z_6lt {L k : Nat} (hL : L ≤ 3072) (hk : k ≤ 3072) : nI L - 6 < nI k ↔ L < k + 6 := by
  rw [Int32.lt_iff_toInt_lt, show nI L - 6 = nI L - nI 6 from rfl, pk_sub_toInt (by omega) (by decide), nI_toInt (by omega)]
  omega
theorem z_tab0_20 {x : Int32} (h0 : ¬ x = 0) (h1 : ¬ x = 1) (h2 : ¬ x = 2) (h3 : ¬ x = 3) (h4 : ¬ x = 4) (h5 : ¬ x = 5) (h6 : ¬ x = 6) (h7 : ¬ x = 7) (h8 : ¬ x = 8) (h9 : ¬ x = 9) (h10 : ¬ x = 10) (h11 : ¬ x = 11) (h12 : ¬ x = 12) (h13 : ¬ x = 13) (h14 : ¬ x = 14) (h15 : ¬ x = 15) (h16 : ¬ x = 16) (h17 : ¬ x = 17) (h18 : ¬ x = 18) (h19 : ¬ x = 19) (h20 : ¬ x = 20) : x.toInt < 0 ∨ 20 < x.toInt := by
  have n0 := lv_neT h0 (a := 0) rfl
  have n1 := lv_neT h1 (a := 1) rfl
  have n2 := lv_neT h2 (a := 2) rfl
  have n3 := lv_neT h3 (a := 3) rfl
  have n4 := lv_neT h4 (a := 4) rfl
  have n5 := lv_neT h5 (a := 5) rfl
  have n6 := lv_neT h6 (a := 6) rfl
  have n7 := lv_neT h7 (a := 7) rfl
  have n8 := lv_neT h8 (a := 8) rfl
  have n9 := lv_neT h9 (a := 9) rfl
  have n10 := lv_neT h10 (a := 10) rfl
  have n11 := lv_neT h11 (a := 11) rfl
  have n12 := lv_neT h12 (a := 12) rfl
  have n13 := lv_neT h13 (a := 13) rfl
  have n14 := lv_neT h14 (a := 14) rfl
  have n15 := lv_neT h15 (a := 15) rfl
  have n16 := lv_neT h16 (a := 16) rfl
  have n17 := lv_neT h17 (a := 17) rfl
  have n18 := lv_neT h18 (a := 18) rfl
  have n19 := lv_neT h19 (a := 19) rfl
  have n20 := lv_neT h20 (a := 20) rfl
  omega
theorem Rl.up {n : Nat} {S : z_S} (h : Rl n S) (hn : n < 512) : Rl (n + 1) S := by
  obtain ⟨-, h1, h2, h3, h4, h5, ⟨c, hc, h6⟩, h7, h8, ⟨r, hr, h9⟩, h10⟩ := h
  exact ⟨by omega, h1, h2, h3, h4, h5, ⟨c, by omega, h6⟩, h7, h8, ⟨r, by omega, h9⟩, h10⟩
set_option maxHeartbeats 8000000 in
set_option maxRecDepth 100000 in
theorem z_lawloop {D : va_G} {C : Nat → ClassId} {ad : Nat → Nat → Nat} {p : Program} {e : Env} {s : State} {m : MethodId} {below : List Frame} {meth : Method} {c : Code} (l : Launch) {b L : Nat} {xs : Nat → Int32} (hL : L ≤ 3072) (hF : z_F D C ad p m c b_L_law 4 s #[Value.ref b] R_L) (hr : meth.sig.returnType = ret) (hlk : meth.locks = false) (hX : va_X b L xs s s.heap) (hbl : b < s.heap.size) (hbA : ¬ z_A ad b) (hA : ∀ q, z_A ad q → s.heap.size ≤ q) : ∀ (q n : Nat) (S : z_S) (H : Heap) (locs : List Loc) (ls : Array Slot), 6 * n + 6 * q ≤ L ∨ q = 0 ∧ 6 * n ≤ L → L < 6 * n + 6 * q + 6 → Rl n S → z_G D C ad s.heap S H locs → lv_has ls 4 [(0, .ref b), (1, .ref (ad 0 0)), (2, .ref (ad 21 0)), (3, .int (nI (6 * n)))] → W p l e rm_L_law s m #[Value.ref b] below meth c H locs 81 3500 (lw_Z below #[Value.ref b] s) (F0 m 18 ls []) := by
  obtain ⟨hx, hb, hml, hown, hts⟩ := hF.1
  intro q
  induction q with
  | zero =>
    intro n S H locs ls h1 h2 hR hG hl
    refine lv_iload_n hx hb d_L_law_18 rfl (lv_at hl 3 rfl) ?_
    refine lv_aload_n hx hb d_L_law_19 rfl (lv_at hl 0 rfl) ?_
    refine va_slen hx hb hX hbl hbA hG.2 d_L_law_20 ?_
    refine lv_bipush (v := 6) hx hb d_L_law_21 z_bi6 ?_
    refine lv_isub hx hb d_L_law_23 ?_
    refine lv_icmp_gt (tgt := 752) hx hb d_L_law_24 rfl (fun _ => ?_) (fun h => absurd ((z_6lt hL (by omega)).mpr (by omega)) h)
    refine lv_iconst (v := 1) hx hb d_L_law_752 z_k1 ?_
    refine va_forget (fun q hq => hA _ (hG.2.2.2 q hq)) ?_
    refine W.widen (k := 600000) (n := 7302250) (Nat.le_of_ble_eq_true rfl) (Nat.le_of_ble_eq_true rfl) ?_
    exact lw_ret hx hb hr hlk d_L_law_753
  | succ q ih =>
    intro n S H locs ls h1 h2 hR hG hl
    have back : ∀ (S : z_S) (H : Heap) (locs : List Loc) (ls : Array Slot), Rl (n + 1) S → z_G D C ad s.heap S H locs → lv_has ls 4 [(0, .ref b), (1, .ref (ad 0 0)), (2, .ref (ad 21 0)), (3, .int (nI (6 * n)))] → W p l e rm_L_law s m #[Value.ref b] below meth c H locs 81 3500 (lw_Z below #[Value.ref b] s) (F0 m 746 ls []) := by
      intro S H locs ls hR hG hl
      refine lv_iinc (k := 3) (v := (nI (6 * (n + 1)))) (lv' := [(3, .int (nI (6 * (n + 1)))), (0, .ref b), (1, .ref (ad 0 0)), (2, .ref (ad 21 0))]) hx hb d_L_law_746 hl rfl (nI_add (6 * n) 6) (Nat.le_of_ble_eq_true rfl) rfl (fun ls hl => ?_)
      refine lv_goto (tgt := 18) hx hb d_L_law_749 rfl ?_
      exact ih (n + 1) S H locs ls (by omega) (by omega) hR hG (lv_sub hl [1, 2, 3, 0] rfl)
    have hn : n < 512 := by omega
    have hk : 6 * n + 6 ≤ L := by omega
    refine lv_iload_n hx hb d_L_law_18 rfl (lv_at hl 3 rfl) ?_
    refine lv_aload_n hx hb d_L_law_19 rfl (lv_at hl 0 rfl) ?_
    refine va_slen hx hb hX hbl hbA hG.2 d_L_law_20 ?_
    refine lv_bipush (v := 6) hx hb d_L_law_21 z_bi6 ?_
    refine lv_isub hx hb d_L_law_23 ?_
    refine lv_icmp_gt (tgt := 752) hx hb d_L_law_24 rfl (fun h => absurd ((z_6lt hL (by omega)).mp h) (by omega)) (fun _ => ?_)
    refine lv_aload_n hx hb d_L_law_27 rfl (lv_at hl 0 rfl) ?_
    refine lv_iload_n hx hb d_L_law_28 rfl (lv_at hl 3 rfl) ?_
    refine z_sld (j := (6 * n)) hx hb hX hbl hbA hG (nI_clamp (by omega)) (vp_in_nI (by omega) (by omega)) d_L_law_29 ?_
    refine lv_bipush (v := 31) hx hb d_L_law_30 z_bi31 ?_
    refine lv_iand hx hb d_L_law_32 ?_
    generalize xs (6 * n) &&& 31 = y
    by_cases g0 : y = 0
    ·
      refine lv_tableIn (tgt := 132) (off := 99) hx hb d_L_law_33 (by rw [g0]; decide) (by rw [g0]; decide) (by rw [g0]; rfl) rfl ?_
      refine rg_L_law_132 hF hX hbl hbA hk hL (si_deposit hR hn _ _ _).1 hG hl (fun H locs ls S1 hG hl e_S1 => ?_)
      subst e_S1
      exact back _ H locs ls (si_deposit hR hn _ _ _).2 hG hl
    by_cases g1 : y = 1
    ·
      refine lv_tableIn (tgt := 175) (off := 142) hx hb d_L_law_33 (by rw [g1]; decide) (by rw [g1]; decide) (by rw [g1]; rfl) rfl ?_
      refine rg_L_law_175 hF hX hbl hbA hk hL (si_blocks hR hn _).1 hG hl (fun H locs ls  hG hl  => ?_)
      exact back _ H locs ls (Rl.up hR hn) hG hl
    by_cases g2 : y = 2
    ·
      refine lv_tableIn (tgt := 198) (off := 165) hx hb d_L_law_33 (by rw [g2]; decide) (by rw [g2]; decide) (by rw [g2]; rfl) rfl ?_
      refine rg_L_law_198 hF hX hbl hbA hk hL hR.2.ok hR.2.om (si_at hR hn _ _ _).1 hG hl (fun H locs ls  hG hl  => ?_)
      exact back _ H locs ls (Rl.up hR hn) hG hl
    by_cases g3 : y = 3
    ·
      refine lv_tableIn (tgt := 241) (off := 208) hx hb d_L_law_33 (by rw [g3]; decide) (by rw [g3]; decide) (by rw [g3]; rfl) rfl ?_
      refine rg_L_law_241 hF hX hbl hbA hk hL hR.2.ok (so_damage hR _ _ _ _) (si_damage hR hn _ _ _ _).1 hG hl (fun H locs ls S1 hG hl e_S1 => ?_)
      subst e_S1
      exact back _ H locs ls (si_damage hR hn _ _ _ _).2 hG hl
    by_cases g4 : y = 4
    ·
      refine lv_tableIn (tgt := 294) (off := 261) hx hb d_L_law_33 (by rw [g4]; decide) (by rw [g4]; decide) (by rw [g4]; rfl) rfl ?_
      refine rg_L_law_294 hF hX hbl hbA hk hL hR.2.ok (z_lc (si_sum hR hn _ _ _ _).1) hG hl (fun H locs ls  hG hl  => ?_)
      exact back _ H locs ls (Rl.up hR hn) hG hl
    by_cases g5 : y = 5
    ·
      refine lv_tableIn (tgt := 378) (off := 345) hx hb d_L_law_33 (by rw [g5]; decide) (by rw [g5]; decide) (by rw [g5]; rfl) rfl ?_
      refine rg_L_law_378 hF hX hbl hbA hk hL hR.2.ok (so_poll hR _ _ _) (si_poll hR hn _ _ _).1 hG hl (fun H locs ls S1 hG hl e_S1 => ?_)
      subst e_S1
      exact back _ H locs ls (si_poll hR hn _ _ _).2 hG hl
    by_cases g6 : y = 6
    ·
      refine lv_tableIn (tgt := 451) (off := 418) hx hb d_L_law_33 (by rw [g6]; decide) (by rw [g6]; decide) (by rw [g6]; rfl) rfl ?_
      refine rg_L_law_451 hF hX hbl hbA hk hL hR.2.ok (so_again hR _) (si_again hR hn _).1 hG hl (fun H locs ls S1 hG hl e_S1 => ?_)
      subst e_S1
      exact back _ H locs ls (si_again hR hn _).2 hG hl
    by_cases g7 : y = 7
    ·
      refine lv_tableIn (tgt := 474) (off := 441) hx hb d_L_law_33 (by rw [g7]; decide) (by rw [g7]; decide) (by rw [g7]; rfl) rfl ?_
      refine rg_L_law_474 hF hX hbl hbA hk hL hR.2.ok (so_step hR ) (si_step hR hn ).1 hG hl (fun H locs ls S1 hG hl e_S1 => ?_)
      subst e_S1
      exact back _ H locs ls (si_step hR hn ).2 hG hl
    by_cases g8 : y = 8
    ·
      refine lv_tableIn (tgt := 487) (off := 454) hx hb d_L_law_33 (by rw [g8]; decide) (by rw [g8]; decide) (by rw [g8]; rfl) rfl ?_
      refine rg_L_law_487 hF hX hbl hbA hk hL hR.2.ok (so_lose hR _) (si_lose hR hn _).1 hG hl (fun H locs ls S1 hG hl e_S1 => ?_)
      subst e_S1
      exact back _ H locs ls (si_lose hR hn _).2 hG hl
    by_cases g9 : y = 9
    ·
      refine lv_tableIn (tgt := 510) (off := 477) hx hb d_L_law_33 (by rw [g9]; decide) (by rw [g9]; decide) (by rw [g9]; rfl) rfl ?_
      refine rg_L_law_510 hF hX hbl hbA hk hL hR.2.ok (so_twice hR _) (si_twice hR hn _).1 hG hl (fun H locs ls S1 hG hl e_S1 => ?_)
      subst e_S1
      exact back _ H locs ls (si_twice hR hn _).2 hG hl
    by_cases g10 : y = 10
    ·
      refine lv_tableIn (tgt := 533) (off := 500) hx hb d_L_law_33 (by rw [g10]; decide) (by rw [g10]; decide) (by rw [g10]; rfl) rfl ?_
      refine rg_L_law_533 hF hX hbl hbA hk hL (si_letters hR hn ).1 hG hl (fun H locs ls  hG hl  => ?_)
      exact back _ H locs ls (Rl.up hR hn) hG hl
    by_cases g11 : y = 11
    ·
      refine lv_tableIn (tgt := 546) (off := 513) hx hb d_L_law_33 (by rw [g11]; decide) (by rw [g11]; decide) (by rw [g11]; rfl) rfl ?_
      refine rg_L_law_546 hF hX hbl hbA hk hL hR.2.ok hR.2.om (si_letter hR hn _ _).1 hG hl (fun H locs ls  hG hl  => ?_)
      exact back _ H locs ls (Rl.up hR hn) hG hl
    by_cases g12 : y = 12
    ·
      refine lv_tableIn (tgt := 579) (off := 546) hx hb d_L_law_33 (by rw [g12]; decide) (by rw [g12]; decide) (by rw [g12]; rfl) rfl ?_
      refine rg_L_law_579 hF hX hbl hbA hk hL hR.2.ok (so_giveUp hR _) (si_giveUp hR hn _).1 hG hl (fun H locs ls S1 hG hl e_S1 => ?_)
      subst e_S1
      exact back _ H locs ls (si_giveUp hR hn _).2 hG hl
    by_cases g13 : y = 13
    ·
      refine lv_tableIn (tgt := 602) (off := 569) hx hb d_L_law_33 (by rw [g13]; decide) (by rw [g13]; decide) (by rw [g13]; rfl) rfl ?_
      refine rg_L_law_602 hF hX hbl hbA hk hL hR.2.ok hR.2.om (si_result hR hn _).1 hG hl (fun H locs ls  hG hl  => ?_)
      exact back _ H locs ls (Rl.up hR hn) hG hl
    by_cases g14 : y = 14
    ·
      refine lv_tableIn (tgt := 625) (off := 592) hx hb d_L_law_33 (by rw [g14]; decide) (by rw [g14]; decide) (by rw [g14]; rfl) rfl ?_
      refine rg_L_law_625 hF hX hbl hbA hk hL (si_close hR hn _).1 hG hl (fun H locs ls S1 hG hl e_S1 => ?_)
      subst e_S1
      exact back _ H locs ls (si_close hR hn _).2 hG hl
    by_cases g15 : y = 15
    ·
      refine lv_tableIn (tgt := 648) (off := 615) hx hb d_L_law_33 (by rw [g15]; decide) (by rw [g15]; decide) (by rw [g15]; rfl) rfl ?_
      refine rg_L_law_648 hF hX hbl hbA hk hL (si_open hR hn _).1 hG hl (fun H locs ls S1 hG hl e_S1 => ?_)
      subst e_S1
      exact back _ H locs ls (si_open hR hn _).2 hG hl
    by_cases g16 : y = 16
    ·
      refine lv_tableIn (tgt := 671) (off := 638) hx hb d_L_law_33 (by rw [g16]; decide) (by rw [g16]; decide) (by rw [g16]; rfl) rfl ?_
      refine rg_L_law_671 hF hX hbl hbA hk hL (si_round hR hn ).1 hG hl (fun H locs ls  hG hl  => ?_)
      exact back _ H locs ls (Rl.up hR hn) hG hl
    by_cases g17 : y = 17
    ·
      refine lv_tableIn (tgt := 684) (off := 651) hx hb d_L_law_33 (by rw [g17]; decide) (by rw [g17]; decide) (by rw [g17]; rfl) rfl ?_
      refine rg_L_law_684 hF hX hbl hbA hk hL (si_done hR hn ).1 hG hl (fun H locs ls  hG hl  => ?_)
      exact back _ H locs ls (Rl.up hR hn) hG hl
    by_cases g18 : y = 18
    ·
      refine lv_tableIn (tgt := 697) (off := 664) hx hb d_L_law_33 (by rw [g18]; decide) (by rw [g18]; decide) (by rw [g18]; rfl) rfl ?_
      refine rg_L_law_697 hF hX hbl hbA hk hL (si_parts hR hn ).1 hG hl (fun H locs ls  hG hl  => ?_)
      exact back _ H locs ls (Rl.up hR hn) hG hl
    by_cases g19 : y = 19
    ·
      refine lv_tableIn (tgt := 710) (off := 677) hx hb d_L_law_33 (by rw [g19]; decide) (by rw [g19]; decide) (by rw [g19]; rfl) rfl ?_
      refine rg_L_law_710 hF hX hbl hbA hk hL (si_mends hR hn _).1 hG hl (fun H locs ls  hG hl  => ?_)
      exact back _ H locs ls (Rl.up hR hn) hG hl
    by_cases g20 : y = 20
    ·
      refine lv_tableIn (tgt := 733) (off := 700) hx hb d_L_law_33 (by rw [g20]; decide) (by rw [g20]; decide) (by rw [g20]; rfl) rfl ?_
      refine rg_L_law_733 hF hX hbl hbA hk hL (si_disputes hR hn ).1 hG hl (fun H locs ls  hG hl  => ?_)
      exact back _ H locs ls (Rl.up hR hn) hG hl
    refine lv_tableOut (tgt := 746) hx hb d_L_law_33 (z_tab0_20 g0 g1 g2 g3 g4 g5 g6 g7 g8 g9 g10 g11 g12 g13 g14 g15 g16 g17 g18 g19 g20) rfl ?_
    exact back S H locs ls (Rl.up hR hn) hG hl
