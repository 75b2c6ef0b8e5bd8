abbrev rm_X_isHouse : Room := { frames := 0, cells := 0, slots := 0, locals := 0 }
abbrev rm_X_isDeposit : Room := { frames := 0, cells := 0, slots := 0, locals := 0 }
abbrev rm_X_isPart : Room := { frames := 0, cells := 0, slots := 0, locals := 0 }
abbrev rm_X_isByte : Room := { frames := 1, cells := 0, slots := 0, locals := 20 }
abbrev rm_X_isPoll : Room := { frames := 0, cells := 0, slots := 0, locals := 0 }
abbrev rm_X_allHousesOpen : Room := { frames := 0, cells := 0, slots := 0, locals := 0 }
abbrev rm_X_freePlace : Room := { frames := 0, cells := 0, slots := 0, locals := 0 }
abbrev rm_X_runningPoll : Room := { frames := 1, cells := 0, slots := 0, locals := 21 }
abbrev rm_X_parts : Room := { frames := 1, cells := 0, slots := 0, locals := 21 }
theorem z_bi6 : (Int8.ofInt (6)).toInt32 = 6 := by decide
theorem dp_X_isDeposit : y_X_isDeposit.cls ≠ "java/lang/invoke/MethodHandle" ∧ y_X_isDeposit.cls ≠ "java/lang/invoke/VarHandle" ∧ (parseMethodDescriptor y_X_isDeposit.desc).map (fun d => d.parameters.length) = some 1 := by decide +kernel
theorem z_o0 : 0 < z_n 0 := by decide
theorem z_o2 : 0 < z_n 2 := by decide
theorem z_o1 : 0 < z_n 1 := by decide
theorem z_o12_0 : 0 < z_n 12 := by decide
theorem z_o12_1 : 1 < z_n 12 := by decide
theorem z_o12_2 : 2 < z_n 12 := by decide
theorem z_in0_6 : vp_in (0 : Int32) 6 := by unfold vp_in; decide
theorem z_o8 : 0 < z_n 8 := by decide
theorem z_o14_0 : 0 < z_n 14 := by decide
theorem z_in1_6 : vp_in (1 : Int32) 6 := by unfold vp_in; decide
theorem z_o14_1 : 1 < z_n 14 := by decide
theorem z_in2_6 : vp_in (2 : Int32) 6 := by unfold vp_in; decide
theorem z_o14_2 : 2 < z_n 14 := by decide
theorem z_q3 : (3 : Int32).toNatClampNeg = 3 := by decide
theorem z_in3_6 : vp_in (3 : Int32) 6 := by unfold vp_in; decide
theorem z_o14_3 : 3 < z_n 14 := by decide
theorem z_q4 : (4 : Int32).toNatClampNeg = 4 := by decide
theorem z_in4_6 : vp_in (4 : Int32) 6 := by unfold vp_in; decide
theorem z_o14_4 : 4 < z_n 14 := by decide
theorem z_q5 : (5 : Int32).toNatClampNeg = 5 := by decide
theorem z_in5_6 : vp_in (5 : Int32) 6 := by unfold vp_in; decide
theorem z_o14_5 : 5 < z_n 14 := by decide
theorem dp_X_isPoll : y_X_isPoll.cls ≠ "java/lang/invoke/MethodHandle" ∧ y_X_isPoll.cls ≠ "java/lang/invoke/VarHandle" ∧ (parseMethodDescriptor y_X_isPoll.desc).map (fun d => d.parameters.length) = some 1 := by decide +kernel
section ZI_xlow
variable {D : va_G} {C : Nat → ClassId} {ad : Nat → Nat → Nat} {S : z_S}
variable {p : Program} {l : Launch} {e : Env} {R : Room} {s : State} {m : MethodId} {args : Array Value} {below : List Frame} {meth : Method} {c : Code} {H H0 : Heap} {locs : List Loc} {cells slots : Nat} {Q : State → Prop}
variable {cc : ByteArray} {nL pc : Nat} {ls : Array Slot} {rest : List Value}
theorem kc_X_51 {x0 : Int32} {r : Int32} {S2 : z_S} (hF : z_F D C ad p m c cc nL s args R_X) (hM : z_M l y_X_isDeposit b_X_isDeposit 1 (some .boolean) rm_X_isDeposit D C ad [.int x0] S (z_Qi D C ad r S2)) (hG : z_G D C ad H0 S H locs) (hR : rm_X_isDeposit.frames + 1 ≤ R.frames ∧ 8 + (1 + 11) + rm_X_isDeposit.locals ≤ R.locals) (hcs : cells ≤ R.cells ∧ slots ≤ R.slots) (hsz : ls.size = nL) (hcat : (rest.map fun v => v.category).sum ≤ 8) (hdg : decode cc pc = .ok (.invokestatic 51, 3)) (kk : ∀ (H1 : Heap) (locs1 : List Loc), z_G D C ad H0 S2 H1 locs1 → W p l e R s m args below meth c H1 locs1 cells slots Q (F0 m (pc + 3) ls (.int r :: rest))) : W p l e R s m args below meth c H locs cells slots Q (F0 m pc ls (.int x0 :: rest)) :=
  z_ci (z_runS (As := [.int x0]) hF hM hG wm_X_51 wi_X_isDeposit wn_X wc_X_isDeposit dp_X_isDeposit rfl rfl hR hcs hsz hcat rfl hdg) hG kk
theorem gf_X_15_0 (hF : z_F D C ad p m c cc nL s args R_X) (hG : z_G D C ad H0 S H locs) (hdg : decode cc pc = .ok (.getfield 15, 3)) (kk : W p l e R s m args below meth c H locs cells slots Q (F0 m (pc + 3) ls (.ref (ad 2 0) :: rest))) : W p l e R s m args below meth c H locs cells slots Q (F0 m pc ls (.ref (ad 0 0) :: rest)) :=
  z_get hF hG z_o0 (z_c0 C ad _ _ 0) rfl wl_X 1 (by decide) wf_X_15 rfl rfl hdg kk
theorem gf_X_42_0 (hF : z_F D C ad p m c cc nL s args R_X) (hG : z_G D C ad H0 S H locs) {v : Int32} (hv : S.1 0 0 6 = v) (hdg : decode cc pc = .ok (.getfield 42, 3)) (kk : W p l e R s m args below meth c H locs cells slots Q (F0 m (pc + 3) ls (.int v :: rest))) : W p l e R s m args below meth c H locs cells slots Q (F0 m pc ls (.ref (ad 0 0) :: rest)) :=
  z_get hF hG z_o0 (z_c0 C ad _ _ 0) rfl wl_X 6 (by decide) wf_X_42 rfl (by subst hv; rfl) hdg kk
theorem gf_X_11_0 (hF : z_F D C ad p m c cc nL s args R_X) (hG : z_G D C ad H0 S H locs) (hdg : decode cc pc = .ok (.getfield 11, 3)) (kk : W p l e R s m args below meth c H locs cells slots Q (F0 m (pc + 3) ls (.ref (ad 1 0) :: rest))) : W p l e R s m args below meth c H locs cells slots Q (F0 m pc ls (.ref (ad 0 0) :: rest)) :=
  z_get hF hG z_o0 (z_c0 C ad _ _ 0) rfl wl_X 0 (by decide) wf_X_11 rfl rfl hdg kk
theorem gf_X_140_12 {o : Nat} (hF : z_F D C ad p m c cc nL s args R_X) (hG : z_G D C ad H0 S H locs) (ho : o < z_n 12) {v : Int32} (hv : S.1 12 o 0 = v) (hdg : decode cc pc = .ok (.getfield 140, 3)) (kk : W p l e R s m args below meth c H locs cells slots Q (F0 m (pc + 3) ls (.int v :: rest))) : W p l e R s m args below meth c H locs cells slots Q (F0 m pc ls (.ref (ad 12 o) :: rest)) :=
  z_get hF hG ho (z_c12 C ad _ _ o) rfl wl_H 0 (by decide) wf_X_140 rfl (by subst hv; rfl) hdg kk
theorem gf_X_28_0 (hF : z_F D C ad p m c cc nL s args R_X) (hG : z_G D C ad H0 S H locs) (hdg : decode cc pc = .ok (.getfield 28, 3)) (kk : W p l e R s m args below meth c H locs cells slots Q (F0 m (pc + 3) ls (.ref (ad 8 0) :: rest))) : W p l e R s m args below meth c H locs cells slots Q (F0 m pc ls (.ref (ad 0 0) :: rest)) :=
  z_get hF hG z_o0 (z_c0 C ad _ _ 0) rfl wl_X 3 (by decide) wf_X_28 rfl rfl hdg kk
theorem gf_X_155_14 {o : Nat} (hF : z_F D C ad p m c cc nL s args R_X) (hG : z_G D C ad H0 S H locs) (ho : o < z_n 14) {v : Int32} (hv : S.1 14 o 0 = v) (hdg : decode cc pc = .ok (.getfield 155, 3)) (kk : W p l e R s m args below meth c H locs cells slots Q (F0 m (pc + 3) ls (.int v :: rest))) : W p l e R s m args below meth c H locs cells slots Q (F0 m pc ls (.ref (ad 14 o) :: rest)) :=
  z_get hF hG ho (z_c14 C ad _ _ o) rfl wl_P 0 (by decide) wf_X_155 rfl (by subst hv; rfl) hdg kk
theorem kc_X_99 {x0 : Int32} {r : Int32} {S2 : z_S} (hF : z_F D C ad p m c cc nL s args R_X) (hM : z_M l y_X_isPoll b_X_isPoll 2 (some .boolean) rm_X_isPoll D C ad [.ref (ad 0 0), .int x0] S (z_Qi D C ad r S2)) (hG : z_G D C ad H0 S H locs) (hR : rm_X_isPoll.frames + 1 ≤ R.frames ∧ 8 + (2 + 11) + rm_X_isPoll.locals ≤ R.locals) (hcs : cells ≤ R.cells ∧ slots ≤ R.slots) (hsz : ls.size = nL) (hcat : (rest.map fun v => v.category).sum ≤ 8) (hdg : decode cc pc = .ok (.invokevirtual 99, 3)) (kk : ∀ (H1 : Heap) (locs1 : List Loc), z_G D C ad H0 S2 H1 locs1 → W p l e R s m args below meth c H1 locs1 cells slots Q (F0 m (pc + 3) ls (.int r :: rest))) : W p l e R s m args below meth c H locs cells slots Q (F0 m pc ls (.int x0 :: .ref (ad 0 0) :: rest)) :=
  z_ci (z_runV (As := [.int x0]) hF hM hG z_o0 (z_c0 C ad _ _ 0) rfl wm_X_99 wi_X_isPoll ws_X_isPoll wn_X wc_X_isPoll dp_X_isPoll rfl rfl hR hcs hsz hcat rfl hdg) hG kk
end ZI_xlow
