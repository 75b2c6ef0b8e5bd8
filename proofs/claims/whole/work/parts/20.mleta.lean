abbrev rm_M_deposit : Room := { frames := 0, cells := 0, slots := 0, locals := 0 }
abbrev rm_M_come : Room := { frames := 0, cells := 0, slots := 0, locals := 0 }
abbrev rm_M_isLetter : Room := { frames := 0, cells := 0, slots := 0, locals := 0 }
abbrev rm_M_copyLetter : Room := { frames := 0, cells := 0, slots := 0, locals := 0 }
abbrev rm_M_leave : Room := { frames := 1, cells := 0, slots := 0, locals := 23 }
abbrev rm_M_lose : Room := { frames := 2, cells := 0, slots := 0, locals := 45 }
abbrev rm_M_twice : Room := { frames := 1, cells := 0, slots := 0, locals := 23 }
abbrev rm_M_letters : Room := { frames := 0, cells := 0, slots := 0, locals := 0 }
abbrev rm_M_letter : Room := { frames := 1, cells := 0, slots := 0, locals := 21 }
theorem z_k5 : Int32.ofInt (5) = 5 := by decide
theorem z_o24 : 0 < z_n 24 := by decide
theorem z_o35 : 0 < z_n 35 := by decide
theorem z_o36 : 0 < z_n 36 := by decide
theorem z_o37 : 0 < z_n 37 := by decide
theorem z_o38 : 0 < z_n 38 := by decide
theorem z_o39 : 0 < z_n 39 := by decide
theorem z_in24_25 : vp_in (24 : Int32) 25 := by unfold vp_in; decide
theorem dp_M_copyLetter : y_M_copyLetter.cls ≠ "java/lang/invoke/MethodHandle" ∧ y_M_copyLetter.cls ≠ "java/lang/invoke/VarHandle" ∧ (parseMethodDescriptor y_M_copyLetter.desc).map (fun d => d.parameters.length) = some 2 := by decide +kernel
theorem dp_M_isLetter : y_M_isLetter.cls ≠ "java/lang/invoke/MethodHandle" ∧ y_M_isLetter.cls ≠ "java/lang/invoke/VarHandle" ∧ (parseMethodDescriptor y_M_isLetter.desc).map (fun d => d.parameters.length) = some 1 := by decide +kernel
theorem dp_M_leave : y_M_leave.cls ≠ "java/lang/invoke/MethodHandle" ∧ y_M_leave.cls ≠ "java/lang/invoke/VarHandle" ∧ (parseMethodDescriptor y_M_leave.desc).map (fun d => d.parameters.length) = some 1 := by decide +kernel
section ZI_mlet
variable {D : va_G} {C : Nat → ClassId} {ad : Nat → Nat → Nat} {S : z_S}
variable {p : Program} {l : Launch} {e : Env} {R : Room} {s : State} {m : MethodId} {args : Array Value} {below : List Frame} {meth : Method} {c : Code} {H H0 : Heap} {locs : List Loc} {cells slots : Nat} {Q : State → Prop}
variable {cc : ByteArray} {nL pc : Nat} {ls : Array Slot} {rest : List Value}
theorem gf_M_16_21 (hF : z_F D C ad p m c cc nL s args R_M) (hG : z_G D C ad H0 S H locs) (hdg : decode cc pc = .ok (.getfield 16, 3)) (kk : W p l e R s m args below meth c H locs cells slots Q (F0 m (pc + 3) ls (.ref (ad 24 0) :: rest))) : W p l e R s m args below meth c H locs cells slots Q (F0 m pc ls (.ref (ad 21 0) :: rest)) :=
  z_get hF hG z_o21 (z_c21 C ad _ _ 0) rfl wl_M 2 (by decide) wf_M_16 rfl rfl hdg kk
theorem gf_M_98_21 (hF : z_F D C ad p m c cc nL s args R_M) (hG : z_G D C ad H0 S H locs) {v : Int32} (hv : S.1 21 0 14 = v) (hdg : decode cc pc = .ok (.getfield 98, 3)) (kk : W p l e R s m args below meth c H locs cells slots Q (F0 m (pc + 3) ls (.int v :: rest))) : W p l e R s m args below meth c H locs cells slots Q (F0 m pc ls (.ref (ad 21 0) :: rest)) :=
  z_get hF hG z_o21 (z_c21 C ad _ _ 0) rfl wl_M 14 (by decide) wf_M_98 rfl (by subst hv; rfl) hdg kk
theorem gf_M_51_21 (hF : z_F D C ad p m c cc nL s args R_M) (hG : z_G D C ad H0 S H locs) (hdg : decode cc pc = .ok (.getfield 51, 3)) (kk : W p l e R s m args below meth c H locs cells slots Q (F0 m (pc + 3) ls (.ref (ad 35 0) :: rest))) : W p l e R s m args below meth c H locs cells slots Q (F0 m pc ls (.ref (ad 21 0) :: rest)) :=
  z_get hF hG z_o21 (z_c21 C ad _ _ 0) rfl wl_M 15 (by decide) wf_M_51 rfl rfl hdg kk
theorem gf_M_54_21 (hF : z_F D C ad p m c cc nL s args R_M) (hG : z_G D C ad H0 S H locs) (hdg : decode cc pc = .ok (.getfield 54, 3)) (kk : W p l e R s m args below meth c H locs cells slots Q (F0 m (pc + 3) ls (.ref (ad 36 0) :: rest))) : W p l e R s m args below meth c H locs cells slots Q (F0 m pc ls (.ref (ad 21 0) :: rest)) :=
  z_get hF hG z_o21 (z_c21 C ad _ _ 0) rfl wl_M 16 (by decide) wf_M_54 rfl rfl hdg kk
theorem gf_M_57_21 (hF : z_F D C ad p m c cc nL s args R_M) (hG : z_G D C ad H0 S H locs) (hdg : decode cc pc = .ok (.getfield 57, 3)) (kk : W p l e R s m args below meth c H locs cells slots Q (F0 m (pc + 3) ls (.ref (ad 37 0) :: rest))) : W p l e R s m args below meth c H locs cells slots Q (F0 m pc ls (.ref (ad 21 0) :: rest)) :=
  z_get hF hG z_o21 (z_c21 C ad _ _ 0) rfl wl_M 17 (by decide) wf_M_57 rfl rfl hdg kk
theorem pf_M_98_21 {v : Int32} (hF : z_F D C ad p m c cc nL s args R_M) (hG : z_G D C ad H0 S H locs) (hdg : decode cc pc = .ok (.putfield 98, 3)) (kk : ∀ (H1 : Heap) (locs1 : List Loc), z_G D C ad H0 (z_sI S 21 0 14 v) H1 locs1 → W p l e R s m args below meth c H1 locs1 cells slots Q (F0 m (pc + 3) ls rest)) : W p l e R s m args below meth c H locs cells slots Q (F0 m pc ls (.int v :: .ref (ad 21 0) :: rest)) :=
  z_put (S' := z_sI S 21 0 14 v) hF hG z_o21 (z_c21 C ad _ _ 0) rfl wl_M t_M t_M_ok n_M 14 (by decide) wf_M_98 rfl rfl (ty := .int) (by decide +kernel) rfl rfl (Nat.le_of_ble_eq_true rfl) (fun a2 o2 hne => ⟨z_sI_ne S 21 0 14 v hne, rfl⟩) (by rw [z_sI_at]; rfl) hdg kk
theorem gf_M_60_21 (hF : z_F D C ad p m c cc nL s args R_M) (hG : z_G D C ad H0 S H locs) (hdg : decode cc pc = .ok (.getfield 60, 3)) (kk : W p l e R s m args below meth c H locs cells slots Q (F0 m (pc + 3) ls (.ref (ad 38 0) :: rest))) : W p l e R s m args below meth c H locs cells slots Q (F0 m pc ls (.ref (ad 21 0) :: rest)) :=
  z_get hF hG z_o21 (z_c21 C ad _ _ 0) rfl wl_M 18 (by decide) wf_M_60 rfl rfl hdg kk
theorem gf_M_63_21 (hF : z_F D C ad p m c cc nL s args R_M) (hG : z_G D C ad H0 S H locs) (hdg : decode cc pc = .ok (.getfield 63, 3)) (kk : W p l e R s m args below meth c H locs cells slots Q (F0 m (pc + 3) ls (.ref (ad 39 0) :: rest))) : W p l e R s m args below meth c H locs cells slots Q (F0 m pc ls (.ref (ad 21 0) :: rest)) :=
  z_get hF hG z_o21 (z_c21 C ad _ _ 0) rfl wl_M 19 (by decide) wf_M_63 rfl rfl hdg kk
theorem kc_M_101 {x0 : Int32} {x1 : Int32} {S2 : z_S} (hF : z_F D C ad p m c cc nL s args R_M) (hM : z_M l y_M_copyLetter b_M_copyLetter 4 none rm_M_copyLetter D C ad [.ref (ad 21 0), .int x0, .int x1] S (z_Qv D C ad S2)) (hG : z_G D C ad H0 S H locs) (hR : rm_M_copyLetter.frames + 1 ≤ R.frames ∧ 8 + (4 + 11) + rm_M_copyLetter.locals ≤ R.locals) (hcs : cells ≤ R.cells ∧ slots ≤ R.slots) (hsz : ls.size = nL) (hcat : (rest.map fun v => v.category).sum ≤ 8) (hdg : decode cc pc = .ok (.invokevirtual 101, 3)) (kk : ∀ (H1 : Heap) (locs1 : List Loc), z_G D C ad H0 S2 H1 locs1 → W p l e R s m args below meth c H1 locs1 cells slots Q (F0 m (pc + 3) ls rest)) : W p l e R s m args below meth c H locs cells slots Q (F0 m pc ls (.int x1 :: .int x0 :: .ref (ad 21 0) :: rest)) :=
  z_cv (z_runV (As := [.int x0, .int x1]) hF hM hG z_o21 (z_c21 C ad _ _ 0) rfl wm_M_101 wi_M_copyLetter ws_M_copyLetter wn_M wc_M_copyLetter dp_M_copyLetter rfl rfl hR hcs hsz hcat rfl hdg) hG kk
theorem kc_M_105 {x0 : Int32} {r : Int32} {S2 : z_S} (hF : z_F D C ad p m c cc nL s args R_M) (hM : z_M l y_M_isLetter b_M_isLetter 2 (some .boolean) rm_M_isLetter D C ad [.ref (ad 21 0), .int x0] S (z_Qi D C ad r S2)) (hG : z_G D C ad H0 S H locs) (hR : rm_M_isLetter.frames + 1 ≤ R.frames ∧ 8 + (2 + 11) + rm_M_isLetter.locals ≤ R.locals) (hcs : cells ≤ R.cells ∧ slots ≤ R.slots) (hsz : ls.size = nL) (hcat : (rest.map fun v => v.category).sum ≤ 8) (hdg : decode cc pc = .ok (.invokevirtual 105, 3)) (kk : ∀ (H1 : Heap) (locs1 : List Loc), z_G D C ad H0 S2 H1 locs1 → W p l e R s m args below meth c H1 locs1 cells slots Q (F0 m (pc + 3) ls (.int r :: rest))) : W p l e R s m args below meth c H locs cells slots Q (F0 m pc ls (.int x0 :: .ref (ad 21 0) :: rest)) :=
  z_ci (z_runV (As := [.int x0]) hF hM hG z_o21 (z_c21 C ad _ _ 0) rfl wm_M_105 wi_M_isLetter ws_M_isLetter wn_M wc_M_isLetter dp_M_isLetter rfl rfl hR hcs hsz hcat rfl hdg) hG kk
theorem kc_M_108 {x0 : Int32} {S2 : z_S} (hF : z_F D C ad p m c cc nL s args R_M) (hM : z_M l y_M_leave b_M_leave 3 none rm_M_leave D C ad [.ref (ad 21 0), .int x0] S (z_Qv D C ad S2)) (hG : z_G D C ad H0 S H locs) (hR : rm_M_leave.frames + 1 ≤ R.frames ∧ 8 + (3 + 11) + rm_M_leave.locals ≤ R.locals) (hcs : cells ≤ R.cells ∧ slots ≤ R.slots) (hsz : ls.size = nL) (hcat : (rest.map fun v => v.category).sum ≤ 8) (hdg : decode cc pc = .ok (.invokevirtual 108, 3)) (kk : ∀ (H1 : Heap) (locs1 : List Loc), z_G D C ad H0 S2 H1 locs1 → W p l e R s m args below meth c H1 locs1 cells slots Q (F0 m (pc + 3) ls rest)) : W p l e R s m args below meth c H locs cells slots Q (F0 m pc ls (.int x0 :: .ref (ad 21 0) :: rest)) :=
  z_cv (z_runV (As := [.int x0]) hF hM hG z_o21 (z_c21 C ad _ _ 0) rfl wm_M_108 wi_M_leave ws_M_leave wn_M wc_M_leave dp_M_leave rfl rfl hR hcs hsz hcat rfl hdg) hG kk
end ZI_mlet
