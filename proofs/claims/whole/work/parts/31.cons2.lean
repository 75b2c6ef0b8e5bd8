def z_PreB (D : va_G) (C : Nat → ClassId) (a0 : Nat) (L : List va_E) (N : State → Prop) (U : State) : Prop := z_B D a0 L U.heap ∧ va_K D z_cl (z_tys C) U ∧ N U
abbrev z_QB (D : va_G) (a0 : Nat) (L2 : List va_E) : Array Value → State → Outcome → State → Prop := va_Qv (fun u : List va_E => u = L2) (fun u t => z_B D a0 u t.heap) (fun q => a0 ≤ q)
abbrev z_MB (l : Launch) (y : MethodName) (b : ByteArray) (n : Nat) (rm : Room) (D : va_G) (C : Nat → ClassId) (a0 : Nat) (L : List va_E) (N : State → Prop) (L2 : List va_E) (mc ms : Nat) : Prop := Met l y (z_ws y b n none) rm (va_Pc [.ref a0] (z_PreB D C a0 L N)) (z_QB D a0 L2) mc ms (fun q => a0 ≤ q)
/-- facts of the tables that a constructor's callees need and that z_T can't carry -/
def z_Nk (N : State → Prop) : Prop := (∀ (U : State) (g : JFrame) (mk : MethodId) (a : Array Value), N U → N (U.calling g mk a)) ∧ ∀ s U : State, s.WarmedH U.vm → N s → N U
def z_N0 (_ : State) : Prop := True
theorem z_N0k : z_Nk z_N0 := ⟨fun _ _ _ _ h => h, fun _ _ _ h => h⟩
def z_N1 (U : State) : Prop := va_Nw (.methodLinkNest R_P 30 y_A_init R_X) U
theorem z_N1k : z_Nk z_N1 := ⟨fun U g mk a h => va_Nw.same rfl rfl h, fun s U hW h => va_Nw.warmM hW h⟩
def z_NX (U : State) : Prop := va_Nw (.methodLinkNest R_X 21 y_R_init R_X) U ∧ va_Nw (.methodLinkNest R_X 37 y_D_init R_X) U ∧ va_Nw (.methodLinkNest R_X 49 y_H_init R_X) U ∧ va_Nw (.methodLinkNest R_X 50 y_P_init R_X) U ∧ z_N1 U ∧ va_AO R_H U ∧ va_AO R_P U
theorem z_NXk : z_Nk z_NX := by
  refine ⟨fun U g mk a h => ?_, fun s U hW h => ?_⟩
  · obtain ⟨h1, h2, h3, h4, h5, h6, h7⟩ := h
    exact ⟨va_Nw.same rfl rfl h1, va_Nw.same rfl rfl h2, va_Nw.same rfl rfl h3, va_Nw.same rfl rfl h4, z_N1k.1 U g mk a h5, va_AO.moved (u := U) (Vm.Alike.refl U.vm) h6, va_AO.moved (u := U) (Vm.Alike.refl U.vm) h7⟩
  · obtain ⟨h1, h2, h3, h4, h5, h6, h7⟩ := h
    exact ⟨va_Nw.warmM hW h1, va_Nw.warmM hW h2, va_Nw.warmM hW h3, va_Nw.warmM hW h4, z_N1k.2 s U hW h5, va_AO.moved hW.alike h6, va_AO.moved hW.alike h7⟩
theorem z_blindB {D : va_G} {C : Nat → ClassId} {a0 : Nat} {L : List va_E} {N : State → Prop} (hN : z_Nk N) : FrameBlind (va_Pc [.ref a0] (z_PreB D C a0 L N)) := fun a U g mk q => by
  obtain ⟨q0, q1, q2, q3⟩ := q
  exact ⟨q0, q1, va_K.moved (u := U) (U := U.calling g mk a) (Vm.Alike.refl U.vm) q2, hN.1 U g mk a q3⟩
theorem z_enterB {l : Launch} {y : MethodName} {b : ByteArray} {n : Nat} {rm : Room} {D : va_G} {C : Nat → ClassId} {a0 : Nat} {L L2 : List va_E} {N : State → Prop} {mc ms : Nat} (hy : plainName y.cls = true) (hav : (lg_sl [.ref a0]).length ≤ n)
    (body : ∀ (p : Program) (e : Env) (s : State) (m : MethodId) (below : List Frame) (meth : Method) (c : Code) (ls : Array Slot), z_FB D C p m c b n s ([.ref a0] : List Value).toArray y.cls → meth.sig.returnType = none → meth.locks = false → meth.name = y.name → N s → lv_has ls n (lv_args 0 [.ref a0]) → z_BG D a0 s.heap L s.heap [] → W p l e rm s m ([.ref a0] : List Value).toArray below meth c s.heap [] 0 0 (MQ below (z_QB D a0 L2) ([.ref a0] : List Value).toArray s mc ms (fun q => a0 ≤ q)) (F0 m 0 ls [])) : z_MB l y b n rm D C a0 L N L2 mc ms := by
  refine Met.ofW (cc := b) (maxL := n) (ret := none) hy rfl ?_
  intro p e s m args below meth c s₁ B hml hv
  obtain ⟨rfl, hW, hK, hN⟩ := hv
  have hts := atoms_spec (ws := z_ws y b n none) B.pre
  have hown : s.vm.findClass y.cls = some m.cls := findClass_of_methodNamed B.named
  rw [lg_entry_eq]
  exact body p e s m below meth c _ ⟨⟨B.exec, B.bytes, hml, hown, fun w hw => hts w (List.mem_cons_of_mem _ hw)⟩, hK⟩ B.returns B.notSynchronized (name_of_methodNamed B.named B.method).1 hN (lv_entry [.ref a0] hav) ⟨hW, va_S.rf⟩
section ZD
variable {D : va_G} {C : Nat → ClassId} {a0 : Nat} {L L2 : List va_E}
variable {p : Program} {l : Launch} {e : Env} {R : Room} {s : State} {m : MethodId} {args : Array Value} {below : List Frame} {meth : Method} {c : Code} {H H0 : Heap} {locs : List Loc} {cells slots : Nat} {Q : State → Prop}
variable {cc : ByteArray} {nL pc : Nat} {ls : Array Slot} {rest : List Value} {own : String}
theorem z_vretB (hF : z_FB D C p m c cc nL s args own) (hr : meth.sig.returnType = none) (hlk : meth.locks = false) (hB : z_BG D a0 s.heap L H locs) (e2 : L = L2) (hdg : decode cc pc = .ok (.return_, 1)) : W p l e R s m args below meth c H locs cells slots (MQ below (z_QB D a0 L2) args s cells slots (fun q => a0 ≤ q)) (F0 m pc ls []) :=
  W.vret hF.1.1 hF.1.2.1 hr (fun t ht _ => ⟨⟨L, rfl, e2, by show z_B D a0 L t.heap; rw [ht]; exact hB.1⟩, hB.2.F ht⟩) hB.2.2.2 hdg hlk
theorem b_obj {a : Nat} {idx : Nat} (hF : z_FB D C p m c cc nL s args own) (hl : Cond.methodLink own idx objectInit ∈ z_T) (hi : Cond.instanceMethod objectInit ∈ z_T) (hc : Cond.code objectInit ⟨#[0xb1]⟩ 1 none ∈ z_T) (hsz : ls.size = nL) (hR : 1 ≤ R.frames ∧ 12 ≤ R.locals) (hdg : decode cc pc = .ok (.invokespecial idx, 3)) (kk : W p l e R s m args below meth c H locs cells slots Q (F0 m (pc + 3) ls [])) : W p l e R s m args below meth c H locs cells slots Q (F0 m pc ls [.ref a]) := by
  obtain ⟨⟨hx, hb, hml, hown, hts⟩, hK⟩ := hF
  exact W.objInit hx hb hown (hts _ hl) (hts _ hi) (hts _ hc) rfl (by rw [hml]; exact hsz) rfl hdg hR.1 (by show 2 * 0 + 0 + 12 ≤ _; omega) kk
variable {y : MethodName} {b : ByteArray} {n index k mc ms : Nat} {rm : Room} {N : State → Prop} {x : va_E} {host : String}
theorem b_call (hr : va_Run p l e R s m args below meth c H locs cells slots mc ms (F0 m pc ls (.ref (a0 + k) :: rest)) rest (z_QB D (a0 + k) L2 ([.ref (a0 + k)] : List Value).toArray) (fun q => a0 + k ≤ q)) (hB : z_BG D a0 H0 (L ++ [x]) H locs) (hk : L.length = k) (kk : ∀ (H1 : Heap) (locs1 : List Loc), z_BG D a0 H0 (L ++ L2) H1 locs1 → W p l e R s m args below meth c H1 locs1 (cells + mc) (slots + ms) Q (F0 m (pc + 3) ls rest)) : W p l e R s m args below meth c H locs cells slots Q (F0 m pc ls (.ref (a0 + k) :: rest)) :=
  va_callv hr hB.2 (fun q _ h => Nat.le_trans (Nat.le_add_right _ _) h) (fun q h => Nat.le_trans (Nat.le_add_right _ _) h) (fun u t H1 locs1 ht _ hw hC _ hf hS => by
    subst hw
    exact kk H1 locs1 ⟨hB.1.join hk (by rw [← ht]; exact hC) hf, hS⟩)
theorem z_B.last (h : z_B D a0 (L ++ [x]) H) (hk : L.length = k) : z_B D (a0 + k) [x] H := by
  refine ⟨by rw [h.1, List.length_append, hk, Nat.add_assoc], fun j y hy => ?_⟩
  have hz : j < 1 := (List.getElem?_eq_some_iff.mp hy).1
  rw [show j = 0 by omega] at hy ⊢
  exact h.2 k y (by rw [List.getElem?_append_right (by omega), hk, Nat.sub_self]; exact hy)
theorem b_callN (hF : z_FB D C p m c cc nL s args own) (hM : z_MB l y b n rm D C (a0 + k) [x] N L2 mc ms) (hN : z_Nk N) (hNs : N s) (hB : z_BG D a0 H0 (L ++ [x]) H locs) (hk : L.length = k) (hnest : va_Nw (.methodLinkNest own index y host) s) (hi : Cond.instanceMethod y ∈ z_T) (hini : Cond.initialized y.cls ∈ z_T) (hcode : Cond.code y b n none ∈ z_T) (hyn : y.name = "<init>") (hd : y.cls ≠ "java/lang/invoke/MethodHandle" ∧ y.cls ≠ "java/lang/invoke/VarHandle" ∧ (parseMethodDescriptor y.desc).map (fun d => d.parameters.length) = some 0) (hrc : rm.cells = mc) (hrs : rm.slots = ms) (hR : rm.frames + 1 ≤ R.frames ∧ 8 + (n + 11) + rm.locals ≤ R.locals) (hcs : cells + mc ≤ R.cells ∧ slots + ms ≤ R.slots) (hsz : ls.size = nL) (hcat : (rest.map fun v => v.category).sum ≤ 8) (hdg : decode cc pc = .ok (.invokespecial index, 3))
    (kk : ∀ (H1 : Heap) (locs1 : List Loc), z_BG D a0 H0 (L ++ L2) H1 locs1 → W p l e R s m args below meth c H1 locs1 (cells + mc) (slots + ms) Q (F0 m (pc + 3) ls rest)) : W p l e R s m args below meth c H locs cells slots Q (F0 m pc ls (.ref (a0 + k) :: rest)) :=
  b_call (va_runIN (As := []) (Ts := z_T) hF.1 hM ⟨va_cnB 0 hF.1.2.2.2.2 (z_good hcode) rfl hrc hrs hnest (hF.1.2.2.2.2 _ hini) hd hR, hyn, hF.1.2.2.2.2 _ hi⟩ ⟨z_blindB hN, fun U hU hW => ⟨rfl, by rw [hU]; exact hB.1.last hk, va_K.moved hW.alike hF.2, hN.2 s U hW hNs⟩⟩ rfl rfl hsz rfl (lv_room hcat) hdg hcs) hB hk kk
theorem b_callI (hF : z_FB D C p m c cc nL s args own) (hM : z_MB l y b n rm D C (a0 + k) [x] N L2 mc ms) (hN : z_Nk N) (hNs : N s) (hB : z_BG D a0 H0 (L ++ [x]) H locs) (hk : L.length = k) (hl : Cond.methodLink own index y ∈ z_T) (hi : Cond.instanceMethod y ∈ z_T) (hini : Cond.initialized y.cls ∈ z_T) (hcode : Cond.code y b n none ∈ z_T) (hyn : y.name = "<init>") (hd : y.cls ≠ "java/lang/invoke/MethodHandle" ∧ y.cls ≠ "java/lang/invoke/VarHandle" ∧ (parseMethodDescriptor y.desc).map (fun d => d.parameters.length) = some 0) (hrc : rm.cells = mc) (hrs : rm.slots = ms) (hR : rm.frames + 1 ≤ R.frames ∧ 8 + (n + 11) + rm.locals ≤ R.locals) (hcs : cells + mc ≤ R.cells ∧ slots + ms ≤ R.slots) (hsz : ls.size = nL) (hcat : (rest.map fun v => v.category).sum ≤ 8) (hdg : decode cc pc = .ok (.invokespecial index, 3))
    (kk : ∀ (H1 : Heap) (locs1 : List Loc), z_BG D a0 H0 (L ++ L2) H1 locs1 → W p l e R s m args below meth c H1 locs1 (cells + mc) (slots + ms) Q (F0 m (pc + 3) ls rest)) : W p l e R s m args below meth c H locs cells slots Q (F0 m pc ls (.ref (a0 + k) :: rest)) :=
  b_call (va_runI (As := []) (Ts := z_T) hF.1 hM ⟨callB_of 0 hF.1.2.2.2.2 (z_good hcode) rfl hrc hrs (hF.1.2.2.2.2 _ hini) (hF.1.2.2.2.2 _ hl) hd hR, hyn, hF.1.2.2.2.2 _ hi⟩ ⟨z_blindB hN, fun U hU hW => ⟨rfl, by rw [hU]; exact hB.1.last hk, va_K.moved hW.alike hF.2, hN.2 s U hW hNs⟩⟩ rfl rfl hsz rfl (lv_room hcat) hdg hcs) hB hk kk
end ZD
