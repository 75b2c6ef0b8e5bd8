/-! Constructors: the cells from a0 on, all of them, as a list. -/
def z_B (D : va_G) (a0 : Nat) (L : List va_E) (H : Heap) : Prop := H.size = a0 + L.length ∧ ∀ (k : Nat) (x : va_E), L[k]? = some x → va_at D z_cl (a0 + k, x) H
def z_BG (D : va_G) (a0 : Nat) (H0 : Heap) (L : List va_E) (H : Heap) (locs : List Loc) : Prop := z_B D a0 L H ∧ va_S (fun q => a0 ≤ q) H0 H locs
abbrev z_FB (D : va_G) (C : Nat → ClassId) (p : Program) (m : MethodId) (c : Code) (cc : ByteArray) (nL : Nat) (s : State) (args : Array Value) (own : String) : Prop := CallFix p m c cc nL s args z_T own ∧ va_K D z_cl (z_tys C) s
theorem z_B.one {D : va_G} {a0 : Nat} {L : List va_E} {H : Heap} (h : z_B D a0 L H) {k : Nat} {x : va_E} (hk : L[k]? = some x) : va_P D z_cl [(a0 + k, x)] H := by
  intro j q hq
  cases j with
  | zero => cases hq; exact h.2 k x hk
  | succ j => cases hq
theorem z_B.push {D : va_G} {a0 : Nat} {L : List va_E} {H H1 : Heap} {x : va_E} (h : z_B D a0 L H) (z : H1.size = H.size + 1) (o : ∀ q : Nat, q < H.size → H1[q]? = H[q]?) (hx : va_at D z_cl (a0 + L.length, x) H1) : z_B D a0 (L ++ [x]) H1 := by
  refine ⟨by rw [z, h.1, List.length_append]; rfl, fun k y hy => ?_⟩
  by_cases hk : k < L.length
  · rw [List.getElem?_append_left hk] at hy
    have h1 := h.2 k y hy
    exact h1.kept (o _ h1.lt)
  · rw [List.getElem?_append_right (by omega)] at hy
    have hz : k - L.length < 1 := (List.getElem?_eq_some_iff.mp hy).1
    rw [show k - L.length = 0 by omega] at hy
    cases hy
    rw [show k = L.length by omega]
    exact hx
theorem z_B.set {D : va_G} {a0 : Nat} {L : List va_E} {H H1 : Heap} {k : Nat} {x x1 : va_E} (h : z_B D a0 L H) (hk : L[k]? = some x) (z : H1.size = H.size) (o : ∀ q : Nat, q ≠ a0 + k → H1[q]? = H[q]?) (hx : va_at D z_cl (a0 + k, x1) H1) : z_B D a0 (L.set k x1) H1 := by
  refine ⟨by rw [z, h.1, List.length_set], fun j y hy => ?_⟩
  by_cases e : j = k
  · subst e
    rw [List.getElem?_set_self (List.getElem?_eq_some_iff.mp hk).1] at hy
    cases hy
    exact hx
  · rw [List.getElem?_set_ne (fun q => e q.symm)] at hy
    exact (h.2 j y hy).kept (o _ (by omega))
/-- behind a constructor that made the cells from its own object on -/
theorem z_B.join {D : va_G} {a0 n : Nat} {L L2 : List va_E} {x : va_E} {H H1 : Heap} (h : z_B D a0 (L ++ [x]) H) (hn : L.length = n) (h2 : z_B D (a0 + n) L2 H1) (o : ∀ q : Nat, q < H.size → ¬ (a0 + n ≤ q) → H1[q]? = H[q]?) : z_B D a0 (L ++ L2) H1 := by
  refine ⟨by rw [h2.1, List.length_append, hn, Nat.add_assoc], fun k y hy => ?_⟩
  by_cases hk : k < L.length
  · rw [List.getElem?_append_left hk] at hy
    have h1 := h.2 k y (by rw [List.getElem?_append_left hk]; exact hy)
    exact h1.kept (o _ h1.lt (by show ¬ (a0 + n ≤ a0 + k); omega))
  · rw [List.getElem?_append_right (by omega)] at hy
    have h1 := h2.2 _ y hy
    rw [show a0 + k = a0 + n + (k - L.length) by omega]
    exact h1
theorem z_arrc {s : State} {D : va_G} {C : Nat → ClassId} (hK : va_K D z_cl (z_tys C) s) {cA : ClassId} {ty : FieldType} (t0 : Nat) {cB : ClassId} (ht : (z_tys C)[t0]? = some (cB, ty)) (hty : ty = .int ∨ ty = .boolean ∨ ty = .long) (h : s.vm.findClass ("[" ++ ty.toString) = some cA) : cA = cB := by
  have h2 := (hK.2 t0 _ ht).2
  rcases hty with rfl | rfl | rfl
  · exact Option.some.inj (h.symm.trans h2)
  · exact Option.some.inj (h.symm.trans h2)
  · exact Option.some.inj (h.symm.trans h2)
section ZB
variable {D : va_G} {C : Nat → ClassId} {a0 : Nat} {L : List va_E}
variable {p : Program} {l : Launch} {e : Env} {R : Room} {s : State} {m : MethodId} {args : Array Value} {below : List Frame} {meth : Method} {c : Code} {H H0 : Heap} {locs : List Loc} {cells slots : Nat} {Q : State → Prop}
variable {cc : ByteArray} {nL pc : Nat} {ls : Array Slot} {rest : List Value} {own : String}
theorem b_get {Cn : String} {T : u_T} {N ci index k0 : Nat} {fs : List Value} (hF : z_FB D C p m c cc nL s args own) (hB : z_BG D a0 H0 L H locs) (he : L[k0]? = some (.inr (ci, fs))) (hcl : z_cl[ci]? = some (Cn, T, N)) (hin : ∀ w ∈ u_ws Cn T N, w ∈ z_T) (k : Nat) (hk : k < N) (hlink : Cond.fieldLink own index Cn (T k).2.1 (T k).2.2.1 ∈ z_T) (hT : (T k).1 = Cn) {v : Value} (hv : fs[k]? = some v) (hdg : decode cc pc = .ok (.getfield index, 3))
    (kk : W p l e R s m args below meth c H locs cells slots Q (F0 m (pc + 3) ls (v :: rest))) : W p l e R s m args below meth c H locs cells slots Q (F0 m pc ls (.ref (a0 + k0) :: rest)) :=
  va_get (ref := Cn) hF.1.1 hF.1.2.1 hF.1.2.2.2.2 hin hF.1.2.2.2.1 hF.2 (hB.1.one he) 0 rfl hcl k hk (hF.1.2.2.2.2 _ hlink) (fun x h => by rw [hT] at h; exact h) hv hdg kk
theorem b_put {Cn : String} {T : u_T} {N ci index k0 : Nat} {fs : List Value} {v : Value} (hF : z_FB D C p m c cc nL s args own) (hB : z_BG D a0 H0 L H locs) (he : L[k0]? = some (.inr (ci, fs))) (hcl : z_cl[ci]? = some (Cn, T, N)) (hin : ∀ w ∈ u_ws Cn T N, w ∈ z_T) (ty0 : Nat → FieldType) (hty : ∀ k, k < N → parseFieldDescriptor (T k).2.2.1 = some (ty0 k)) (hnm : ∀ a, a < N → ∀ b, b < N → a ≠ b → (T a).2.1 ≠ (T b).2.1) (k : Nat) (hk : k < N) (hlink : Cond.fieldLink own index Cn (T k).2.1 (T k).2.2.1 ∈ z_T) (hT : (T k).1 = Cn) (hfin : (T k).2.2.2 = false) {ty : FieldType} (hd : parseFieldDescriptor (T k).2.2.1 = some ty) (hn : narrow ty v = v) (hfit : fits ty v = true) (hl : k < fs.length) (hdg : decode cc pc = .ok (.putfield index, 3))
    (kk : ∀ (H1 : Heap) (locs1 : List Loc), z_BG D a0 H0 (L.set k0 (.inr (ci, fs.set k v))) H1 locs1 → W p l e R s m args below meth c H1 locs1 cells slots Q (F0 m (pc + 3) ls rest)) : W p l e R s m args below meth c H locs cells slots Q (F0 m pc ls (v :: .ref (a0 + k0) :: rest)) := by
  obtain ⟨⟨hx, hb, hml, hown, hts⟩, hK⟩ := hF
  have hap := va_apart (own := own) hts hin ty0 hty hnm hK hcl
  obtain ⟨r, hr1, cell, q1, q2, q3, q4⟩ := hB.1.one he 0 _ rfl
  have hr : r = (Cn, T, N) := Option.some.inj (hr1.symm.trans hcl)
  subst hr
  obtain ⟨hS, hfc, kC, hkC, hkind⟩ := hK.1 ci _ hcl
  obtain ⟨cf, kf, fi, f, hi, hsl⟩ := hS k hk
  have hlay := hts _ (hin _ (u_in_lay hk))
  unfold u_lay at hlay
  rw [if_neg (by rw [hfin]; decide)] at hlay
  have hst := (u_facts hfc hkC (u_lays hts hin hk) hi).1
  have h6 := u_store hfc hkC hkind hlay hi hd hn hfit
  refine W.putK hx hb (f := f) ⟨hown, hts _ hlink, ⟨_, _, _, by rw [hT] at hi; exact hi⟩, hst⟩ (by rw [q2]; exact h6) q1 q3 (by rw [hsl]; exact k2_hasslot (q4 k hk)) rfl rfl hdg fun H' e1 e2 e3 => ?_
  rw [hsl] at e1 ⊢
  exact kk H' _ ⟨hB.1.set he e2 e3 ⟨_, hcl, t_OB.to (V := updV (vp_V fs) k v) ⟨_, e1, q2, q3, t_set q4 hap hk v⟩ (fun j _ => vp_updV_set hl v j)⟩, hB.2.put e2 e3 (Nat.le_add_right _ _)⟩
theorem b_putF {Cn : String} {T : u_T} {N ci index k0 : Nat} {fs : List Value} {v : Value} (hF : z_FB D C p m c cc nL s args Cn) (hin2 : meth.name = "<init>") (hB : z_BG D a0 H0 L H locs) (he : L[k0]? = some (.inr (ci, fs))) (hcl : z_cl[ci]? = some (Cn, T, N)) (hin : ∀ w ∈ u_ws Cn T N, w ∈ z_T) (ty0 : Nat → FieldType) (hty : ∀ k, k < N → parseFieldDescriptor (T k).2.2.1 = some (ty0 k)) (hnm : ∀ a, a < N → ∀ b, b < N → a ≠ b → (T a).2.1 ≠ (T b).2.1) (k : Nat) (hk : k < N) (hlink : Cond.fieldLink Cn index Cn (T k).2.1 (T k).2.2.1 ∈ z_T) (hT : (T k).1 = Cn) (hfin : (T k).2.2.2 = true) {ty : FieldType} (hd : parseFieldDescriptor (T k).2.2.1 = some ty) (hn : narrow ty v = v) (hfit : fits ty v = true) (hl : k < fs.length) (hdg : decode cc pc = .ok (.putfield index, 3))
    (kk : ∀ (H1 : Heap) (locs1 : List Loc), z_BG D a0 H0 (L.set k0 (.inr (ci, fs.set k v))) H1 locs1 → W p l e R s m args below meth c H1 locs1 cells slots Q (F0 m (pc + 3) ls rest)) : W p l e R s m args below meth c H locs cells slots Q (F0 m pc ls (v :: .ref (a0 + k0) :: rest)) := by
  obtain ⟨⟨hx, hb, hml, hown, hts⟩, hK⟩ := hF
  have hap := va_apart (own := Cn) hts hin ty0 hty hnm hK hcl
  obtain ⟨r, hr1, cell, q1, q2, q3, q4⟩ := hB.1.one he 0 _ rfl
  have hr : r = (Cn, T, N) := Option.some.inj (hr1.symm.trans hcl)
  subst hr
  obtain ⟨hS, hfc, kC, hkC, hkind⟩ := hK.1 ci _ hcl
  obtain ⟨cf, kf, fi, f, hi, hsl⟩ := hS k hk
  have hlay := hts _ (hin _ (u_in_lay hk))
  unfold u_lay at hlay
  rw [if_pos hfin] at hlay
  have hst := (u_facts hfc hkC (u_lays hts hin hk) hi).1
  have hcf : m.cls = cf := by
    obtain ⟨_, _, c', _, _, _, -, -, hf', -, -, -, hown2, -⟩ := Cond.laysFinal_spec hlay
    have e1 : c' = cf := by have := hi.symm.trans hf'; simp at this; exact this.1.symm
    rw [hT] at hown2
    rw [← e1]; exact Option.some.inj (hown.symm.trans hown2)
  have h6 := u_fits hfc hkC hkind (Or.inr hlay) hi hd hn hfit
  refine W.putFinK hx hb hown (hts _ hlink) (by rw [hT] at hi; exact hi) hst hcf hin2 (by rw [q2]; exact h6) q1 q3 (by rw [hsl]; exact k2_hasslot (q4 k hk)) rfl rfl hdg fun H' e1 e2 e3 => ?_
  rw [hsl] at e1 ⊢
  exact kk H' _ ⟨hB.1.set he e2 e3 ⟨_, hcl, t_OB.to (V := updV (vp_V fs) k v) ⟨_, e1, q2, q3, t_set q4 hap hk v⟩ (fun j _ => vp_updV_set hl v j)⟩, hB.2.put e2 e3 (Nat.le_add_right _ _)⟩
theorem b_new {Cn : String} {T : u_T} {N ci index n : Nat} {fs : List Value} (hF : z_FB D C p m c cc nL s args own) (hB : z_BG D a0 H0 L H locs) (hn : L.length = n) (hcl : z_cl[ci]? = some (Cn, T, N)) (hin : ∀ w ∈ u_ws Cn T N, w ∈ z_T) (ty0 : Nat → FieldType) (hty : ∀ k, k < N → parseFieldDescriptor (T k).2.2.1 = some (ty0 k)) (hlink : Cond.classLink own index Cn ∈ z_T) (hins : Cond.instantiable Cn N ∈ z_T) (hini : Cond.initialized Cn ∈ z_T) (hfs : ∀ j, j < N → defaultValue (ty0 j) = vp_V fs j) (hcells : cells + 1 ≤ R.cells) (hslots : slots + N ≤ R.slots) (hdg : decode cc pc = .ok (.new index, 3))
    (kk : ∀ H1 : Heap, z_BG D a0 H0 (L ++ [.inr (ci, fs)]) H1 locs → W p l e R s m args below meth c H1 locs (cells + 1) (slots + N) Q (F0 m (pc + 3) ls (.ref (a0 + n) :: rest))) : W p l e R s m args below meth c H locs cells slots Q (F0 m pc ls rest) := by
  obtain ⟨⟨hx, hb, hml, hown, hts⟩, hK⟩ := hF
  have hKn := hK.1 ci _ hcl
  refine W.newcK hx hb hown (hts _ hlink) (hts _ hins) (hts _ hini) rfl hdg hcells hslots hKn.2.1 (h := a0 + n) (by rw [hB.1.1, hn]) fun H1 kC hkC e1 z1 o1 => ?_
  have hz : H.size = a0 + n := by rw [hB.1.1, hn]
  refine kk H1 ⟨hB.1.push (by rw [z1, hz]) (fun q hq => o1 q (by omega)) ?_, ⟨by have := hB.2.1; omega, fun q h1 h2 => (o1 q (by have := hB.2.1; omega)).trans (hB.2.2.1 q h1 h2), hB.2.2.2⟩⟩
  rw [hn]
  exact ⟨_, hcl, (u_born ty0 hts hin hKn hkC e1 hty).to hfs⟩
theorem b_newa {atype : ArrayType} {ty : FieldType} {k : Int32} {N n t0 : Nat} {cB : ClassId} {a0' : vp_A} (hF : z_FB D C p m c cc nL s args own) (hB : z_BG D a0 H0 L H locs) (hn : L.length = n) (harr : Cond.arrayClass ty ∈ z_T) (hat : newarray.typeOf atype = ty) (ht : (z_tys C)[t0]? = some (cB, ty)) (hty : ty = .int ∨ ty = .boolean ∨ ty = .long) (ha : vp_cell cB a0' = arrV cB N (fun _ => defaultValue ty)) (hk0 : ¬ k < 0) (hkN : k.toNatClampNeg = N) (hbytes : N * componentBytes ty ≤ 536870912) (hcells : cells + 1 ≤ R.cells) (hslots : slots + N ≤ R.slots) (hdg : decode cc pc = .ok (.newarray atype, 2))
    (kk : ∀ H1 : Heap, z_BG D a0 H0 (L ++ [.inl (cB, a0')]) H1 locs → W p l e R s m args below meth c H1 locs (cells + 1) (slots + N) Q (F0 m (pc + 2) ls (.ref (a0 + n) :: rest))) : W p l e R s m args below meth c H locs cells slots Q (F0 m pc ls (.int k :: rest)) := by
  obtain ⟨⟨hx, hb, hml, hown, hts⟩, hK⟩ := hF
  subst hat
  have hz : H.size = a0 + n := by rw [hB.1.1, hn]
  refine va_newaK hx hb (hts _ harr) rfl hdg rfl hk0 hkN hbytes hcells hslots hz fun H1 cA e1 z1 o1 hAr hNm => ?_
  have hc : cA = cB := z_arrc hK t0 ht hty hNm
  subst hc
  refine kk H1 ⟨hB.1.push (by rw [z1, hz]) (fun q hq => o1 q (by omega)) ?_, ⟨by have := hB.2.1; omega, fun q h1 h2 => (o1 q (by have := hB.2.1; omega)).trans (hB.2.2.1 q h1 h2), hB.2.2.2⟩⟩
  rw [hn]
  show H1[a0 + n]? = some (vp_cell _ _)
  rw [ha]
  exact e1
theorem b_anew {Cn : String} {k : Int32} {N n t0 index : Nat} {cB : ClassId} (hF : z_FB D C p m c cc nL s args own) (hB : z_BG D a0 H0 L H locs) (hn : L.length = n) (hlink : Cond.classLink own index Cn ∈ z_T) (hover : va_AO Cn s) (ht : (z_tys C)[t0]? = some (cB, .object Cn)) (hk0 : ¬ k < 0) (hkN : k.toNatClampNeg = N) (hbytes : N * 4 ≤ 536870912) (hcells : cells + 1 ≤ R.cells) (hslots : slots + N ≤ R.slots) (hdg : decode cc pc = .ok (.anewarray index, 3))
    (kk : ∀ H1 : Heap, z_BG D a0 H0 (L ++ [.inl (cB, N, .inr (.inr (.inr (.inr (fun _ => none)))))]) H1 locs → W p l e R s m args below meth c H1 locs (cells + 1) (slots + N) Q (F0 m (pc + 3) ls (.ref (a0 + n) :: rest))) : W p l e R s m args below meth c H locs cells slots Q (F0 m pc ls (.int k :: rest)) := by
  obtain ⟨⟨hx, hb, hml, hown, hts⟩, hK⟩ := hF
  subst hkN
  have hz : H.size = a0 + n := by rw [hB.1.1, hn]
  refine W.anew hx hb hown (hts _ hlink) (va_AO.use hover) rfl hdg rfl hk0 hbytes hcells hslots fun cA kA comp f1 f2 f3 f4 => ?_
  obtain ⟨kA2, comp2, g1, g2, g3, g4⟩ := (hK.2 t0 _ ht).2
  have hc : cA = cB := Option.some.inj (f1.symm.trans g4)
  subst hc
  generalize hH1 : H.push ({ cls := cA, slots := Array.replicate k.toNatClampNeg .null, vm := .none } : Cell) = H1
  have z1 : H1.size = H.size + 1 := by rw [← hH1, Array.size_push]
  have e1 : H1[H.size]? = some (arrV cA k.toNatClampNeg (fun _ => .null)) := by rw [← hH1, Array.getElem?_push_size, ← arrV_new]
  have o1 : ∀ q : Nat, q < H.size → H1[q]? = H[q]? := fun q hq => by rw [← hH1, Array.getElem?_push, if_neg (Nat.ne_of_lt hq)]
  have k2 := kk H1 ⟨hB.1.push z1 o1 (by
    rw [hn, ← hz]
    show H1[H.size]? = some (vp_cell _ _)
    rw [vp_cell_q]
    exact e1), ⟨by have := hB.2.1; omega, fun q h1 h2 => (o1 q (by have := hB.2.1; omega)).trans (hB.2.2.1 q h1 h2), hB.2.2.2⟩⟩
  rw [← hz] at k2
  exact k2
theorem b_aast {k0 kv ci n t0 j : Nat} {cA : ClassId} {r : vw_C} {vs : List Value} {f : Nat → Option Nat} {i : Int32} (hF : z_FB D C p m c cc nL s args own) (hB : z_BG D a0 H0 L H locs) (ha : L[k0]? = some (.inl (cA, n, .inr (.inr (.inr (.inr f)))))) (ht : (z_tys C)[t0]? = some (cA, .object r.1)) (hv : L[kv]? = some (.inr (ci, vs))) (hc : z_cl[ci]? = some r) (hj : i.toNatClampNeg = j) (hin : vp_in i n) (hdg : decode cc pc = .ok (.aastore, 1))
    (kk : ∀ (H1 : Heap) (locs1 : List Loc), z_BG D a0 H0 (L.set k0 (.inl (cA, n, .inr (.inr (.inr (.inr (va_up f j (some (a0 + kv))))))))) H1 locs1 → W p l e R s m args below meth c H1 locs1 cells slots Q (F0 m (pc + 1) ls rest)) : W p l e R s m args below meth c H locs cells slots Q (F0 m pc ls (.ref (a0 + kv) :: .int i :: .ref (a0 + k0) :: rest)) := by
  subst hj
  obtain ⟨⟨hx, hb, hml, hown, hts⟩, hK⟩ := hF
  have hlt : i.toNatClampNeg < n := Nat.not_le.mp fun q => hin (Or.inr q)
  have h0 : ¬ i < 0 := fun q => hin (Or.inl q)
  obtain ⟨r', hr', cellV, g1, g2, g3, -⟩ := hB.1.one hv 0 _ rfl
  have hcls := (hK.1 ci r hc).2
  obtain ⟨kA, comp, k1, k2, k3, -⟩ := (hK.2 t0 _ ht).2
  have hcomp : comp = D.1 ci := Option.some.inj (k3.symm.trans hcls.1)
  subst hcomp
  obtain ⟨kC, hkC, -⟩ := hcls.2
  refine W.aast hx hb (hB.1.one ha 0 _ rfl) (fun q h => by cases h) (fun h => by cases h) k1 k2 rfl hkC ⟨h0, by show _ < (arrV _ _ _).slots.size; rw [arrV_size]; exact hlt⟩ g1 (fun q h => by rw [g3] at h; cases h) (by rw [g2]; exact hkC) (by rw [g2]; exact va_assign hcls) rfl rfl hdg fun H1 e z oq => ?_
  refine kk H1 _ ⟨hB.1.set ha z oq ?_, hB.2.put z oq (Nat.le_add_right _ _)⟩
  show H1[a0 + k0]? = some (vp_cell _ _)
  rw [e]
  show some ((vp_cell cA (n, .inr (.inr (.inr (.inr f))))).setSlot _ _) = _
  rw [vp_cell_q, vp_cell_q, arrV_store]
  congr 2
  funext q
  by_cases hq : q = i.toNatClampNeg
  · subst hq
    simp [updV, va_up, va_rf]
  · simp [updV, va_up, hq]
theorem b_zast {k0 n j : Nat} {f : Nat → Int32} {i x : Int32} (hF : z_FB D C p m c cc nL s args own) (hB : z_BG D a0 H0 L H locs) (ha : L[k0]? = some (.inl (C 1, n, .inl f))) (hj : i.toNatClampNeg = j) (hin : vp_in i n) (hn : narrow .boolean (.int x) = .int x) (hdg : decode cc pc = .ok (.bastore, 1))
    (kk : ∀ (H1 : Heap) (locs1 : List Loc), z_BG D a0 H0 (L.set k0 (.inl (C 1, n, .inl (upd f j x)))) H1 locs1 → W p l e R s m args below meth c H1 locs1 cells slots Q (F0 m (pc + 1) ls rest)) : W p l e R s m args below meth c H locs cells slots Q (F0 m pc ls (.int x :: .int i :: .ref (a0 + k0) :: rest)) := by
  subst hj
  obtain ⟨⟨hx, hb, hml, hown, hts⟩, hK⟩ := hF
  have h0 := hB.1.one ha 0 _ rfl
  refine W.zast hx hb h0 ((hK.2 1 _ rfl).1 n (fun j => .int (f j))) (fun q => by cases q) (by show ¬ (i < 0 ∨ (arrV _ _ _).slots.size ≤ _); rw [arrV_size]; exact hin) rfl rfl hdg fun H1 e z oq => ?_
  refine kk H1 _ ⟨hB.1.set ha z oq ?_, hB.2.put z oq (Nat.le_add_right _ _)⟩
  show H1[a0 + k0]? = some (vp_cell _ _)
  rw [e, hn]
  show some ((vp_cell (C 1) (n, .inl f)).setSlot _ _) = _
  rw [vp_cell_i, vp_cell_i, arrV_store]
  congr 2
  funext q
  by_cases hq : q = i.toNatClampNeg
  · subst hq
    simp [updV, upd]
  · simp [updV, upd, hq]
end ZB
