theorem wx_R : Cond.methodLinkNest R_X 21 y_R_init R_X ∈ lw_tbl := z_intb (i := 21) (by decide +kernel)
theorem wx_D : Cond.methodLinkNest R_X 37 y_D_init R_X ∈ lw_tbl := z_intb (i := 52) (by decide +kernel)
theorem wx_H : Cond.methodLinkNest R_X 49 y_H_init R_X ∈ lw_tbl := z_intb (i := 69) (by decide +kernel)
theorem wx_P : Cond.methodLinkNest R_X 50 y_P_init R_X ∈ lw_tbl := z_intb (i := 86) (by decide +kernel)
theorem wx_A : Cond.methodLinkNest R_P 30 y_A_init R_X ∈ lw_tbl := z_intb (i := 92) (by decide +kernel)
theorem wo_H : Cond.arrayOver (.object R_H) ∈ lw_tbl := z_intb (i := 18) (by decide +kernel)
theorem wo_P : Cond.arrayOver (.object R_P) ∈ lw_tbl := z_intb (i := 49) (by decide +kernel)
theorem wb_X : Cond.instantiable R_X 8 ∈ z_T := z_inT (z_intb (i := 10) (by decide +kernel)) rfl
theorem wq_L_7 : Cond.classLink R_L 7 R_X ∈ z_T := z_inT (z_intb (i := 9) (by decide +kernel)) rfl
theorem wm_L_9 : Cond.methodLink R_L 9 y_X_init ∈ z_T := z_inT (z_intb (i := 11) (by decide +kernel)) rfl
theorem wi_X_init : Cond.instanceMethod y_X_init ∈ z_T := z_inT (z_intb (i := 12) (by decide +kernel)) rfl
set_option maxRecDepth 20000 in
theorem wc_X_init : Cond.code y_X_init b_X_init 2 none ∈ z_T := z_inT (z_intb (i := 13) rfl) rfl
theorem dp_X_init : y_X_init.cls ≠ "java/lang/invoke/MethodHandle" ∧ y_X_init.cls ≠ "java/lang/invoke/VarHandle" ∧ (parseMethodDescriptor y_X_init.desc).map (fun d => d.parameters.length) = some 0 := by decide +kernel
theorem wb_M : Cond.instantiable R_M 24 ∈ z_T := z_inT (z_intb (i := 405) (by decide +kernel)) rfl
theorem wq_L_10 : Cond.classLink R_L 10 R_M ∈ z_T := z_inT (z_intb (i := 404) (by decide +kernel)) rfl
theorem wm_L_12 : Cond.methodLink R_L 12 y_M_init ∈ z_T := z_inT (z_intb (i := 406) (by decide +kernel)) rfl
theorem wi_M_init : Cond.instanceMethod y_M_init ∈ z_T := z_inT (z_intb (i := 407) (by decide +kernel)) rfl
set_option maxRecDepth 20000 in
theorem wc_M_init : Cond.code y_M_init b_M_init 1 none ∈ z_T := z_inT (z_intb (i := 408) rfl) rfl
theorem dp_M_init : y_M_init.cls ≠ "java/lang/invoke/MethodHandle" ∧ y_M_init.cls ≠ "java/lang/invoke/VarHandle" ∧ (parseMethodDescriptor y_M_init.desc).map (fun d => d.parameters.length) = some 0 := by decide +kernel
def z_off (a o : Nat) : Nat := cond (Nat.blt a 12) a (cond (Nat.beq a 12) (12 + 2 * o) (cond (Nat.beq a 13) (13 + 2 * o) (cond (Nat.blt a 21) (18 + 7 * o + (a - 14)) (39 + a))))
def z_ad (a0 a o : Nat) : Nat := a0 + z_off a o
theorem z_n42 {a o : Nat} (h : o < z_n a) : a < 42 := by
  apply Classical.byContradiction
  intro q
  have e : ∀ k : Nat, k ≤ 42 → Nat.blt a k = false := fun k hk => by
    cases e : Nat.blt a k with
    | false => rfl
    | true => have := Nat.le_of_ble_eq_true e; omega
  unfold z_n at h
  rw [e 12 (by decide), e 14 (by decide), e 21 (by decide), e 42 (by decide)] at h
  exact Nat.not_lt_zero _ h
def z_inv (k : Nat) : Nat × Nat := if k < 12 then (k, 0) else if k < 18 then (12 + (k - 12) % 2, (k - 12) / 2) else if k < 60 then (14 + (k - 18) % 7, (k - 18) / 7) else (k - 39, 0)
theorem z_offA : ((List.range 42).all fun a => (List.range (z_n a)).all fun o => decide (z_inv (z_off a o) = (a, o))) = true := by decide +kernel
theorem z_offI {a o : Nat} (h : o < z_n a) : z_inv (z_off a o) = (a, o) := by
  have h1 := List.all_eq_true.mp z_offA a (List.mem_range.mpr (z_n42 h))
  exact of_decide_eq_true (List.all_eq_true.mp h1 o (List.mem_range.mpr h))
theorem z_adJ (a0 : Nat) : z_J (z_ad a0) := fun a o a2 o2 h h2 e => by
  have e1 : z_off a o = z_off a2 o2 := Nat.add_left_cancel e
  have e2 := (z_offI h).symm.trans ((congrArg z_inv e1).trans (z_offI h2))
  exact ⟨congrArg Prod.fst e2, congrArg Prod.snd e2⟩
theorem z_arrx {cA : ClassId} {n : Nat} {f g : Nat → Value} (h : ∀ j, j < n → f j = g j) : arrV cA n f = arrV cA n g := by
  unfold arrV
  congr 1
  apply Array.ext
  · simp
  · intro i h1 h2
    simp at h1
    simp [h i h1]
theorem z_at_q {D : va_G} {a : Nat} {cA : ClassId} {n : Nat} {f g : Nat → Option Nat} {H : Heap} (h : va_at D z_cl (a, .inl (cA, n, .inr (.inr (.inr (.inr f))))) H) (e : ∀ j, j < n → f j = g j) : va_at D z_cl (a, .inl (cA, n, .inr (.inr (.inr (.inr g))))) H := by
  have h1 : H[a]? = some (vp_cell cA (n, .inr (.inr (.inr (.inr f))))) := h
  show H[a]? = some (vp_cell cA (n, .inr (.inr (.inr (.inr g)))))
  rw [h1, vp_cell_q, vp_cell_q, z_arrx (fun j hj => by rw [e j hj])]
set_option maxHeartbeats 8000000 in
set_option maxRecDepth 100000 in
theorem z_init {D : va_G} {C : Nat → ClassId} {a0 : Nat} {H : Heap} (h : z_B D a0 (L_X C a0 ++ L_M C (a0 + 60)) H) : z_W D C (z_ad a0) z_S0 H := by
  intro a o ho
  have ha := z_n42 ho
  rcases (show a = 0 ∨ a = 1 ∨ a = 2 ∨ a = 3 ∨ a = 4 ∨ a = 5 ∨ a = 6 ∨ a = 7 ∨ a = 8 ∨ a = 9 ∨ a = 10 ∨ a = 11 ∨ a = 12 ∨ a = 13 ∨ a = 14 ∨ a = 15 ∨ a = 16 ∨ a = 17 ∨ a = 18 ∨ a = 19 ∨ a = 20 ∨ a = 21 ∨ a = 22 ∨ a = 23 ∨ a = 24 ∨ a = 25 ∨ a = 26 ∨ a = 27 ∨ a = 28 ∨ a = 29 ∨ a = 30 ∨ a = 31 ∨ a = 32 ∨ a = 33 ∨ a = 34 ∨ a = 35 ∨ a = 36 ∨ a = 37 ∨ a = 38 ∨ a = 39 ∨ a = 40 ∨ a = 41 by omega) with rfl | rfl | rfl | rfl | rfl | rfl | rfl | rfl | rfl | rfl | rfl | rfl | rfl | rfl | rfl | rfl | rfl | rfl | rfl | rfl | rfl | rfl | rfl | rfl | rfl | rfl | rfl | rfl | rfl | rfl | rfl | rfl | rfl | rfl | rfl | rfl | rfl | rfl | rfl | rfl | rfl | rfl
  ·
    obtain rfl : o = 0 := by have h1 : o < 1 := ho; omega
    exact h.2 0 _ rfl
  ·
    obtain rfl : o = 0 := by have h1 : o < 1 := ho; omega
    refine z_at_q (h.2 1 _ rfl) (fun j hj => ?_)
    rcases (show j = 0 ∨ j = 1 ∨ j = 2 by omega) with rfl | rfl | rfl <;> rfl
  ·
    obtain rfl : o = 0 := by have h1 : o < 1 := ho; omega
    exact h.2 2 _ rfl
  ·
    obtain rfl : o = 0 := by have h1 : o < 1 := ho; omega
    exact h.2 3 _ rfl
  ·
    obtain rfl : o = 0 := by have h1 : o < 1 := ho; omega
    exact h.2 4 _ rfl
  ·
    obtain rfl : o = 0 := by have h1 : o < 1 := ho; omega
    exact h.2 5 _ rfl
  ·
    obtain rfl : o = 0 := by have h1 : o < 1 := ho; omega
    exact h.2 6 _ rfl
  ·
    obtain rfl : o = 0 := by have h1 : o < 1 := ho; omega
    exact h.2 7 _ rfl
  ·
    obtain rfl : o = 0 := by have h1 : o < 1 := ho; omega
    refine z_at_q (h.2 8 _ rfl) (fun j hj => ?_)
    rcases (show j = 0 ∨ j = 1 ∨ j = 2 ∨ j = 3 ∨ j = 4 ∨ j = 5 by omega) with rfl | rfl | rfl | rfl | rfl | rfl <;> rfl
  ·
    obtain rfl : o = 0 := by have h1 : o < 1 := ho; omega
    exact h.2 9 _ rfl
  ·
    obtain rfl : o = 0 := by have h1 : o < 1 := ho; omega
    exact h.2 10 _ rfl
  ·
    obtain rfl : o = 0 := by have h1 : o < 1 := ho; omega
    exact h.2 11 _ rfl
  ·
    have h1 : o < 3 := ho
    rcases (show o = 0 ∨ o = 1 ∨ o = 2 by omega) with rfl | rfl | rfl
    · exact h.2 12 _ rfl
    · exact h.2 14 _ rfl
    · exact h.2 16 _ rfl
  ·
    have h1 : o < 3 := ho
    rcases (show o = 0 ∨ o = 1 ∨ o = 2 by omega) with rfl | rfl | rfl
    · exact h.2 13 _ rfl
    · exact h.2 15 _ rfl
    · exact h.2 17 _ rfl
  ·
    have h1 : o < 6 := ho
    rcases (show o = 0 ∨ o = 1 ∨ o = 2 ∨ o = 3 ∨ o = 4 ∨ o = 5 by omega) with rfl | rfl | rfl | rfl | rfl | rfl
    · exact h.2 18 _ rfl
    · exact h.2 25 _ rfl
    · exact h.2 32 _ rfl
    · exact h.2 39 _ rfl
    · exact h.2 46 _ rfl
    · exact h.2 53 _ rfl
  ·
    have h1 : o < 6 := ho
    rcases (show o = 0 ∨ o = 1 ∨ o = 2 ∨ o = 3 ∨ o = 4 ∨ o = 5 by omega) with rfl | rfl | rfl | rfl | rfl | rfl
    · exact h.2 19 _ rfl
    · exact h.2 26 _ rfl
    · exact h.2 33 _ rfl
    · exact h.2 40 _ rfl
    · exact h.2 47 _ rfl
    · exact h.2 54 _ rfl
  ·
    have h1 : o < 6 := ho
    rcases (show o = 0 ∨ o = 1 ∨ o = 2 ∨ o = 3 ∨ o = 4 ∨ o = 5 by omega) with rfl | rfl | rfl | rfl | rfl | rfl
    · exact h.2 20 _ rfl
    · exact h.2 27 _ rfl
    · exact h.2 34 _ rfl
    · exact h.2 41 _ rfl
    · exact h.2 48 _ rfl
    · exact h.2 55 _ rfl
  ·
    have h1 : o < 6 := ho
    rcases (show o = 0 ∨ o = 1 ∨ o = 2 ∨ o = 3 ∨ o = 4 ∨ o = 5 by omega) with rfl | rfl | rfl | rfl | rfl | rfl
    · exact h.2 21 _ rfl
    · exact h.2 28 _ rfl
    · exact h.2 35 _ rfl
    · exact h.2 42 _ rfl
    · exact h.2 49 _ rfl
    · exact h.2 56 _ rfl
  ·
    have h1 : o < 6 := ho
    rcases (show o = 0 ∨ o = 1 ∨ o = 2 ∨ o = 3 ∨ o = 4 ∨ o = 5 by omega) with rfl | rfl | rfl | rfl | rfl | rfl
    · exact h.2 22 _ rfl
    · exact h.2 29 _ rfl
    · exact h.2 36 _ rfl
    · exact h.2 43 _ rfl
    · exact h.2 50 _ rfl
    · exact h.2 57 _ rfl
  ·
    have h1 : o < 6 := ho
    rcases (show o = 0 ∨ o = 1 ∨ o = 2 ∨ o = 3 ∨ o = 4 ∨ o = 5 by omega) with rfl | rfl | rfl | rfl | rfl | rfl
    · exact h.2 23 _ rfl
    · exact h.2 30 _ rfl
    · exact h.2 37 _ rfl
    · exact h.2 44 _ rfl
    · exact h.2 51 _ rfl
    · exact h.2 58 _ rfl
  ·
    have h1 : o < 6 := ho
    rcases (show o = 0 ∨ o = 1 ∨ o = 2 ∨ o = 3 ∨ o = 4 ∨ o = 5 by omega) with rfl | rfl | rfl | rfl | rfl | rfl
    · exact h.2 24 _ rfl
    · exact h.2 31 _ rfl
    · exact h.2 38 _ rfl
    · exact h.2 45 _ rfl
    · exact h.2 52 _ rfl
    · exact h.2 59 _ rfl
  ·
    obtain rfl : o = 0 := by have h1 : o < 1 := ho; omega
    exact h.2 60 _ rfl
  ·
    obtain rfl : o = 0 := by have h1 : o < 1 := ho; omega
    exact h.2 61 _ rfl
  ·
    obtain rfl : o = 0 := by have h1 : o < 1 := ho; omega
    exact h.2 62 _ rfl
  ·
    obtain rfl : o = 0 := by have h1 : o < 1 := ho; omega
    exact h.2 63 _ rfl
  ·
    obtain rfl : o = 0 := by have h1 : o < 1 := ho; omega
    exact h.2 64 _ rfl
  ·
    obtain rfl : o = 0 := by have h1 : o < 1 := ho; omega
    exact h.2 65 _ rfl
  ·
    obtain rfl : o = 0 := by have h1 : o < 1 := ho; omega
    exact h.2 66 _ rfl
  ·
    obtain rfl : o = 0 := by have h1 : o < 1 := ho; omega
    exact h.2 67 _ rfl
  ·
    obtain rfl : o = 0 := by have h1 : o < 1 := ho; omega
    exact h.2 68 _ rfl
  ·
    obtain rfl : o = 0 := by have h1 : o < 1 := ho; omega
    exact h.2 69 _ rfl
  ·
    obtain rfl : o = 0 := by have h1 : o < 1 := ho; omega
    exact h.2 70 _ rfl
  ·
    obtain rfl : o = 0 := by have h1 : o < 1 := ho; omega
    exact h.2 71 _ rfl
  ·
    obtain rfl : o = 0 := by have h1 : o < 1 := ho; omega
    exact h.2 72 _ rfl
  ·
    obtain rfl : o = 0 := by have h1 : o < 1 := ho; omega
    exact h.2 73 _ rfl
  ·
    obtain rfl : o = 0 := by have h1 : o < 1 := ho; omega
    exact h.2 74 _ rfl
  ·
    obtain rfl : o = 0 := by have h1 : o < 1 := ho; omega
    exact h.2 75 _ rfl
  ·
    obtain rfl : o = 0 := by have h1 : o < 1 := ho; omega
    exact h.2 76 _ rfl
  ·
    obtain rfl : o = 0 := by have h1 : o < 1 := ho; omega
    exact h.2 77 _ rfl
  ·
    obtain rfl : o = 0 := by have h1 : o < 1 := ho; omega
    exact h.2 78 _ rfl
  ·
    obtain rfl : o = 0 := by have h1 : o < 1 := ho; omega
    exact h.2 79 _ rfl
  ·
    obtain rfl : o = 0 := by have h1 : o < 1 := ho; omega
    exact h.2 80 _ rfl
theorem z_arrk {args : Array Value} {s : State} {ty : FieldType} (h : (Cond.arrayClass ty).before args s = true) : ∃ cA : ClassId, ArrOfT s cA ty ∧ s.vm.findClass ("[" ++ ty.toString) = some cA := by
  obtain ⟨cA, k, comp, h1, h2, h3⟩ := Cond.arrayClass_spec h
  exact ⟨cA, fun n z => ⟨fun k h => (by cases h), k, h2, comp, h3⟩, h1⟩
theorem z_arro {args : Array Value} {s : State} {Cn : String} (h : (Cond.arrayOver (.object Cn)).before args s = true) : ∃ cA : ClassId, ArrOfT s cA (.object Cn) ∧ va_RA s cA (.object Cn) := by
  obtain ⟨comp, cA, k, h1, h2, h3, h4, h5⟩ := Cond.arrayOver_spec h
  exact ⟨cA, fun n z => ⟨fun k h => (by cases h), k, h3, comp, h4⟩, k, comp, h3, h4, h1, h5⟩
set_option maxHeartbeats 8000000 in
set_option maxRecDepth 100000 in
/-- from the entry, for every script of at most 3072 ints, the law comes to its end with true -/
theorem whole_start {p : Program} {e : Env} {s : State} {m : MethodId} {below : List Frame} {meth : Method} {c : Code} (l : Launch) {b L : Nat} {xs : Nat → Int32} (hL : L ≤ 3072) (C0 : lw_At p s m meth c b L xs) : W p l e room_1 s m #[Value.ref b] below meth c s.heap [] 0 0 (lw_Z below #[Value.ref b] s) (entryFrame m ([Value.ref b] : List Value).toArray 4) := by
  obtain ⟨hx, hb, hr, hml, hown, htb, hX, hbl, hlk, -⟩ := C0
  have hts : ∀ w ∈ z_T, w.before #[Value.ref b] s = true := fun w hw => htb w (List.mem_filter.mp hw).1
  obtain ⟨cX, iX, kX⟩ := u_known hts wl_X (hts _ wb_X)
  obtain ⟨cH, iH, kH⟩ := u_known hts wl_H (hts _ wb_H)
  obtain ⟨cA, iA, kA⟩ := u_known hts wl_A (hts _ wb_A)
  obtain ⟨cP, iP, kP⟩ := u_known hts wl_P (hts _ wb_P)
  obtain ⟨cR, iR, kR⟩ := u_known hts wl_R (hts _ wb_R)
  obtain ⟨cD, iD, kD⟩ := u_known hts wl_D (hts _ wb_D)
  obtain ⟨cM, iM, kM⟩ := u_known hts wl_M (hts _ wb_M)
  obtain ⟨aI, pI, qI⟩ := z_arrk (hts _ wa_int)
  obtain ⟨aZ, pZ, qZ⟩ := z_arrk (hts _ wa_boolean)
  obtain ⟨aJ, pJ, qJ⟩ := z_arrk (hts _ wa_long)
  obtain ⟨aH, pH, qH⟩ := z_arro (htb _ wo_H)
  obtain ⟨aP, pP, qP⟩ := z_arro (htb _ wo_P)
  obtain ⟨D, hD⟩ : ∃ D : va_G, D = ((fun k => match k with | 0 => cX | 1 => cH | 2 => cA | 3 => cP | 4 => cR | 5 => cD | _ => cM), (fun k => match k with | 0 => iX | 1 => iH | 2 => iA | 3 => iP | 4 => iR | 5 => iD | _ => iM)) := ⟨_, rfl⟩
  obtain ⟨C, hC⟩ : ∃ C : Nat → ClassId, C = (fun k => match k with | 0 => aI | 1 => aZ | 2 => aJ | 3 => aH | _ => aP) := ⟨_, rfl⟩
  have hK : va_K D z_cl (z_tys C) s := by
    subst hD hC
    refine ⟨fun k q hq => ?_, fun k q hq => ?_⟩
    · have hk : k < 7 := (List.getElem?_eq_some_iff.mp hq).1
      rcases (show k = 0 ∨ k = 1 ∨ k = 2 ∨ k = 3 ∨ k = 4 ∨ k = 5 ∨ k = 6 by omega) with rfl | rfl | rfl | rfl | rfl | rfl | rfl <;> cases hq
      · exact kX
      · exact kH
      · exact kA
      · exact kP
      · exact kR
      · exact kD
      · exact kM
    · have hk : k < 5 := (List.getElem?_eq_some_iff.mp hq).1
      rcases (show k = 0 ∨ k = 1 ∨ k = 2 ∨ k = 3 ∨ k = 4 by omega) with rfl | rfl | rfl | rfl | rfl <;> cases hq
      · exact ⟨pI, qI⟩
      · exact ⟨pZ, qZ⟩
      · exact ⟨pJ, qJ⟩
      · exact ⟨pH, qH⟩
      · exact ⟨pP, qP⟩
  clear hD hC
  have hN : z_NX s := ⟨va_Nw.of rfl (htb _ wx_R), va_Nw.of rfl (htb _ wx_D), va_Nw.of rfl (htb _ wx_H), va_Nw.of rfl (htb _ wx_P), va_Nw.of rfl (htb _ wx_A), va_AO.of (htb _ wo_H), va_AO.of (htb _ wo_P)⟩
  have hF : z_FB D C p m c b_L_law 4 s #[Value.ref b] R_L := ⟨⟨hx, hb, hml, hown, hts⟩, hK⟩
  have hl := lv_entry ([.ref b]) (n := 4) (Nat.le_of_ble_eq_true rfl)
  rw [lg_entry_eq]
  generalize (lg_sl ([.ref b]) ++ List.replicate (4 - (lg_sl ([.ref b])).length) Slot.unset).toArray = ls at hl ⊢
  have hl : lv_has ls 4 [(0, .ref b)] := hl
  obtain ⟨a0, ha0⟩ : ∃ a0 : Nat, a0 = s.heap.size := ⟨_, rfl⟩
  have hB : z_BG D a0 s.heap [] s.heap [] := ⟨⟨ha0.symm, fun k x hk => by cases hk⟩, va_S.rf⟩
  refine b_new (Cn := R_X) (T := F_X) (N := 8) (ci := 0) (n := 0) (fs := [.null, .null, .null, .null, .null, .null, .int 0, .int 0]) hF hB rfl rfl wl_X t_X t_X_ok wq_L_7 wb_X wn_X (by decide) (Nat.le_of_ble_eq_true rfl) (Nat.le_of_ble_eq_true rfl) d_L_law_0 (fun H hB => ?_)
  refine W.widen (k := 1) (n := 8) (Nat.le_of_ble_eq_true rfl) (Nat.le_of_ble_eq_true rfl) ?_
  refine lv_dup hx hb d_L_law_3 rfl ?_
  refine b_callI (L := []) (k := 0) hF (c_X_init l D C (a0 + 0)) z_NXk hN hB rfl wm_L_9 wi_X_init wn_X wc_X_init rfl dp_X_init rfl rfl ⟨(Nat.le_of_ble_eq_true rfl), (Nat.le_of_ble_eq_true rfl)⟩ ⟨(Nat.le_of_ble_eq_true rfl), (Nat.le_of_ble_eq_true rfl)⟩ hl.1 (Nat.le_of_ble_eq_true rfl) d_L_law_4 (fun H locs hB => ?_)
  refine W.widen (k := 60) (n := 1135) (Nat.le_of_ble_eq_true rfl) (Nat.le_of_ble_eq_true rfl) ?_
  have hB : z_BG D a0 s.heap (L_X C a0) H locs := hB
  refine lv_astore_n (lv' := [(1, .ref (a0 + 0)), (0, .ref b)]) hx hb d_L_law_7 rfl hl (Nat.le_of_ble_eq_true rfl) rfl (fun ls hl => ?_)
  refine b_new (Cn := R_M) (T := F_M) (N := 24) (ci := 6) (n := 60) (fs := [.null, .null, .null, .int 0, .null, .null, .null, .null, .null, .null, .null, .null, .null, .null, .int 0, .null, .null, .null, .null, .null, .int 0, .null, .null, .int 0]) hF hB rfl rfl wl_M t_M t_M_ok wq_L_10 wb_M wn_M (by decide) (Nat.le_of_ble_eq_true rfl) (Nat.le_of_ble_eq_true rfl) d_L_law_8 (fun H hB => ?_)
  refine W.widen (k := 61) (n := 1159) (Nat.le_of_ble_eq_true rfl) (Nat.le_of_ble_eq_true rfl) ?_
  refine lv_dup hx hb d_L_law_11 rfl ?_
  refine b_callI (L := L_X C a0) (k := 60) hF (c_M_init l D C (a0 + 60)) z_N0k trivial hB rfl wm_L_12 wi_M_init wn_M wc_M_init rfl dp_M_init rfl rfl ⟨(Nat.le_of_ble_eq_true rfl), (Nat.le_of_ble_eq_true rfl)⟩ ⟨(Nat.le_of_ble_eq_true rfl), (Nat.le_of_ble_eq_true rfl)⟩ hl.1 (Nat.le_of_ble_eq_true rfl) d_L_law_12 (fun H locs hB => ?_)
  refine W.widen (k := 81) (n := 3500) (Nat.le_of_ble_eq_true rfl) (Nat.le_of_ble_eq_true rfl) ?_
  refine lv_astore_n (lv' := [(2, .ref (a0 + 60)), (1, .ref (a0 + 0)), (0, .ref b)]) hx hb d_L_law_15 rfl hl (Nat.le_of_ble_eq_true rfl) rfl (fun ls hl => ?_)
  refine lv_iconst (v := 0) hx hb d_L_law_16 z_k0 ?_
  refine lv_istore_n (lv' := [(3, .int 0), (2, .ref (a0 + 60)), (1, .ref (a0 + 0)), (0, .ref b)]) hx hb d_L_law_17 rfl hl (Nat.le_of_ble_eq_true rfl) rfl (fun ls hl => ?_)
  have hl : lv_has ls 4 [(0, .ref b), (1, .ref (z_ad a0 0 0)), (2, .ref (z_ad a0 21 0)), (3, .int (nI (6 * 0)))] := lv_sub hl [3, 2, 1, 0] rfl
  refine va_forget (fun q hq => by have := hB.2.2.2 q hq; omega) ?_
  have hA : ∀ q, z_A (z_ad a0) q → s.heap.size ≤ q := by
    rintro q ⟨a, o, -, rfl⟩
    rw [← ha0]
    exact Nat.le_add_right _ _
  have hG : z_G D C (z_ad a0) s.heap z_S0 H [] := ⟨z_init hB.1, hB.2.1, fun q h1 h2 => hB.2.2.1 q h1 (by omega), fun q hq => by cases hq⟩
  exact z_lawloop l hL ⟨hF.1, hK, z_adJ a0⟩ hr hlk hX hbl (fun h => by have := hA b h; omega) hA (L / 6) 0 z_S0 H [] ls (by omega) (by omega) ⟨by decide, z_R0⟩ hG hl
