/-- a COPY arrives -/
theorem z_tcopy {n : Nat} {S T : z_S} (h : Rr n S T) (hn : n < 512) {p u k : Nat} (hp : p < 6) (e : S.1 14 p 0 = nI u) (hu1 : 1 ≤ u) (hu2 : u ≤ 512) (hk : k < 3) (v : Int64) (hv : ∀ q j : Nat, q < z_sz S p → j < 4 → T.1 39 0 (192 + (4 * q + j)) = z_byte (z_half v q) j) (hv1 : z_sz S p = 1 → z_half v 1 = 0) : Rr (n + 1) (g_X_takeCopy S p (nI k) v) (g_M_takeCopy T (nI p) (nI k)) := by
  obtain ⟨s1, s2, s3, -⟩ := h.2.2.2.2.2.2.1 p hp
  obtain ⟨o1, o2, o3, -⟩ := h.2.2.2.2.2.2.2.1 p hp
  have hb := z_bitOne (f := S.1 19 p) hk
  rw [← o3] at hb
  have b2 := (z_b7 (f := S.1 16 p)).2.1
  rw [← s3, ← s2] at b2
  unfold g_X_takeCopy g_M_takeCopy f_A_isComplete_15 f_A_take_18 g_A_take_18
  rw [nI_clamp (show p < 2 ^ 31 by omega), nI_clamp (show k < 2 ^ 31 by omega)]
  by_cases c1 : S.1 15 p 2 = 3
  · rw [if_pos c1, if_neg (show ¬ (1 : Int32) = 0 by decide), if_neg (fun z => (b2.mp z) c1)]
    by_cases c0 : S.1 19 p k = 0
    · rw [if_pos c0, if_neg (show ¬ (1 : Int32) = 0 by decide), if_neg (fun z => (hb.mp z) c0), if_pos c0]
      have hR := z_takeC h hp hk c0 c1 v hv hv1
      have f14 : (z_sI (z_sL (z_sI S 19 p k 1) 20 p k v) 18 p 2 (S.1 18 p 2 + 1)).1 14 p 0 = S.1 14 p 0 := by
        rw [z_rI, if_neg (by omega), z_rLI, z_rI, if_neg (by omega)]
      rw [e] at f14
      generalize z_sI (z_sL (z_sI S 19 p k 1) 20 p k v) 18 p 2 (S.1 18 p 2 + 1) = S1 at *
      generalize z_it (fun (kk9 : Nat) (T9 : z_S) => rg_M_takeCopy_40i_S1 T9 (nI p) (nI k) kk9) 0 8 (z_sI T 32 0 p (T.1 32 0 p ||| ((1 : Int32) <<< (nI k &&& 31)))) = T1 at *
      obtain ⟨k1, k2, k3, -⟩ := hR.2.2.2.2.2.2.2.1 p hp
      obtain ⟨-, -, b3, b4⟩ := z_b7 (f := S1.1 19 p)
      rw [← k3, ← k2] at b3
      rw [← k2] at b4
      unfold f_A_isComplete_18
      by_cases c2 : S1.1 18 p 2 = 3
      · rw [if_pos c2, if_neg (show ¬ (1 : Int32) = 0 by decide), if_pos (b3.mpr c2)]
        refine z_decide hR hn hp f14 hu1 hu2 (fun j hj => ?_)
        rcases k1 j hj with z | z
        · exact absurd z (b4 c2 j hj)
        · exact z
      · rw [if_neg c2, if_pos rfl, if_neg (fun z => c2 (b3.mp z))]
        exact hR.up
    · rw [if_neg c0, if_pos rfl, if_neg c0, if_pos (hb.mpr c0)]
      exact h.up
  · rw [if_neg c1, if_pos rfl, if_pos (b2.mpr c1)]
    exact h.up
theorem z_anL {D : z_S} {p a m d q : Nat} (hp : p < 6) (ha : a < 3) (hm : m < 24) (hd : d < 6) (hq : q < 8) (f1 : D.1 27 0 p = nI d) (f2 : D.1 28 0 p = nI q) : ∀ N : Nat, N ≤ 8 → (∀ i, (z_it (fun (kk9 : Nat) (T9 : z_S) => rg_M_answer_74i_S1 T9 (nI p) (nI a) (nI m) kk9) 0 N D).1 39 0 i = if 8 * m ≤ i ∧ i < 8 * m + N then D.1 22 0 (384 * a + 4 * (16 * d + (q + 8 * ((i - 8 * m) / 4))) + (i - 8 * m) % 4) else D.1 39 0 i) ∧ (∀ b, b ≠ 39 → (z_it (fun (kk9 : Nat) (T9 : z_S) => rg_M_answer_74i_S1 T9 (nI p) (nI a) (nI m) kk9) 0 N D).1 b = D.1 b) ∧ (z_it (fun (kk9 : Nat) (T9 : z_S) => rg_M_answer_74i_S1 T9 (nI p) (nI a) (nI m) kk9) 0 N D).2 = D.2 := by
  intro N
  induction N with
  | zero => intro _; exact ⟨fun i => (if_neg (by omega)).symm, fun _ _ => rfl, rfl⟩
  | succ N ih =>
    intro hN
    obtain ⟨i1, i2, i3⟩ := ih (by omega)
    rw [z_it_snoc]
    generalize z_it (fun (kk9 : Nat) (T9 : z_S) => rg_M_answer_74i_S1 T9 (nI p) (nI a) (nI m) kk9) 0 N D = R at i1 i2 i3 ⊢
    have e : rg_M_answer_74i_S1 R (nI p) (nI a) (nI m) (0 + N) = z_sI R 39 0 (8 * m + N) (D.1 22 0 (384 * a + 4 * (16 * d + (q + 8 * (N / 4))) + N % 4)) := by
      unfold rg_M_answer_74i_S1
      rw [Nat.zero_add, z_bAt hp ha hd hq (by omega) (by rw [i2 27 (by decide)]; exact f1) (by rw [i2 28 (by decide)]; exact f2), i2 22 (by decide)]
      show z_sI R 39 0 ((nI 8 * nI m + nI N).toNatClampNeg) _ = _
      rw [pk_mul, nI_add, nI_clamp (by omega)]
    show (∀ i, (rg_M_answer_74i_S1 R (nI p) (nI a) (nI m) (0 + N)).1 39 0 i = _) ∧ (∀ b, b ≠ 39 → (rg_M_answer_74i_S1 R (nI p) (nI a) (nI m) (0 + N)).1 b = _) ∧ (rg_M_answer_74i_S1 R (nI p) (nI a) (nI m) (0 + N)).2 = _
    rw [e]
    refine ⟨fun i => ?_, fun b hb => ?_, by rw [z_rIL]; exact i3⟩
    · rw [z_rI, i1 i]
      by_cases w : i = 8 * m + N
      · rw [if_pos ⟨rfl, rfl, w⟩, if_pos (by omega), show i - 8 * m = N by omega]
      · rw [if_neg (fun z => w z.2.2)]
        by_cases w2 : 8 * m ≤ i ∧ i < 8 * m + N
        · rw [if_pos w2, if_pos (by omega)]
        · rw [if_neg w2, if_neg (by omega)]
    · rw [← i2 b hb]
      funext o
      exact z_sI_ne _ _ _ _ _ (fun w => hb w.1)
theorem z_sumC {T T2 : z_S} (e22 : T2.1 22 = T.1 22) (e23 : T2.1 23 = T.1 23) (a b c : Int32) (v : Int64) : f_M_sum T2 a b c v = f_M_sum T a b c v := by
  unfold f_M_sum f_M_sizeOf f_M_blocksOf
  rw [e22, e23]
/-- an ASK or a FETCH is answered -/
theorem z_ans {n : Nat} {S T : z_S} (h : Rr n S T) {p u m k : Nat} (hp : p < 6) (e : S.1 14 p 0 = nI u) (hu1 : 1 ≤ u) (hu2 : u ≤ 512) (em : S.1 3 0 4 = nI m) (hm : m < 24) (hk : k < 3) {a x : Int32} (hax : (x = 1 ∧ a = 2) ∨ (x = 3 ∧ a = 4)) (v : Int64) (H2 : a = 2 → f_M_sum T (nI k) (S.1 14 p 1) (S.1 14 p 2) (S.2 14 p 3) = v) (H4 : a = 4 → v = f_H_bytesOfPart S k (S.1 14 p 1) (S.1 14 p 2)) : Rr n (g_R_add S a (nI u) (nI k) v) (g_M_answer T (nI p) x (nI k)) := by
  obtain ⟨d, q, b, hd, hq, hqb, hb, e1, e2, b1, b2, f0, f1, f2, f3, esz⟩ := z_pl h hp e hu1 hu2
  have et : T.1 21 0 14 = nI m := by
    obtain ⟨m2, -, w1, w2⟩ := z_mN h
    rw [w2, ← w1]; exact em
  have ea : rg_M_answer_1_t0 x = a := by
    unfold rg_M_answer_1_t0
    rcases hax with ⟨rfl, rfl⟩ | ⟨rfl, rfl⟩
    · exact if_pos rfl
    · exact if_neg (by decide)
  have ecm : f_M_come T = nI m := by
    unfold f_M_come
    rw [et]
    split <;> rfl
  have eC : g_M_come T a (nI u) (nI k) = z_sI (z_sI (z_sI (z_sI T 35 0 m a) 36 0 m (nI u)) 37 0 m (nI k)) 21 0 14 (nI (m + 1)) := by
    unfold g_M_come
    rw [et, if_neg (show ¬ (24 : Int32) ≤ nI m from nI_ge (b := 24) (by omega) (by decide)), nI_clamp (by omega), show nI m + 1 = nI (m + 1) from nI_add m 1]
  have esS : f_M_sum T (nI k) (nI d) (nI q) (S.2 14 p 3) = f_M_sum T (nI k) (S.1 14 p 1) (S.1 14 p 2) (S.2 14 p 3) := by rw [e1, e2]
  unfold g_M_answer
  rw [nI_clamp (show p < 2 ^ 31 by omega), f0, ea, ecm, nI_clamp (show m < 2 ^ 31 by omega), eC]
  have cI : ∀ c, c ≠ 35 → c ≠ 36 → c ≠ 37 → c ≠ 21 → (z_sI (z_sI (z_sI (z_sI T 35 0 m a) 36 0 m (nI u)) 37 0 m (nI k)) 21 0 14 (nI (m + 1))).1 c = T.1 c := by
    intro c w1 w2 w3 w4
    funext o
    rw [z_sI_ne _ _ _ _ _ (fun z => w4 z.1), z_sI_ne _ _ _ _ _ (fun z => w3 z.1), z_sI_ne _ _ _ _ _ (fun z => w2 z.1), z_sI_ne _ _ _ _ _ (fun z => w1 z.1)]
  have cL : (z_sI (z_sI (z_sI (z_sI T 35 0 m a) 36 0 m (nI u)) 37 0 m (nI k)) 21 0 14 (nI (m + 1))).2 = T.2 := rfl
  have c21 : ∀ j, (z_sI (z_sI (z_sI (z_sI T 35 0 m a) 36 0 m (nI u)) 37 0 m (nI k)) 21 0 14 (nI (m + 1))).1 21 0 j = if j = 14 then nI (m + 1) else T.1 21 0 j := by
    intro j
    rw [z_rI]
    by_cases w : j = 14
    · rw [if_pos ⟨rfl, rfl, w⟩, if_pos w]
    · rw [if_neg (fun z => w z.2.2), if_neg w, z_rI, if_neg (by omega), z_rI, if_neg (by omega), z_rI, if_neg (by omega)]
  have c35 : ∀ j, (z_sI (z_sI (z_sI (z_sI T 35 0 m a) 36 0 m (nI u)) 37 0 m (nI k)) 21 0 14 (nI (m + 1))).1 35 0 j = if j = m then a else T.1 35 0 j := by
    intro j
    rw [z_rI, if_neg (by omega), z_rI, if_neg (by omega), z_rI, if_neg (by omega), z_rI]
    by_cases w : j = m
    · rw [if_pos ⟨rfl, rfl, w⟩, if_pos w]
    · rw [if_neg (fun z => w z.2.2), if_neg w]
  have c36 : ∀ j, (z_sI (z_sI (z_sI (z_sI T 35 0 m a) 36 0 m (nI u)) 37 0 m (nI k)) 21 0 14 (nI (m + 1))).1 36 0 j = if j = m then nI u else T.1 36 0 j := by
    intro j
    rw [z_rI, if_neg (by omega), z_rI, if_neg (by omega), z_rI]
    by_cases w : j = m
    · rw [if_pos ⟨rfl, rfl, w⟩, if_pos w]
    · rw [if_neg (fun z => w z.2.2), if_neg w, z_rI, if_neg (by omega)]
  have c37 : ∀ j, (z_sI (z_sI (z_sI (z_sI T 35 0 m a) 36 0 m (nI u)) 37 0 m (nI k)) 21 0 14 (nI (m + 1))).1 37 0 j = if j = m then nI k else T.1 37 0 j := by
    intro j
    rw [z_rI, if_neg (by omega), z_rI]
    by_cases w : j = m
    · rw [if_pos ⟨rfl, rfl, w⟩, if_pos w]
    · rw [if_neg (fun z => w z.2.2), if_neg w, z_rI, if_neg (by omega), z_rI, if_neg (by omega)]
  generalize z_sI (z_sI (z_sI (z_sI T 35 0 m a) 36 0 m (nI u)) 37 0 m (nI k)) 21 0 14 (nI (m + 1)) = C at *
  have C27 : C.1 27 0 p = nI d := by rw [cI 27 (by decide) (by decide) (by decide) (by decide)]; exact f1
  have C28 : C.1 28 0 p = nI q := by rw [cI 28 (by decide) (by decide) (by decide) (by decide)]; exact f2
  have C29 : C.2 29 0 p = S.2 14 p 3 := by rw [cL]; exact f3
  rw [C27, C28, C29, z_sumC (cI 22 (by decide) (by decide) (by decide) (by decide)) (cI 23 (by decide) (by decide) (by decide) (by decide)), esS]
  generalize hV : f_M_sum T (nI k) (S.1 14 p 1) (S.1 14 p 2) (S.2 14 p 3) = V at *
  have dI : (z_sL C 38 0 m V).1 = C.1 := rfl
  have es : f_M_sizeOf (z_sL C 38 0 m V) (nI d) (nI q) = nI (z_sz S p) := by
    rw [z_sizeN hd hq (b := b) (by rw [dI, cI 23 (by decide) (by decide) (by decide) (by decide)]; exact b2) hb, if_pos hqb, esz]
  have hz := z_szle (S := S) (p := p)
  rw [es, nI_clamp (show z_sz S p < 2 ^ 31 by omega)]
  have dL : ∀ j, (z_sL C 38 0 m V).2 38 0 j = if j = m then V else T.2 38 0 j := by
    intro j
    rw [z_rL]
    by_cases w : j = m
    · rw [if_pos ⟨rfl, rfl, w⟩, if_pos w]
    · rw [if_neg (fun z => w z.2.2), if_neg w, cL]
  have dLo : ∀ c, c ≠ 38 → (z_sL C 38 0 m V).2 c = T.2 c := by
    intro c w
    funext o
    rw [z_sL_ne _ _ _ _ _ (fun z => w z.1), cL]
  have L := z_anL (D := z_sL C 38 0 m V) hp hk hm hd hq (by rw [dI]; exact C27) (by rw [dI]; exact C28) (4 * z_sz S p) (by omega)
  generalize z_sL C 38 0 m V = D at *
  obtain ⟨i1, i2, i3⟩ := L
  generalize z_it (fun (kk9 : Nat) (T9 : z_S) => rg_M_answer_74i_S1 T9 (nI p) (nI k) (nI m) kk9) 0 (4 * z_sz S p) D = R at *
  have rI : ∀ c, c ≠ 39 → R.1 c = C.1 c := fun c w => by rw [i2 c w, dI]
  have r39 : ∀ i, R.1 39 0 i = if 8 * m ≤ i ∧ i < 8 * m + 4 * z_sz S p then T.1 22 0 (384 * k + 4 * (16 * d + (q + 8 * ((i - 8 * m) / 4))) + (i - 8 * m) % 4) else T.1 39 0 i := by
    intro i
    rw [i1 i, dI, cI 22 (by decide) (by decide) (by decide) (by decide), cI 39 (by decide) (by decide) (by decide) (by decide)]
  rw [z_addX hm em]
  obtain ⟨xe, xl, xc, x4, x5, x6, x7⟩ := z_addP (S := S) (m := m) a (nI u) (nI k) v _ rfl
  refine z_app h hm em a (nI u) (nI k) v V xe xl xc x4 x5 x6 x7 (fun c hc => ?_) (fun j hj => ?_) (fun c hc1 hc2 => ?_) ?_ (fun j => ?_) (fun j => ?_) (fun j => ?_) (fun j => ?_) (fun j i hj hi => ?_) (vp_in_nI hk (by decide)) (fun c hc hpo hl => ?_)
  · rw [rI c (by omega), cI c (by omega) (by omega) (by omega) (by omega)]
  · rw [rI 21 (by decide), c21, if_neg hj]
  · rw [i3, dLo c hc2]
  · rw [rI 21 (by decide), c21, if_pos rfl]
  · rw [rI 35 (by decide), c35]
  · rw [rI 36 (by decide), c36]
  · rw [rI 37 (by decide), c37]
  · rw [i3, dL]
  · rw [r39, if_neg (by omega)]
  · refine ⟨rfl, rfl, rfl, ⟨u, hu1, ?_, rfl⟩, ?_, H2, fun a4 p2 hp2 w => ?_⟩
    · obtain ⟨⟨w, dd, qq, hw, -, -, w0, -⟩, -⟩ := hpo.2.2.2 p hp
      by_cases z : w < 2 ^ 31
      · rw [e, nI_eq (by omega) z] at w0
        omega
      · omega
    · rcases hax with ⟨-, z⟩ | ⟨-, z⟩
      · exact Or.inr (Or.inl z)
      · exact Or.inr (Or.inr (Or.inr z))
    · have : p2 = p := by
        rcases (hpo.2.2.2 p2 hp2).2.2.2.2.2.2 p hp (w.trans e.symm) with z | z
        · rw [z] at w
          exact absurd w.symm (nI_ne0 (by omega) (by omega))
        · exact z
      subst this
      rw [H4 a4, e1, e2]
      refine ⟨fun q2 j2 hq2 hj2 => ?_, fun z => ?_⟩
      · rw [z_bopH hd hq (by omega)]
        show R.1 39 0 (8 * m + (4 * q2 + j2)) = _
        rw [r39, if_pos (by omega), show 8 * m + (4 * q2 + j2) - 8 * m = 4 * q2 + j2 by omega, show (4 * q2 + j2) / 4 = q2 by omega, show (4 * q2 + j2) % 4 = j2 by omega]
        exact h.2.2.2.1 k _ j2 hk (by omega) hj2
      · rw [z_bopH hd hq (by decide)]
        refine h.2.2.2.2.1 k d (q + 8 * 1) hk hd (by omega) ?_
        rw [b1, nI_toInt (by omega)]
        rw [esz] at z
        by_cases y : b ≤ q + 8
        · omega
        · rw [if_neg y] at z; omega
theorem z_rmF {S : z_S} {k0 N : Nat} : (∀ a, a < 3 ∨ 6 < a → (g_R_remove S k0 N).1 a = S.1 a) := by
  intro a ha
  unfold g_R_remove
  rw [(z_xrm (S := z_sI S 3 0 4 (S.1 3 0 4 - 1)) (k0 := k0) (N - k0)).2.2.2.2.1 a (by omega)]
  funext o
  exact z_sI_ne _ _ _ _ _ (fun w => by omega)
theorem z_leF {T : z_S} {N : Nat} (hN : N < 24) (hc : T.1 21 0 14 = nI (N + 1)) : (∀ a, 21 < a ∧ a < 35 → (g_M_leave T (nI 0) 0 N).1 a = T.1 a) := by
  intro a ha
  obtain ⟨R, e, hM⟩ := z_mlv (T := T) (k0 := 0) (N := N) (by omega) hN hc
  rw [e, ← hM.2.2.2.2.2.1 a (by omega)]
  funext o
  exact z_sI_ne _ _ _ _ _ (fun w => by omega)
theorem sm_step {n : Nat} {S T : z_S} (h : Rr n S T) (hn : n < 512)  : (f_X_step S) = (f_M_step T) ∧ Rr (n + 1) (g_X_step S) (g_M_step T) := by
  have h' := h
  obtain ⟨-, -, -, -, -, ⟨c, hc, hc5, hpo, m, hm, em, et, l3, l4, l5⟩, -⟩ := h
  unfold f_X_step f_M_step g_X_step g_M_step
  rw [em, et]
  by_cases m0 : m = 0
  · subst m0
    have he : nI 0 = (0 : Int32) := rfl
    rw [if_pos he, if_pos he, if_pos he, if_pos he]
    exact ⟨rfl, h'.up⟩
  have mn : ¬ nI m = 0 := nI_ne0 (by omega) (by omega)
  rw [if_neg mn, if_neg mn, if_neg mn, if_neg mn, nI_clamp (show m < 2 ^ 31 by omega)]
  have L : z_Lt c S (S.1 4 0 0) (S.1 5 0 0) (S.1 6 0 0) (S.2 7 0 0) (T.1 35 0 0) (T.1 36 0 0) (T.1 37 0 0) (T.2 38 0 0) (fun i => T.1 39 0 (8 * 0 + i)) := l5 0 (by omega)
  obtain ⟨L1, L2, L3, -, L5, L6, L7⟩ := L
  rw [L1, L2, L3]
  obtain ⟨hR, r38, r39⟩ := z_rmv h' (k0 := 0) (N := m - 1) (by rw [em]; exact congrArg nI (by omega)) (by omega) (by omega)
  have hF := z_rmF (S := S) (k0 := 0) (N := m - 1)
  have hG := z_leF (T := T) (N := m - 1) (by omega) (by rw [et]; exact congrArg nI (by omega))
  obtain ⟨k, hk, ek⟩ := vp_in_of (l3 0 (by decide)) (by decide)
  have em2 : (g_R_remove S 0 (m - 1)).1 3 0 4 = nI (m - 1) := by
    obtain ⟨m2, hm2, w1, w2⟩ := z_mN hR
    unfold g_R_remove
    rw [(z_xrm (S := z_sI S 3 0 4 (S.1 3 0 4 - 1)) (k0 := 0) (m - 1 - 0)).2.2.2.2.1 3 (by decide), z_rI, if_pos ⟨rfl, rfl, rfl⟩, em, show m = (m - 1) + 1 by omega, nI_pred]
    exact congrArg nI (by omega)
  change _ ∧ Rr (n + 1) _ (if f_M_placeOf T (S.1 5 0 0) < 0 then g_M_leave T (nI 0) 0 (m - 1) else if S.1 4 0 0 = 2 then g_M_takeSum (g_M_leave T (nI 0) 0 (m - 1)) (f_M_placeOf T (S.1 5 0 0)) (S.1 6 0 0) ((g_M_leave T (nI 0) 0 (m - 1)).2 38 0 24) else if S.1 4 0 0 = 4 then g_M_takeCopy (g_M_leave T (nI 0) 0 (m - 1)) (f_M_placeOf T (S.1 5 0 0)) (S.1 6 0 0) else if (g_M_leave T (nI 0) 0 (m - 1)).1 24 0 ((S.1 6 0 0).toNatClampNeg) = 0 then g_M_leave T (nI 0) 0 (m - 1) else g_M_answer (g_M_leave T (nI 0) 0 (m - 1)) (f_M_placeOf T (S.1 5 0 0)) (S.1 4 0 0) (S.1 6 0 0))
  rw [r38, ek]
  have F1 : ∀ x : Int32, (if x < 0 then S.1 4 0 0 else if S.1 4 0 0 = 2 then S.1 4 0 0 else if S.1 4 0 0 = 4 then S.1 4 0 0 else if (g_M_leave T 0 0 (m - 1)).1 24 0 ((nI k).toNatClampNeg) = 0 then S.1 4 0 0 else S.1 4 0 0) = S.1 4 0 0 := by
    intro x
    split
    · rfl
    · split
      · rfl
      · split
        · rfl
        · split <;> rfl
  rw [F1]
  rw [nI_clamp (show k < 2 ^ 31 by omega)]
  rcases z_runE h' (S.1 5 0 0) with ⟨r1, r2⟩ | ⟨i, u, hi, hu1, hu2, eu, r0, r1, r2⟩
  · rw [z_opt_n r1, z_opt_n r1, r2, if_pos (by decide)]
    exact ⟨rfl, hR.up⟩
  · rw [z_opt_s r1, z_opt_s r1, r2, if_neg (nI_pos (by omega))]
    refine ⟨rfl, ?_⟩
    have g14 := hF 14 (by decide)
    have g2 := hF 2 (by decide)
    have g24 := hG 24 (by decide)
    have gsz : z_sz (g_R_remove S 0 (m - 1)) i = z_sz S i := z_szc g2 g14 i
    have rr0 : (g_R_remove S 0 (m - 1)).1 14 i 0 = nI u := by rw [g14]; exact r0
    generalize g_R_remove S 0 (m - 1) = S1 at *
    generalize g_M_leave T (nI 0) 0 (m - 1) = T1 at *
    unfold g_X_arrive
    rcases L5 with w | w | w | w
    · rw [w, if_pos rfl, if_neg (by decide), if_neg (by decide)]
      unfold g_X_answerAsk
      rw [nI_clamp (show k < 2 ^ 31 by omega), (hR.2.1 k hk).1]
      by_cases o : T1.1 24 0 k = 0
      · rw [if_pos o, if_pos o]; exact hR.up
      · rw [if_neg o, if_neg o, rr0]
        refine (z_ans hR hi rr0 hu1 hu2 em2 (by omega) hk (Or.inl ⟨rfl, rfl⟩) _ (fun _ => ?_) (fun z => absurd z (by decide))).up
        obtain ⟨d, q, b, hd, hq, hqb, hb, e1, e2, b1, b2, f0, f1, f2, f3, esz⟩ := z_pl hR hi rr0 hu1 hu2
        rw [← (sm_sum hR hn _ _ _ _).1]
        unfold f_X_sum f_X_isHouse f_X_isPart f_X_isDeposit
        rw [e1, e2, nI_clamp (show d < 2 ^ 31 by omega), nI_clamp (show k < 2 ^ 31 by omega), b1]
        rw [if_neg (nI_pos (by omega)), if_neg (show ¬ (3 : Int32) ≤ nI k from nI_ge (b := 3) (by omega) (by decide)), if_neg (show ¬ (1 : Int32) = 0 by decide), if_neg (nI_pos (by omega)), if_neg (show ¬ (8 : Int32) ≤ nI q from nI_ge (b := 8) (by omega) (by decide)), if_neg (show ¬ (1 : Int32) = 0 by decide), if_neg (nI_pos (by omega)), if_neg (show ¬ (6 : Int32) ≤ nI d from nI_ge (b := 6) (by omega) (by decide)), if_neg (show ¬ (1 : Int32) = 0 by decide), if_neg (nI_ne0 (by omega) (by omega))]
    · rw [w, if_neg (by decide), if_pos rfl, if_pos rfl, L6 w]
      exact z_tsum hR hn hi rr0 hu1 hu2 hk _
    · rw [w, if_neg (by decide), if_neg (by decide), if_pos rfl, if_neg (by decide), if_neg (by decide)]
      unfold g_X_answerFetch
      rw [nI_clamp (show k < 2 ^ 31 by omega), (hR.2.1 k hk).1]
      by_cases o : T1.1 24 0 k = 0
      · rw [if_pos o, if_pos o]; exact hR.up
      · rw [if_neg o, if_neg o, rr0]
        exact (z_ans hR hi rr0 hu1 hu2 em2 (by omega) hk (Or.inr ⟨rfl, rfl⟩) _ (fun z => absurd z (by decide)) (fun _ => rfl)).up
    · rw [w, if_neg (by decide), if_neg (by decide), if_neg (by decide), if_pos rfl, if_neg (by decide), if_pos rfl]
      obtain ⟨q1, q2⟩ := L7 w i hi (by rw [r0, eu])
      have hz := z_szle (S := S) (p := i)
      refine z_tcopy hR hn hi rr0 hu1 hu2 hk _ (fun q j hq hj => ?_) (fun z => q2 (by rw [← gsz]; exact z))
      rw [gsz] at hq
      rw [r39 _ (by omega)]
      exact q1 q j hq hj
