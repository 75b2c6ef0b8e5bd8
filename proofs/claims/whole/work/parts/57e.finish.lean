/-- only the rounds change -/
theorem Rr.rounds {n n2 : Nat} {S T S2 T2 : z_S} (h : Rr n S T) (hn : n ≤ n2) (eX1 : ∀ a, a ≠ 10 → a ≠ 11 → S2.1 a = S.1 a) (eX2 : S2.2 = S.2) (eM1 : ∀ a, a ≠ 21 → a ≠ 40 → T2.1 a = T.1 a) (e21 : ∀ j, j ≠ 20 → T2.1 21 0 j = T.1 21 0 j) (eM2 : T2.2 = T.2) (hr : r_ro n2 S2 T2) : Rr n2 S2 T2 := by
  obtain ⟨h1, h2, h3, h4, h5, ⟨c, hc, hc5, hp, hl⟩, h7, h8, -, h10⟩ := h
  have e2 := eX1 2 (by decide) (by decide)
  have e12 := eX1 12 (by decide) (by decide)
  have e13 := eX1 13 (by decide) (by decide)
  have e0 := eX1 0 (by decide) (by decide)
  have e9 := eX1 9 (by decide) (by decide)
  have e14 := eX1 14 (by decide) (by decide)
  have e15 := eX1 15 (by decide) (by decide)
  have e16 := eX1 16 (by decide) (by decide)
  have e18 := eX1 18 (by decide) (by decide)
  have e19 := eX1 19 (by decide) (by decide)
  have e3 := eX1 3 (by decide) (by decide)
  have e4 := eX1 4 (by decide) (by decide)
  have e5 := eX1 5 (by decide) (by decide)
  have e6 := eX1 6 (by decide) (by decide)
  have q3 := e21 3 (by decide)
  have q14 := e21 14 (by decide)
  have q23 := e21 23 (by decide)
  have m22 := eM1 22 (by decide) (by decide)
  have m23 := eM1 23 (by decide) (by decide)
  have m24 := eM1 24 (by decide) (by decide)
  have m25 := eM1 25 (by decide) (by decide)
  have m26 := eM1 26 (by decide) (by decide)
  have m27 := eM1 27 (by decide) (by decide)
  have m28 := eM1 28 (by decide) (by decide)
  have m30 := eM1 30 (by decide) (by decide)
  have m31 := eM1 31 (by decide) (by decide)
  have m32 := eM1 32 (by decide) (by decide)
  have m34 := eM1 34 (by decide) (by decide)
  have m35 := eM1 35 (by decide) (by decide)
  have m36 := eM1 36 (by decide) (by decide)
  have m37 := eM1 37 (by decide) (by decide)
  have m39 := eM1 39 (by decide) (by decide)
  have m41 := eM1 41 (by decide) (by decide)
  refine ⟨?_, ?_, ?_, ?_, ?_, ⟨c, by omega, hc5, ?_, ?_⟩, ?_, ?_, hr, ?_⟩
  · unfold r_bl at h1 ⊢
    rw [e2, m23]; exact h1
  · unfold r_op at h2 ⊢
    rw [e12, m24]; exact h2
  · unfold r_me at h3 ⊢
    rw [e12, m41]; exact h3
  · unfold r_by at h4 ⊢
    rw [e13, m22]; exact h4
  · unfold r_zo at h5 ⊢
    rw [e2, e13]; exact h5
  · unfold r_po at hp ⊢
    rw [e0, e9, e14, eX2, eM2, q3, m25, m26, m27, m28, m30, e2]; exact hp
  · unfold r_le z_sz at hl ⊢
    rw [e3, e4, e5, e6, e14, e2, eX2, eM2, q14, m35, m36, m37, m39]; exact hl
  · unfold r_su at h7 ⊢
    rw [e16, e15, eX2, eM2, m31]; exact h7
  · unfold r_co z_sz at h8 ⊢
    rw [e19, e18, e15, e14, e2, eX2, m32, m34]; exact h8
  · rw [e0, q23]; exact h10
theorem z_zero {B : z_S} : ∀ N : Nat, (∀ k, (z_it (fun (kk9 : Nat) (T9 : z_S) => rg_M_end_105i_S1 T9 kk9) 0 N B).1 40 0 k = if k < N then 0 else B.1 40 0 k) ∧ (∀ a, a ≠ 40 → (z_it (fun (kk9 : Nat) (T9 : z_S) => rg_M_end_105i_S1 T9 kk9) 0 N B).1 a = B.1 a) ∧ (z_it (fun (kk9 : Nat) (T9 : z_S) => rg_M_end_105i_S1 T9 kk9) 0 N B).2 = B.2 := by
  intro N
  induction N with
  | zero => exact ⟨fun k => (if_neg (by omega)).symm, fun _ _ => rfl, rfl⟩
  | succ N ih =>
    rw [z_it_snoc]
    generalize z_it (fun (kk9 : Nat) (T9 : z_S) => rg_M_end_105i_S1 T9 kk9) 0 N B = R at ih ⊢
    obtain ⟨i1, i2, i3⟩ := ih
    have e : rg_M_end_105i_S1 R (0 + N) = z_sI R 40 0 N 0 := by
      unfold rg_M_end_105i_S1
      rw [Nat.zero_add]
    show (∀ k, (rg_M_end_105i_S1 R (0 + N)).1 40 0 k = _) ∧ (∀ a, a ≠ 40 → (rg_M_end_105i_S1 R (0 + N)).1 a = _) ∧ (rg_M_end_105i_S1 R (0 + N)).2 = _
    rw [e]
    refine ⟨fun k => ?_, fun a ha => ?_, by rw [z_rIL]; exact i3⟩
    · rw [z_rI, i1 k]
      by_cases w : k = N
      · rw [if_pos ⟨rfl, rfl, w⟩, if_pos (by omega)]
      · rw [if_neg (fun z => w z.2.2)]
        by_cases w2 : k < N
        · rw [if_pos w2, if_pos (by omega)]
        · rw [if_neg w2, if_neg (by omega)]
    · rw [← i2 a ha]
      funext o
      exact z_sI_ne _ _ _ _ _ (fun w => ha w.1)
theorem z_cntU {f g : Nat → Int32} {k : Nat} (h : ∀ j, g j = if j = k then 1 else f j) (h0 : f k = 0) : ∀ n : Nat, z_cnt g n = z_cnt f n + (if k < n then 1 else 0)
  | 0 => by rw [if_neg (by omega)]; rfl
  | n + 1 => by
    show z_cnt g n + z_bit (g n) = z_cnt f n + z_bit (f n) + _
    rw [z_cntU h h0 n, h n]
    by_cases w : n = k
    · subst w
      rw [if_neg (by omega), if_pos rfl, if_pos (by omega), h0]
      rfl
    · rw [if_neg w]
      by_cases w2 : k < n
      · rw [if_pos w2, if_pos (by omega)]; omega
      · rw [if_neg w2, if_neg (by omega)]; omega
/-- the part is done in the round, on both sides, and the round ends if all are -/
theorem z_rnd {n : Nat} {S T : z_S} (h : Rr n S T) (hn : n < 512) {d q : Nat} (hd : d < 6) (hq : q < 8) (hqb : (q : Int) < (S.1 2 0 d).toInt) (st : Int32) : Rr (n + 1) (g_D_endIfAllDone (g_D_finishPart S (nI d) (nI q) st) (f_X_parts (g_D_finishPart S (nI d) (nI q) st))) (if st = T.1 21 0 20 then (if f_M_count (z_sI T 40 0 (8 * d + q) 1) 0 ≤ f_M_count (z_sI T 40 0 (8 * d + q) 1) 1 then z_it (fun (kk9 : Nat) (T9 : z_S) => rg_M_end_105i_S1 T9 kk9) 0 48 (z_sI (z_sI T 40 0 (8 * d + q) 1) 21 0 20 (T.1 21 0 20 + 1)) else z_sI T 40 0 (8 * d + q) 1) else T) := by
  have h' := h
  obtain ⟨b, hb⟩ := z_blF h
  obtain ⟨-, -, -, -, -, -, -, -, ⟨r, r1, r2, r3, r4, r5, r6, r7⟩, -⟩ := h
  have np48 : z_np b ≤ 48 := by unfold z_np; omega
  have pS : f_X_parts S = nI (z_np b) := z_partsN (fun e he => ⟨(hb e he).1, (hb e he).2.1⟩)
  have hlt : z_cnt (T.1 40 0) 48 < z_np b := by
    rcases r6 with w | w
    · rw [w d hd] at hqb
      have w0 : (0 : Int32).toInt = 0 := by decide
      omega
    · rw [pS, nI_toInt (by omega)] at w
      omega
  have hqb2 : q < b d := by
    rw [(hb d hd).1, nI_toInt (by have := (hb d hd).2.1; omega)] at hqb
    omega
  have hk8 : (8 * d + q) / 8 = d := by omega
  have hkm : (8 * d + q) % 8 = q := by omega
  have hk48 : 8 * d + q < 48 := by omega
  have same : g_D_endIfAllDone S (f_X_parts S) = S := by
    unfold g_D_endIfAllDone
    rw [r5, pS, if_neg]
    intro w
    rw [nI_eq (by omega) (by omega)] at w
    omega
  unfold g_D_finishPart
  have ek : (nI d * 8 + nI q).toNatClampNeg = 8 * d + q := by
    show (nI d * nI 8 + nI q).toNatClampNeg = _
    rw [pk_mul, nI_add, nI_clamp (by omega)]
    omega
  rw [ek, r2, r3]
  generalize hk : 8 * d + q = k at *
  by_cases c1 : ¬ st = nI r
  · rw [if_neg c1, if_neg c1, same]
    exact h'.up
  have c1 := Classical.not_not.mp c1
  rw [if_pos c1, if_pos c1]
  have hbT : ∀ e, e < 6 → (z_sI T 40 0 k 1).1 23 0 e = nI (b e) ∧ b e ≤ 16 := fun e he => ⟨(hb e he).2.2, (hb e he).2.1⟩
  have g40 : ∀ j, (z_sI T 40 0 k 1).1 40 0 j = if j = k then 1 else T.1 40 0 j := by
    intro j
    rw [z_rI]
    by_cases w : j = k
    · rw [if_pos ⟨rfl, rfl, w⟩, if_pos w]
    · rw [if_neg (fun z => w z.2.2), if_neg w]
  have hd40 : ∀ j, j < 48 → z_b01 ((z_sI T 40 0 k 1).1 40 0 j) ∧ ((z_sI T 40 0 k 1).1 40 0 j = 1 → j % 8 < b (j / 8)) := by
    intro j hj
    rw [g40 j]
    by_cases w : j = k
    · subst w
      rw [if_pos rfl, hkm, hk8]
      exact ⟨Or.inr rfl, fun _ => hqb2⟩
    · rw [if_neg w]
      refine ⟨(r4 j hj).1, fun z => ?_⟩
      have z2 := (r4 j hj).2.2.2 z
      rw [(hb (j / 8) (by omega)).1, nI_toInt (by have := (hb (j / 8) (by omega)).2.1; omega)] at z2
      omega
  rw [z_cntAll hbT, z_cntDone hbT hd40]
  by_cases c2 : S.1 11 0 k = nI r
  · rw [if_pos c2, same]
    have t1 : T.1 40 0 k = 1 := (r4 k hk48).2.2.1.mp c2
    have e40 : (z_sI T 40 0 k 1).1 = T.1 := by
      funext a o j
      rw [z_rI]
      by_cases w : a = 40 ∧ o = 0 ∧ j = k
      · rw [if_pos w]
        obtain ⟨rfl, rfl, rfl⟩ := w
        exact t1.symm
      · rw [if_neg w]
    have e : z_sI T 40 0 k 1 = T := Prod.ext e40 rfl
    rw [e, if_neg (nI_ge hlt (by omega))]
    exact h'.up
  · have t0 : T.1 40 0 k = 0 := by
      rcases (r4 k hk48).1 with w | w
      · exact w
      · exact absurd ((r4 k hk48).2.2.1.mpr w) c2
    have cu : z_cnt ((z_sI T 40 0 k 1).1 40 0) 48 = z_cnt (T.1 40 0) 48 + 1 := by
      rw [z_cntU g40 t0 48, if_pos hk48]
    rw [if_neg c2, cu, r5, show nI (z_cnt (T.1 40 0) 48) + 1 = nI (z_cnt (T.1 40 0) 48 + 1) from nI_add _ 1, show nI r + 1 = nI (r + 1) from nI_add r 1]
    have pF : f_X_parts (z_sI (z_sI S 11 0 k (nI r)) 10 0 1 (nI (z_cnt (T.1 40 0) 48 + 1))) = nI (z_np b) := pS
    rw [pF]
    unfold g_D_endIfAllDone
    have f1 : (z_sI (z_sI S 11 0 k (nI r)) 10 0 1 (nI (z_cnt (T.1 40 0) 48 + 1))).1 10 0 1 = nI (z_cnt (T.1 40 0) 48 + 1) := by rw [z_rI, if_pos ⟨rfl, rfl, rfl⟩]
    have f0 : (z_sI (z_sI S 11 0 k (nI r)) 10 0 1 (nI (z_cnt (T.1 40 0) 48 + 1))).1 10 0 0 = nI r := by
      rw [z_rI, if_neg (by decide)]; exact r2
    rw [f1, f0, show nI r + 1 = nI (r + 1) from nI_add r 1]
    have s11 : ∀ j, (z_sI (z_sI S 11 0 k (nI r)) 10 0 1 (nI (z_cnt (T.1 40 0) 48 + 1))).1 11 0 j = if j = k then nI r else S.1 11 0 j := by
      intro j
      rw [z_rI, if_neg (by omega), z_rI]
      by_cases w : j = k
      · rw [if_pos ⟨rfl, rfl, w⟩, if_pos w]
      · rw [if_neg (fun z => w z.2.2), if_neg w]
    have x1 : ∀ a, a ≠ 10 → a ≠ 11 → (z_sI (z_sI S 11 0 k (nI r)) 10 0 1 (nI (z_cnt (T.1 40 0) 48 + 1))).1 a = S.1 a := by
      intro a w1 w2
      funext o
      rw [z_sI_ne _ _ _ _ _ (fun z => w1 z.1), z_sI_ne _ _ _ _ _ (fun z => w2 z.1)]
    have x2 : (z_sI (z_sI S 11 0 k (nI r)) 10 0 1 (nI (z_cnt (T.1 40 0) 48 + 1))).2 = S.2 := rfl
    have y1 : ∀ a, a ≠ 40 → (z_sI T 40 0 k 1).1 a = T.1 a := by
      intro a w1
      funext o
      rw [z_sI_ne _ _ _ _ _ (fun z => w1 z.1)]
    have y2 : (z_sI T 40 0 k 1).2 = T.2 := rfl
    generalize z_sI (z_sI S 11 0 k (nI r)) 10 0 1 (nI (z_cnt (T.1 40 0) 48 + 1)) = S2 at *
    generalize z_sI T 40 0 k 1 = T2 at *
    by_cases c3 : z_cnt (T.1 40 0) 48 + 1 = z_np b
    · rw [c3, if_pos rfl, if_pos (nI_le (Nat.le_refl _) (by omega))]
      obtain ⟨z1, z2, z3⟩ := z_zero (B := z_sI T2 21 0 20 (nI (r + 1))) 48
      generalize z_it (fun (kk9 : Nat) (T9 : z_S) => rg_M_end_105i_S1 T9 kk9) 0 48 (z_sI T2 21 0 20 (nI (r + 1))) = T3 at *
      have z0 : ∀ j, j < 48 → T3.1 40 0 j = 0 := fun j hj => by rw [z1 j, if_pos hj]
      refine h'.rounds (by omega) (fun a w1 w2 => ?_) ?_ (fun a w1 w2 => ?_) (fun j hj => ?_) ?_ ⟨r + 1, by omega, ?_, ?_, fun j hj => ?_, ?_, Or.inr ?_, by omega⟩
      · rw [← x1 a w1 w2]
        funext o
        rw [z_sI_ne _ _ _ _ _ (fun z => w1 z.1), z_sI_ne _ _ _ _ _ (fun z => w1 z.1)]
      · exact x2
      · rw [z2 a w2, ← y1 a w2]
        funext o
        exact z_sI_ne _ _ _ _ _ (fun z => w1 z.1)
      · rw [z2 21 (by decide), z_rI, if_neg (fun z => hj z.2.2), y1 21 (by decide)]
      · rw [z3]; exact y2
      · rw [z_rI, if_neg (by decide), z_rI, if_pos ⟨rfl, rfl, rfl⟩]
      · rw [z2 21 (by decide), z_rI, if_pos ⟨rfl, rfl, rfl⟩]
      · rw [z0 j hj]
        have s11j : (z_sI (z_sI S2 10 0 0 (nI (r + 1))) 10 0 1 0).1 11 0 j = if j = k then nI r else S.1 11 0 j := by
          rw [z_rI, if_neg (by omega), z_rI, if_neg (by omega)]; exact s11 j
        rw [s11j]
        obtain ⟨v, hv, e⟩ : ∃ v, v ≤ r ∧ (if j = k then nI r else S.1 11 0 j) = nI v := by
          by_cases w : j = k
          · exact ⟨r, Nat.le_refl _, if_pos w⟩
          · obtain ⟨u, hu, e⟩ := (r4 j hj).2.1
            exact ⟨u, hu, (if_neg w).trans e⟩
        rw [e]
        refine ⟨Or.inl rfl, ⟨v, by omega, rfl⟩, ⟨fun w => ?_, fun w => absurd w (by decide)⟩, fun w => absurd w (by decide)⟩
        rw [nI_eq (by omega) (by omega)] at w
        omega
      · rw [z_rI, if_pos ⟨rfl, rfl, rfl⟩, z_cnt0 z0]; rfl
      · rw [z_cnt0 z0]
        have : f_X_parts (z_sI (z_sI S2 10 0 0 (nI (r + 1))) 10 0 1 0) = nI (z_np b) := pF
        rw [this, nI_toInt (by omega)]
        omega
    · rw [if_neg (fun w => c3 ((nI_eq (by omega) (by omega)).mp w)), if_neg (nI_ge (by omega) (by omega))]
      refine h'.rounds (by omega) x1 x2 (fun a _ w2 => y1 a w2) (fun j hj => by rw [y1 21 (by decide)]) y2 ⟨r, by omega, f0, ?_, fun j hj => ?_, ?_, Or.inr ?_, r7⟩
      · rw [y1 21 (by decide)]; exact r3
      · rw [s11 j, x1 2 (by decide) (by decide)]
        by_cases w : j = k
        · subst w
          rw [g40 j, if_pos rfl, if_pos rfl, hk8, hkm]
          exact ⟨Or.inr rfl, ⟨r, Nat.le_refl _, rfl⟩, ⟨fun _ => rfl, fun _ => rfl⟩, fun _ => hqb⟩
        · rw [g40 j, if_neg w, if_neg w]
          exact r4 j hj
      · rw [f1, cu]
      · rw [cu, pF, nI_toInt (by omega)]
        omega
/-- a poll ends on both sides, the rounds aside -/
theorem z_fin1 {n : Nat} {S T S2 T2 : z_S} (h : Rr n S T) {p u : Nat} (hp : p < 6) (e : S.1 14 p 0 = nI u) {x : Int32}
    (xe : ∀ a, a ≠ 0 → a ≠ 9 → a ≠ 14 → S2.1 a = S.1 a) (xl : S2.2 = S.2) (x9 : ∀ r, S2.1 9 0 r = if r = u then x else S.1 9 0 r) (x06 : S2.1 0 0 6 = S.1 0 0 6) (x14 : ∀ q j, S2.1 14 q j = if q = p ∧ j = 0 then 0 else S.1 14 q j)
    (ye : ∀ a, a ≠ 21 → a ≠ 25 → a ≠ 26 → T2.1 a = T.1 a) (yl : T2.2 = T.2) (y25 : ∀ r, T2.1 25 0 r = if r = u then x else T.1 25 0 r) (y26 : ∀ q, T2.1 26 0 q = if q = p then 0 else T.1 26 0 q) (y21 : ∀ j, j ≠ 23 → T2.1 21 0 j = T.1 21 0 j) (e10 : S2.1 0 0 7 = T2.1 21 0 23) : Rr n S2 T2 := by
  obtain ⟨h1, h2, h3, h4, h5, ⟨c, hc, hc5, hp0, hl⟩, h7, h8, h9, -⟩ := h
  have e2 := xe 2 (by decide) (by decide) (by decide)
  have x141 : ∀ q, S2.1 14 q 1 = S.1 14 q 1 := fun q => by rw [x14, if_neg (by omega)]
  have x142 : ∀ q, S2.1 14 q 2 = S.1 14 q 2 := fun q => by rw [x14, if_neg (by omega)]
  have x144 : ∀ q, S2.1 14 q 4 = S.1 14 q 4 := fun q => by rw [x14, if_neg (by omega)]
  have sz : ∀ q, z_sz S2 q = z_sz S q := fun q => by
    unfold z_sz
    rw [e2, x141 q, x142 q]
  refine ⟨?_, ?_, ?_, ?_, ?_, ⟨c, hc, hc5, ?_, ?_⟩, ?_, ?_, ?_, e10⟩
  · unfold r_bl at h1 ⊢
    rw [e2, ye 23 (by decide) (by decide) (by decide)]; exact h1
  · unfold r_op at h2 ⊢
    rw [xe 12 (by decide) (by decide) (by decide), ye 24 (by decide) (by decide) (by decide)]; exact h2
  · unfold r_me at h3 ⊢
    rw [xe 12 (by decide) (by decide) (by decide), ye 41 (by decide) (by decide) (by decide)]; exact h3
  · unfold r_by at h4 ⊢
    rw [xe 13 (by decide) (by decide) (by decide), ye 22 (by decide) (by decide) (by decide)]; exact h4
  · unfold r_zo at h5 ⊢
    rw [e2, xe 13 (by decide) (by decide) (by decide)]; exact h5
  · refine ⟨x06.trans hp0.1, (y21 3 (by decide)).trans hp0.2.1, fun r hr => ?_, fun q hq => ?_⟩
    · rw [x9 r, y25 r]
      by_cases w : r = u
      · rw [if_pos w, if_pos w]
      · rw [if_neg w, if_neg w]; exact hp0.2.2.1 r hr
    · obtain ⟨⟨v, dd, qq, hv, hdd, hqq, e0, e1, e22, e3⟩, f0, f1, f2, f3, f4, f5⟩ := hp0.2.2.2 q hq
      rw [x141 q, x142 q, x144 q, xl, yl, ye 27 (by decide) (by decide) (by decide), ye 28 (by decide) (by decide) (by decide), ye 30 (by decide) (by decide) (by decide), e2, y26 q]
      by_cases w : q = p
      · subst w
        have z0 : S2.1 14 q 0 = 0 := by rw [x14, if_pos ⟨rfl, rfl⟩]
        rw [z0, if_pos rfl]
        exact ⟨⟨0, dd, qq, by omega, hdd, hqq, rfl, e1, e22, fun z => absurd rfl z⟩, rfl, f1, f2, f3, f4, fun _ _ _ => Or.inl rfl⟩
      · have z0 : S2.1 14 q 0 = S.1 14 q 0 := by rw [x14, if_neg (fun z => w z.1)]
        rw [z0, if_neg w]
        refine ⟨⟨v, dd, qq, hv, hdd, hqq, e0, e1, e22, e3⟩, f0, f1, f2, f3, f4, fun q2 hq2 z => ?_⟩
        rw [x14] at z
        by_cases w2 : q2 = p
        · rw [if_pos ⟨w2, rfl⟩] at z
          exact Or.inl z
        · rw [if_neg (fun y => w2 y.1)] at z
          exact f5 q2 hq2 z
  · obtain ⟨m, hm, l1, l2, l3, l4, l5⟩ := hl
    refine ⟨m, hm, ?_, ?_, ?_, ?_, fun k hk => ?_⟩
    · rw [xe 3 (by decide) (by decide) (by decide)]; exact l1
    · rw [y21 14 (by decide)]; exact l2
    · rw [xe 6 (by decide) (by decide) (by decide)]; exact l3
    · rw [ye 37 (by decide) (by decide) (by decide)]; exact l4
    · have L : z_Lt c S _ _ _ (S.2 7 0 k) _ _ _ (T.2 38 0 k) (fun i => T.1 39 0 (8 * k + i)) := l5 k hk
      have L2 := L.ctx (S2 := S2) (c2 := c) (Nat.le_refl c) (fun q u hq hu hu2 z => by
        rw [x14] at z
        by_cases w : q = p
        · rw [if_pos ⟨w, rfl⟩] at z
          exact absurd z.symm (nI_ne0 (by omega) (by omega))
        · rw [if_neg (fun y => w y.1)] at z
          exact ⟨z, sz q⟩)
      show z_Lt c S2 _ _ _ (S2.2 7 0 k) _ _ _ (T2.2 38 0 k) (fun i => T2.1 39 0 (8 * k + i))
      rw [xe 4 (by decide) (by decide) (by decide), xe 5 (by decide) (by decide) (by decide), xe 6 (by decide) (by decide) (by decide), xl, yl, ye 35 (by decide) (by decide) (by decide), ye 36 (by decide) (by decide) (by decide), ye 37 (by decide) (by decide) (by decide), ye 39 (by decide) (by decide) (by decide)]
      exact L2
  · unfold r_su at h7 ⊢
    rw [xe 16 (by decide) (by decide) (by decide), xe 15 (by decide) (by decide) (by decide), xl, yl, ye 31 (by decide) (by decide) (by decide)]
    exact h7
  · intro q hq
    obtain ⟨k1, k2, k3, k4, k5⟩ := h8 q hq
    rw [xe 19 (by decide) (by decide) (by decide), xe 18 (by decide) (by decide) (by decide), xe 15 (by decide) (by decide) (by decide), xl, ye 32 (by decide) (by decide) (by decide), ye 34 (by decide) (by decide) (by decide), sz q]
    refine ⟨k1, k2, k3, k4, fun w => ?_⟩
    rw [x14] at w
    by_cases w2 : q = p
    · rw [if_pos ⟨w2, rfl⟩] at w
      exact absurd rfl w
    · rw [if_neg (fun y => w2 y.1)] at w
      exact k5 w
  · unfold r_ro f_X_parts at h9 ⊢
    rw [e2, xe 10 (by decide) (by decide) (by decide), xe 11 (by decide) (by decide) (by decide), ye 40 (by decide) (by decide) (by decide), y21 20 (by decide)]
    exact h9
theorem z_fin2 {n : Nat} {S T : z_S} (h : Rr n S T) {p u : Nat} (hp : p < 6) (e : S.1 14 p 0 = nI u) (x : Int32) {A B : Int32} (hA : S.1 0 0 7 = T.1 21 0 23 → A = B) : Rr n (z_sI (z_sI (z_sI S 9 0 u x) 14 p 0 0) 0 0 7 A) (z_sI (z_sI (z_sI T 25 0 u x) 26 0 p 0) 21 0 23 B) := by
  refine z_fin1 h hp e (x := x) (fun a w1 w2 w3 => ?_) rfl (fun r => ?_) ?_ (fun q j => ?_) (fun a w1 w2 w3 => ?_) rfl (fun r => ?_) (fun q => ?_) (fun j hj => ?_) ?_
  · funext o
    rw [z_sI_ne _ _ _ _ _ (fun z => w1 z.1), z_sI_ne _ _ _ _ _ (fun z => w3 z.1), z_sI_ne _ _ _ _ _ (fun z => w2 z.1)]
  · simp [z_rI]
  · simp [z_rI]
  · simp [z_rI]
  · funext o
    rw [z_sI_ne _ _ _ _ _ (fun z => w1 z.1), z_sI_ne _ _ _ _ _ (fun z => w3 z.1), z_sI_ne _ _ _ _ _ (fun z => w2 z.1)]
  · simp [z_rI]
  · simp [z_rI]
  · simp [z_rI, hj]
  · rw [z_rI, if_pos ⟨rfl, rfl, rfl⟩, z_rI, if_pos ⟨rfl, rfl, rfl⟩]
    exact hA h.2.2.2.2.2.2.2.2.2
theorem z_finish {n : Nat} {S T : z_S} (h : Rr n S T) (hn : n < 512) {p u : Nat} (hp : p < 6) (e : S.1 14 p 0 = nI u) (hu1 : 1 ≤ u) (hu2 : u ≤ 512) {x : Int32} (hx : x = 1 ∨ x = 2 ∨ x = 3 ∨ x = 4) : Rr (n + 1) (g_X_finish S p x) (g_M_end T (nI p) x) := by
  have key : ∃ d q : Nat, d < 6 ∧ q < 8 ∧ S.1 14 p 1 = nI d ∧ S.1 14 p 2 = nI q ∧ (q : Int) < (S.1 2 0 d).toInt ∧ T.1 26 0 p = nI u ∧ T.1 27 0 p = nI d ∧ T.1 28 0 p = nI q ∧ T.1 30 0 p = S.1 14 p 4 := by
    obtain ⟨-, -, -, -, -, ⟨c, hc, hc5, hp0, hl⟩, -⟩ := h
    obtain ⟨⟨v, d, q, hv, hd, hq, e0, e1, e2, e3⟩, f0, f1, f2, f3, f4, -⟩ := hp0.2.2.2 p hp
    refine ⟨d, q, hd, hq, e1, e2, e3 ?_, f0.trans e, f1.trans e1, f2.trans e2, f4⟩
    rw [e, nI_eq (by omega) (by omega)] at e0
    omega
  obtain ⟨d, q, hd, hq, e1, e2, hqb, f0, f1, f2, f4⟩ := key
  unfold g_X_finish g_M_end
  rw [nI_clamp (show p < 2 ^ 31 by omega), e, e1, e2, f0, f1, f2, f4, nI_clamp (show u < 2 ^ 31 by omega)]
  have ek : (8 * nI d + nI q).toNatClampNeg = 8 * d + q := by
    show (nI 8 * nI d + nI q).toNatClampNeg = _
    rw [pk_mul, nI_add, nI_clamp (by omega)]
  rw [ek]
  have zS : z_sI (z_sI S 9 0 u x) 14 p 0 0 = z_sI (z_sI (z_sI S 9 0 u x) 14 p 0 0) 0 0 7 (S.1 0 0 7) := by
    refine Prod.ext ?_ rfl
    funext a o j
    rw [z_rI _ 0 0 7]
    by_cases w : a = 0 ∧ o = 0 ∧ j = 7
    · rw [if_pos w]
      obtain ⟨rfl, rfl, rfl⟩ := w
      rfl
    · rw [if_neg w]
  rcases hx with rfl | rfl | rfl | rfl
  · have B := z_fin2 h hp e 1 (A := S.1 0 0 7) (B := T.1 21 0 23 + rg_M_end_24_t0 1) (fun w => by rw [w]; exact (Int32.add_zero _).symm)
    rw [if_neg (by decide), if_pos rfl, if_neg (by decide), zS]
    exact z_rnd B hn hd hq hqb (S.1 14 p 4)
  · have B := z_fin2 h hp e 2 (A := S.1 0 0 7) (B := T.1 21 0 23 + rg_M_end_24_t0 2) (fun w => by rw [w]; exact (Int32.add_zero _).symm)
    rw [if_neg (by decide), if_neg (by decide), if_pos rfl, if_neg (by decide), zS]
    exact z_rnd B hn hd hq hqb (S.1 14 p 4)
  · have B := z_fin2 h hp e 3 (A := S.1 0 0 7 + 1) (B := T.1 21 0 23 + rg_M_end_24_t0 3) (fun w => by rw [w]; rfl)
    rw [if_pos rfl, if_neg (by decide), if_neg (by decide), if_pos (by decide)]
    exact B.up
  · have B := z_fin2 h hp e 4 (A := S.1 0 0 7) (B := T.1 21 0 23 + rg_M_end_24_t0 4) (fun w => by rw [w]; exact (Int32.add_zero _).symm)
    rw [if_neg (by decide), if_neg (by decide), if_neg (by decide), if_pos (by decide), zS]
    exact B.up
theorem sm_giveUp {n : Nat} {S T : z_S} (h : Rr n S T) (hn : n < 512) (x0 : Int32) : (f_X_giveUp S x0) = (f_M_giveUp T x0) ∧ Rr (n + 1) (g_X_giveUp S x0) (g_M_giveUp T x0) := by
  unfold f_X_giveUp f_M_giveUp g_X_giveUp g_M_giveUp
  rcases z_runE h x0 with ⟨r1, r2⟩ | ⟨i, u, hi, hu1, hu2, rfl, r0, r1, r2⟩
  · rw [z_opt_n r1, z_opt_n r1, r2, if_neg (by decide), if_neg (by decide)]
    exact ⟨rfl, h.up⟩
  · rw [z_opt_s r1, z_opt_s r1, r2, if_pos (nI_pos' (by omega)), if_pos (nI_pos' (by omega))]
    exact ⟨rfl, z_finish h hn hi r0 hu1 hu2 (by decide)⟩
