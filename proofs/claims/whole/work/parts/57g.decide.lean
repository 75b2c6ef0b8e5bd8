theorem z_mLoop {T : z_S} {p a s d q k : Nat} (hp : p < 6) (ha : a < 3) (hs : s < 3) (hd : d < 6) (hq : q < 8) (hk : k < 2) (f1 : T.1 27 0 p = nI d) (f2 : T.1 28 0 p = nI q) : ∀ N : Nat, N ≤ 4 → (∀ i, (z_it (fun (kk9 : Nat) (T9 : z_S) => rg_M_mend_6i_S1 T9 (nI p) (nI a) (nI s) kk9) (4 * k) N T).1 22 0 i = if 384 * a + 4 * (16 * d + (q + 8 * k)) ≤ i ∧ i < 384 * a + 4 * (16 * d + (q + 8 * k)) + N then T.1 34 0 (24 * p + 8 * s + (4 * k + (i - (384 * a + 4 * (16 * d + (q + 8 * k)))))) else T.1 22 0 i) ∧ (∀ b, b ≠ 22 → (z_it (fun (kk9 : Nat) (T9 : z_S) => rg_M_mend_6i_S1 T9 (nI p) (nI a) (nI s) kk9) (4 * k) N T).1 b = T.1 b) ∧ (z_it (fun (kk9 : Nat) (T9 : z_S) => rg_M_mend_6i_S1 T9 (nI p) (nI a) (nI s) kk9) (4 * k) N T).2 = T.2 := by
  intro N
  induction N with
  | zero => intro _; exact ⟨fun i => (if_neg (by omega)).symm, fun _ _ => rfl, rfl⟩
  | succ N ih =>
    intro hN
    obtain ⟨i1, i2, i3⟩ := ih (by omega)
    rw [z_it_snoc]
    generalize z_it (fun (kk9 : Nat) (T9 : z_S) => rg_M_mend_6i_S1 T9 (nI p) (nI a) (nI s) kk9) (4 * k) N T = R at i1 i2 i3 ⊢
    have e : rg_M_mend_6i_S1 R (nI p) (nI a) (nI s) (4 * k + N) = z_sI R 22 0 (384 * a + 4 * (16 * d + (q + 8 * k)) + N) (T.1 34 0 (24 * p + 8 * s + (4 * k + N))) := by
      unfold rg_M_mend_6i_S1
      rw [z_bAt hp ha hd hq (by omega) (by rw [i2 27 (by decide)]; exact f1) (by rw [i2 28 (by decide)]; exact f2), z_cAt hp hs (by omega), i2 34 (by decide), show (4 * k + N) / 4 = k by omega, show (4 * k + N) % 4 = N by omega]
    show (∀ i, (rg_M_mend_6i_S1 R (nI p) (nI a) (nI s) (4 * k + N)).1 22 0 i = _) ∧ (∀ b, b ≠ 22 → (rg_M_mend_6i_S1 R (nI p) (nI a) (nI s) (4 * k + N)).1 b = _) ∧ (rg_M_mend_6i_S1 R (nI p) (nI a) (nI s) (4 * k + N)).2 = _
    rw [e]
    refine ⟨fun i => ?_, fun b hb => ?_, by rw [z_rIL]; exact i3⟩
    · rw [z_rI, i1 i]
      by_cases w : i = 384 * a + 4 * (16 * d + (q + 8 * k)) + N
      · rw [if_pos ⟨rfl, rfl, w⟩, if_pos (by omega)]
        exact congrArg _ (by omega)
      · rw [if_neg (fun z => w z.2.2)]
        by_cases w2 : 384 * a + 4 * (16 * d + (q + 8 * k)) ≤ i ∧ i < 384 * a + 4 * (16 * d + (q + 8 * k)) + N
        · rw [if_pos w2, if_pos (by omega)]
        · rw [if_neg w2, if_neg (by omega)]
    · rw [← i2 b hb]
      funext o
      exact z_sI_ne _ _ _ _ _ (fun w => hb w.1)
/-- a block is mended on both sides -/
theorem z_mendS {n : Nat} {S T : z_S} (h : Rr n S T) {p u a s k : Nat} (hp : p < 6) (e : S.1 14 p 0 = nI u) (hu1 : 1 ≤ u) (hu2 : u ≤ 512) (ha : a < 3) (hs : s < 3) (ks : S.1 19 p s = 1) (hk : k < z_sz S p) : Rr n (g_H_mend S a (S.1 14 p 1) (S.1 14 p 2 + nI k * 8) (z_half (S.2 20 p s) k)) (g_M_mend T (nI p) (nI a) (nI s) k) := by
  obtain ⟨d, q, b, hd, hq, hqb, hb, e1, e2, b1, b2, f0, f1, f2, f3, esz⟩ := z_pl h hp e hu1 hu2
  have hz := z_szle (S := S) (p := p)
  have hkb : q + 8 * k < b := by
    rw [esz] at hk
    by_cases y : b ≤ q + 8
    · rw [if_pos y] at hk; omega
    · rw [if_neg y] at hk; omega
  have eX : g_H_mend S a (S.1 14 p 1) (S.1 14 p 2 + nI k * 8) (z_half (S.2 20 p s) k) = z_sI (z_sI S 13 a (16 * d + (q + 8 * k)) (z_half (S.2 20 p s) k)) 12 a 1 (S.1 12 a 1 + 1) := by
    unfold g_H_mend f_H_place
    rw [e1, e2]
    show z_sI (z_sI S 13 a ((nI d * nI 16 + (nI q + nI k * nI 8)).toNatClampNeg) _) 12 a 1 _ = _
    rw [pk_mul, pk_mul, nI_add, nI_add, nI_clamp (by omega), show d * 16 + (q + k * 8) = 16 * d + (q + 8 * k) by omega]
  rw [eX]
  unfold g_M_mend
  obtain ⟨i1, i2, i3⟩ := z_mLoop (T := T) (s := s) hp ha hs hd hq (show k < 2 by omega) f1 f2 4 (Nat.le_refl _)
  generalize z_it (fun (kk9 : Nat) (T9 : z_S) => rg_M_mend_6i_S1 T9 (nI p) (nI a) (nI s) kk9) (4 * k) 4 T = R at i1 i2 i3 ⊢
  rw [nI_clamp (by omega), i2 41 (by decide)]
  obtain ⟨h1, h2, h3, h4, h5, ⟨c, hc, hc5, hp0, hl⟩, h7, h8, h9, h10⟩ := h
  have h8' := h8
  have hcp := (h8 p hp).2.2.2.2 (by rw [e]; exact nI_ne0 (by omega) (by omega)) s hs ks
  have x1 : ∀ c, c ≠ 12 → c ≠ 13 → (z_sI (z_sI S 13 a (16 * d + (q + 8 * k)) (z_half (S.2 20 p s) k)) 12 a 1 (S.1 12 a 1 + 1)).1 c = S.1 c := by
    intro c w1 w2
    funext o
    rw [z_sI_ne _ _ _ _ _ (fun z => w1 z.1), z_sI_ne _ _ _ _ _ (fun z => w2 z.1)]
  have x2 : (z_sI (z_sI S 13 a (16 * d + (q + 8 * k)) (z_half (S.2 20 p s) k)) 12 a 1 (S.1 12 a 1 + 1)).2 = S.2 := rfl
  have x13 : ∀ g w, (z_sI (z_sI S 13 a (16 * d + (q + 8 * k)) (z_half (S.2 20 p s) k)) 12 a 1 (S.1 12 a 1 + 1)).1 13 g w = if g = a ∧ w = 16 * d + (q + 8 * k) then z_half (S.2 20 p s) k else S.1 13 g w := by
    intro g w
    rw [z_rI, if_neg (by omega), z_rI]
    by_cases z : g = a ∧ w = 16 * d + (q + 8 * k)
    · rw [if_pos ⟨rfl, z.1, z.2⟩, if_pos z]
    · rw [if_neg (fun y => z ⟨y.2.1, y.2.2⟩), if_neg z]
  have x12 : ∀ g j, (z_sI (z_sI S 13 a (16 * d + (q + 8 * k)) (z_half (S.2 20 p s) k)) 12 a 1 (S.1 12 a 1 + 1)).1 12 g j = if g = a ∧ j = 1 then S.1 12 a 1 + 1 else S.1 12 g j := by
    intro g j
    rw [z_rI, z_rI]
    by_cases z : g = a ∧ j = 1
    · rw [if_pos ⟨rfl, z.1, z.2⟩, if_pos z]
    · rw [if_neg (fun y => z ⟨y.2.1, y.2.2⟩), if_neg z, if_neg (by omega)]
  have y1 : ∀ c, c ≠ 22 → c ≠ 41 → (z_sI R 41 0 a (T.1 41 0 a + 1)).1 c = T.1 c := by
    intro c w1 w2
    rw [← i2 c w1]
    funext o
    rw [z_sI_ne _ _ _ _ _ (fun z => w2 z.1)]
  have y2 : (z_sI R 41 0 a (T.1 41 0 a + 1)).2 = T.2 := i3
  have y22 : ∀ i, (z_sI R 41 0 a (T.1 41 0 a + 1)).1 22 0 i = R.1 22 0 i := by
    intro i
    rw [z_rI, if_neg (by omega)]
  have y41 : ∀ g, (z_sI R 41 0 a (T.1 41 0 a + 1)).1 41 0 g = if g = a then T.1 41 0 a + 1 else T.1 41 0 g := by
    intro g
    rw [z_rI, i2 41 (by decide)]
    by_cases z : g = a
    · rw [if_pos ⟨rfl, rfl, z⟩, if_pos z]
    · rw [if_neg (fun y => z y.2.2), if_neg z]
  generalize z_sI (z_sI S 13 a (16 * d + (q + 8 * k)) (z_half (S.2 20 p s) k)) 12 a 1 (S.1 12 a 1 + 1) = S2 at x1 x2 x13 x12 ⊢
  generalize z_sI R 41 0 a (T.1 41 0 a + 1) = T2 at y1 y2 y22 y41 ⊢
  have X2 := x1 2 (by decide) (by decide)
  refine ⟨?_, fun g hg => ?_, fun g hg => ?_, fun g w j hg hw hj => ?_, fun g dd qq hg hdd hqq hz2 => ?_, ⟨c, hc, hc5, ?_, ?_⟩, ?_, ?_, ?_, ?_⟩
  · unfold r_bl at h1 ⊢
    rw [X2, y1 23 (by decide) (by decide)]; exact h1
  · rw [x12 g 0, if_neg (by omega), y1 24 (by decide) (by decide)]; exact h2 g hg
  · rw [x12 g 1, y41 g]
    by_cases z : g = a
    · rw [if_pos ⟨z, rfl⟩, if_pos z, h3 a ha]
    · rw [if_neg (fun y => z y.1), if_neg z]; exact h3 g hg
  · rw [y22, i1, x13 g w]
    by_cases z : g = a ∧ w = 16 * d + (q + 8 * k)
    · obtain ⟨rfl, rfl⟩ := z
      rw [if_pos (by omega), if_pos ⟨rfl, rfl⟩, ← hcp.1 k j hk hj]
      exact congrArg _ (by omega)
    · rw [if_neg (by omega), if_neg z]
      exact h4 g w j hg hw hj
  · rw [X2] at hz2
    rw [x13, if_neg]
    · exact h5 g dd qq hg hdd hqq hz2
    · rintro ⟨-, z⟩
      have : dd = d := by omega
      subst this
      rw [b1, nI_toInt (by omega)] at hz2
      omega
  · unfold r_po at hp0 ⊢
    rw [x1 0 (by decide) (by decide), x1 9 (by decide) (by decide), x1 14 (by decide) (by decide), x2, y2, y1 21 (by decide) (by decide), y1 25 (by decide) (by decide), y1 26 (by decide) (by decide), y1 27 (by decide) (by decide), y1 28 (by decide) (by decide), y1 30 (by decide) (by decide), X2]; exact hp0
  · unfold r_le z_sz at hl ⊢
    rw [x1 3 (by decide) (by decide), x1 4 (by decide) (by decide), x1 5 (by decide) (by decide), x1 6 (by decide) (by decide), x1 14 (by decide) (by decide), X2, x2, y2, y1 21 (by decide) (by decide), y1 35 (by decide) (by decide), y1 36 (by decide) (by decide), y1 37 (by decide) (by decide), y1 39 (by decide) (by decide)]; exact hl
  · unfold r_su at h7 ⊢
    rw [x1 16 (by decide) (by decide), x1 15 (by decide) (by decide), x2, y2, y1 31 (by decide) (by decide)]; exact h7
  · unfold r_co z_sz at h8' ⊢
    rw [x1 19 (by decide) (by decide), x1 18 (by decide) (by decide), x1 15 (by decide) (by decide), x1 14 (by decide) (by decide), X2, x2, y1 32 (by decide) (by decide), y1 34 (by decide) (by decide)]; exact h8'
  · unfold r_ro f_X_parts at h9 ⊢
    rw [X2, x1 10 (by decide) (by decide), x1 11 (by decide) (by decide), y1 40 (by decide) (by decide), y1 21 (by decide) (by decide)]; exact h9
  · rw [x1 0 (by decide) (by decide), y1 21 (by decide) (by decide)]; exact h10
theorem z_mendF {S : z_S} {a : Nat} {x y w : Int32} : (∀ c, c ≠ 12 → c ≠ 13 → (g_H_mend S a x y w).1 c = S.1 c) ∧ (g_H_mend S a x y w).2 = S.2 := by
  unfold g_H_mend
  refine ⟨fun c w1 w2 => ?_, rfl⟩
  funext o
  rw [z_sI_ne _ _ _ _ _ (fun z => w1 z.1), z_sI_ne _ _ _ _ _ (fun z => w2 z.1)]
theorem z_cb {S : z_S} {p a k : Nat} (ha : a < 3) : f_P_copiedBlock S p (nI a) (nI k) = z_half (S.2 20 p a) k := by
  unfold f_P_copiedBlock z_half
  rw [nI_clamp (by omega)]
theorem z_mb0 {S : z_S} {p k : Nat} : rg_X_mendBlock_7_S1 S p (nI k) 0 = if z_half (S.2 20 p 0) k = z_half (S.2 20 p 1) k then S else if z_half (S.2 20 p 1) k = z_half (S.2 20 p 2) k then g_H_mend S 0 (S.1 14 p 1) (S.1 14 p 2 + nI k * 8) (z_half (S.2 20 p 1) k) else S := by
  unfold rg_X_mendBlock_7_S1
  have w1 : ((0 : Int32) + 1) - (0 + 1) / 3 * 3 = nI 1 := by decide
  have w2 : ((0 : Int32) + 2) - (0 + 2) / 3 * 3 = nI 2 := by decide
  rw [w1, w2, z_cb (by decide), z_cb (by decide), show f_P_copiedBlock S p 0 (nI k) = z_half (S.2 20 p 0) k from z_cb (a := 0) (by decide)]
  rfl
theorem z_mb1 {S : z_S} {p k : Nat} : rg_X_mendBlock_7_S1 S p (nI k) 1 = if z_half (S.2 20 p 1) k = z_half (S.2 20 p 2) k then S else if z_half (S.2 20 p 2) k = z_half (S.2 20 p 0) k then g_H_mend S 1 (S.1 14 p 1) (S.1 14 p 2 + nI k * 8) (z_half (S.2 20 p 2) k) else S := by
  unfold rg_X_mendBlock_7_S1
  have w1 : ((1 : Int32) + 1) - (1 + 1) / 3 * 3 = nI 2 := by decide
  have w2 : ((1 : Int32) + 2) - (1 + 2) / 3 * 3 = nI 0 := by decide
  rw [w1, w2, z_cb (by decide), z_cb (by decide), show f_P_copiedBlock S p 1 (nI k) = z_half (S.2 20 p 1) k from z_cb (a := 1) (by decide)]
  rfl
theorem z_mb2 {S : z_S} {p k : Nat} : rg_X_mendBlock_7_S1 S p (nI k) 2 = if z_half (S.2 20 p 2) k = z_half (S.2 20 p 0) k then S else if z_half (S.2 20 p 0) k = z_half (S.2 20 p 1) k then g_H_mend S 2 (S.1 14 p 1) (S.1 14 p 2 + nI k * 8) (z_half (S.2 20 p 0) k) else S := by
  unfold rg_X_mendBlock_7_S1
  have w1 : ((2 : Int32) + 1) - (2 + 1) / 3 * 3 = nI 0 := by decide
  have w2 : ((2 : Int32) + 2) - (2 + 2) / 3 * 3 = nI 1 := by decide
  rw [w1, w2, z_cb (by decide), z_cb (by decide), show f_P_copiedBlock S p 2 (nI k) = z_half (S.2 20 p 2) k from z_cb (a := 2) (by decide)]
  rfl
/-- three alike: nothing -/
theorem z_mbN {S : z_S} {p k : Nat} (h01 : z_half (S.2 20 p 0) k = z_half (S.2 20 p 1) k) (h12 : z_half (S.2 20 p 1) k = z_half (S.2 20 p 2) k) : g_X_mendBlock S p (nI k) = S := by
  unfold g_X_mendBlock
  rw [z_mb0, if_pos h01, z_mb1, if_pos h12, z_mb2, if_pos (h01.trans h12).symm]
theorem z_mb {n : Nat} {S T : z_S} (h : Rr n S T) {p u k : Nat} (hp : p < 6) (e : S.1 14 p 0 = nI u) (hu1 : 1 ≤ u) (hu2 : u ≤ 512) (ks : ∀ s, s < 3 → S.1 19 p s = 1) (hk : k < z_sz S p) (hnd : ¬ (¬ z_half (S.2 20 p 0) k = z_half (S.2 20 p 1) k ∧ ¬ z_half (S.2 20 p 1) k = z_half (S.2 20 p 2) k ∧ ¬ z_half (S.2 20 p 0) k = z_half (S.2 20 p 2) k)) : Rr n (g_X_mendBlock S p (nI k)) (rg_M_decide_149_S1 T (nI p) k) ∧ (∀ c, c ≠ 12 → c ≠ 13 → (g_X_mendBlock S p (nI k)).1 c = S.1 c) ∧ (g_X_mendBlock S p (nI k)).2 = S.2 := by
  have e0 : S.1 14 p 0 ≠ 0 := by rw [e]; exact nI_ne0 (by omega) (by omega)
  have a01 : f_M_alike T (nI p) 0 1 k = 0 ↔ ¬ z_half (S.2 20 p 0) k = z_half (S.2 20 p 1) k := z_alikeE h (a := 0) (b := 1) hp e0 (by decide) (by decide) (ks 0 (by decide)) (ks 1 (by decide)) hk
  have a02 : f_M_alike T (nI p) 0 2 k = 0 ↔ ¬ z_half (S.2 20 p 0) k = z_half (S.2 20 p 2) k := z_alikeE h (a := 0) (b := 2) hp e0 (by decide) (by decide) (ks 0 (by decide)) (ks 2 (by decide)) hk
  unfold rg_M_decide_149_S1
  by_cases c01 : z_half (S.2 20 p 0) k = z_half (S.2 20 p 1) k
  · rw [if_neg (fun z => (a01.mp z) c01)]
    by_cases c02 : z_half (S.2 20 p 0) k = z_half (S.2 20 p 2) k
    · rw [if_neg (fun z => (a02.mp z) c02), z_mbN c01 (c01.symm.trans c02)]
      exact ⟨h, fun _ _ _ => rfl, rfl⟩
    · rw [if_pos (a02.mpr c02)]
      have eq : g_X_mendBlock S p (nI k) = g_H_mend S 2 (S.1 14 p 1) (S.1 14 p 2 + nI k * 8) (z_half (S.2 20 p 0) k) := by
        unfold g_X_mendBlock
        rw [z_mb0, if_pos c01, z_mb1, if_neg (fun z => c02 (c01.trans z)), if_neg (fun z => c02 z.symm), z_mb2, if_neg (fun z => c02 z.symm), if_pos c01]
      rw [eq]
      exact ⟨z_mendS h (a := 2) (s := 0) hp e hu1 hu2 (by decide) (by decide) (ks 0 (by decide)) hk, z_mendF.1, z_mendF.2⟩
  · rw [if_pos (a01.mpr c01)]
    by_cases c02 : z_half (S.2 20 p 0) k = z_half (S.2 20 p 2) k
    · rw [if_neg (fun z => (a02.mp z) c02)]
      have n12 : ¬ z_half (S.2 20 p 1) k = z_half (S.2 20 p 2) k := fun z => c01 (c02.trans z.symm)
      have eq : g_X_mendBlock S p (nI k) = g_H_mend S 1 (S.1 14 p 1) (S.1 14 p 2 + nI k * 8) (z_half (S.2 20 p 0) k) := by
        unfold g_X_mendBlock
        rw [z_mb0, if_neg c01, if_neg n12, z_mb1, if_neg n12, if_pos c02.symm, ← c02]
        have F := z_mendF (S := S) (a := 1) (x := S.1 14 p 1) (y := S.1 14 p 2 + nI k * 8) (w := z_half (S.2 20 p 0) k)
        generalize g_H_mend S 1 (S.1 14 p 1) (S.1 14 p 2 + nI k * 8) (z_half (S.2 20 p 0) k) = S2 at F ⊢
        rw [z_mb2, F.2, if_pos c02.symm]
      rw [eq]
      exact ⟨z_mendS h (a := 1) (s := 0) hp e hu1 hu2 (by decide) (by decide) (ks 0 (by decide)) hk, z_mendF.1, z_mendF.2⟩
    · rw [if_pos (a02.mpr c02)]
      have c12 : z_half (S.2 20 p 1) k = z_half (S.2 20 p 2) k := Classical.byContradiction (fun z => hnd ⟨c01, z, c02⟩)
      have eq : g_X_mendBlock S p (nI k) = g_H_mend S 0 (S.1 14 p 1) (S.1 14 p 2 + nI k * 8) (z_half (S.2 20 p 1) k) := by
        unfold g_X_mendBlock
        rw [z_mb0, if_neg c01, if_pos c12]
        have F := z_mendF (S := S) (a := 0) (x := S.1 14 p 1) (y := S.1 14 p 2 + nI k * 8) (w := z_half (S.2 20 p 1) k)
        generalize g_H_mend S 0 (S.1 14 p 1) (S.1 14 p 2 + nI k * 8) (z_half (S.2 20 p 1) k) = S2 at F ⊢
        rw [z_mb1, F.2, if_pos c12, z_mb2, F.2, if_neg (fun z => c02 z.symm), if_neg c01]
      rw [eq]
      exact ⟨z_mendS h (a := 0) (s := 1) hp e hu1 hu2 (by decide) (by decide) (ks 1 (by decide)) hk, z_mendF.1, z_mendF.2⟩
/-- all three differ in a block -/
def z_dif (S : z_S) (p k : Nat) : Prop := ¬ z_half (S.2 20 p 0) k = z_half (S.2 20 p 1) k ∧ ¬ z_half (S.2 20 p 1) k = z_half (S.2 20 p 2) k ∧ ¬ z_half (S.2 20 p 0) k = z_half (S.2 20 p 2) k
theorem z_difX {S : z_S} {p k : Nat} : f_P_copiesAllDiffer S p (nI k) = 0 ↔ ¬ z_dif S p k := by
  unfold f_P_copiesAllDiffer z_dif
  rw [show f_P_copiedBlock S p 0 (nI k) = z_half (S.2 20 p 0) k from z_cb (a := 0) (by decide), show f_P_copiedBlock S p 1 (nI k) = z_half (S.2 20 p 1) k from z_cb (a := 1) (by decide), show f_P_copiedBlock S p 2 (nI k) = z_half (S.2 20 p 2) k from z_cb (a := 2) (by decide)]
  by_cases c01 : z_half (S.2 20 p 0) k = z_half (S.2 20 p 1) k
  · rw [if_pos c01]; exact ⟨fun _ z => z.1 c01, fun _ => rfl⟩
  · rw [if_neg c01]
    by_cases c12 : z_half (S.2 20 p 1) k = z_half (S.2 20 p 2) k
    · rw [if_pos c12]; exact ⟨fun _ z => z.2.1 c12, fun _ => rfl⟩
    · rw [if_neg c12]
      by_cases c02 : z_half (S.2 20 p 0) k = z_half (S.2 20 p 2) k
      · rw [if_pos c02]; exact ⟨fun _ z => z.2.2 c02, fun _ => rfl⟩
      · rw [if_neg c02]; exact ⟨fun z => absurd z (by decide), fun z => absurd ⟨c01, c12, c02⟩ z⟩
theorem z_difM {n : Nat} {S T : z_S} (h : Rr n S T) {p k : Nat} (hp : p < 6) (e0 : S.1 14 p 0 ≠ 0) (ks : ∀ s, s < 3 → S.1 19 p s = 1) (hk : k < z_sz S p) (v : Int32) : rg_M_decide_28_t0 T (nI p) v k = 0 ↔ v = 0 ∧ ¬ z_dif S p k := by
  have a01 : f_M_alike T (nI p) 0 1 k = 0 ↔ ¬ z_half (S.2 20 p 0) k = z_half (S.2 20 p 1) k := z_alikeE h (a := 0) (b := 1) hp e0 (by decide) (by decide) (ks 0 (by decide)) (ks 1 (by decide)) hk
  have a02 : f_M_alike T (nI p) 0 2 k = 0 ↔ ¬ z_half (S.2 20 p 0) k = z_half (S.2 20 p 2) k := z_alikeE h (a := 0) (b := 2) hp e0 (by decide) (by decide) (ks 0 (by decide)) (ks 2 (by decide)) hk
  have a12 : f_M_alike T (nI p) 1 2 k = 0 ↔ ¬ z_half (S.2 20 p 1) k = z_half (S.2 20 p 2) k := z_alikeE h (a := 1) (b := 2) hp e0 (by decide) (by decide) (ks 1 (by decide)) (ks 2 (by decide)) hk
  unfold rg_M_decide_28_t0 z_dif
  by_cases v0 : v = 0
  · rw [if_pos v0]
    by_cases c01 : f_M_alike T (nI p) 0 1 k = 0
    · rw [if_pos c01]
      by_cases c02 : f_M_alike T (nI p) 0 2 k = 0
      · rw [if_pos c02]
        by_cases c12 : f_M_alike T (nI p) 1 2 k = 0
        · rw [if_pos c12]; exact ⟨fun z => absurd z (by decide), fun z => absurd ⟨a01.mp c01, a12.mp c12, a02.mp c02⟩ z.2⟩
        · rw [if_neg c12]; exact ⟨fun _ => ⟨v0, fun z => c12 (a12.mpr z.2.1)⟩, fun _ => rfl⟩
      · rw [if_neg c02]; exact ⟨fun _ => ⟨v0, fun z => c02 (a02.mpr z.2.2)⟩, fun _ => rfl⟩
    · rw [if_neg c01]; exact ⟨fun _ => ⟨v0, fun z => c01 (a01.mpr z.1)⟩, fun _ => rfl⟩
  · rw [if_neg v0]; exact ⟨fun z => absurd z (by decide), fun z => absurd z.1 v0⟩
theorem z_b92 {T : z_S} {v1 v4 : Int32} {q sz : Nat} : rg_M_decide_92_t0 T v1 v4 q sz = 0 ↔ ¬ (¬ v4 = 0 ∧ ¬ T.1 24 0 q = 0 ∧ ¬ f_M_isAsCopied T v1 (nI q) (4 * sz) = 0) := by
  unfold rg_M_decide_92_t0
  by_cases a : v4 = 0
  · rw [if_pos a]; exact ⟨fun _ z => z.1 a, fun _ => rfl⟩
  · rw [if_neg a]
    by_cases b : T.1 24 0 q = 0
    · rw [if_pos b]; exact ⟨fun _ z => z.2.1 b, fun _ => rfl⟩
    · rw [if_neg b]
      by_cases c : f_M_isAsCopied T v1 (nI q) (4 * sz) = 0
      · rw [if_pos c]; exact ⟨fun _ z => z.2.2 c, fun _ => rfl⟩
      · rw [if_neg c]; exact ⟨fun z => absurd z (by decide), fun z => absurd ⟨a, b, c⟩ z⟩
theorem z_u4 {n : Nat} {S T : z_S} (h : Rr n S T) {p u : Nat} (hp : p < 6) (e : S.1 14 p 0 = nI u) (hu1 : 1 ≤ u) (hu2 : u ≤ 512) (ks : ∀ s, s < 3 → S.1 19 p s = 1) : rg_M_decide_80_u4 T (nI p) (z_sz S p) = 0 ↔ ¬ (¬ f_X_allHousesOpen S = 0 ∧ ¬ f_X_areCopiesCurrent S p = 0) := by
  have c0 := z_asC h (a := 0) hp e hu1 hu2 (by decide) (ks 0 (by decide))
  have c1 := z_asC h (a := 1) hp e hu1 hu2 (by decide) (ks 1 (by decide))
  have c2 := z_asC h (a := 2) hp e hu1 hu2 (by decide) (ks 2 (by decide))
  have o0 := (h.2.1 0 (by decide)).1
  have o1 := (h.2.1 1 (by decide)).1
  have o2 := (h.2.1 2 (by decide)).1
  have X1 : ¬ f_X_allHousesOpen S = 0 ↔ ¬ T.1 24 0 0 = 0 ∧ ¬ T.1 24 0 1 = 0 ∧ ¬ T.1 24 0 2 = 0 := by
    unfold f_X_allHousesOpen
    rw [o0, o1, o2]
    by_cases a : T.1 24 0 0 = 0
    · rw [if_pos a]; exact ⟨fun z => absurd rfl z, fun z => absurd a z.1⟩
    · rw [if_neg a]
      by_cases b : T.1 24 0 1 = 0
      · rw [if_pos b]; exact ⟨fun z => absurd rfl z, fun z => absurd b z.2.1⟩
      · rw [if_neg b]
        by_cases c : T.1 24 0 2 = 0
        · rw [if_pos c]; exact ⟨fun z => absurd rfl z, fun z => absurd c z.2.2⟩
        · rw [if_neg c]; exact ⟨fun _ => ⟨a, b, c⟩, fun _ => by decide⟩
  have X2 : ¬ f_X_areCopiesCurrent S p = 0 ↔ f_H_bytesOfPart S 0 (S.1 14 p 1) (S.1 14 p 2) = S.2 20 p 0 ∧ f_H_bytesOfPart S 1 (S.1 14 p 1) (S.1 14 p 2) = S.2 20 p 1 ∧ f_H_bytesOfPart S 2 (S.1 14 p 1) (S.1 14 p 2) = S.2 20 p 2 := by
    unfold f_X_areCopiesCurrent
    by_cases a : f_H_bytesOfPart S 0 (S.1 14 p 1) (S.1 14 p 2) = S.2 20 p 0
    · rw [if_pos ((lg_cmp_eq _ _).mpr a)]
      by_cases b : f_H_bytesOfPart S 1 (S.1 14 p 1) (S.1 14 p 2) = S.2 20 p 1
      · rw [if_pos ((lg_cmp_eq _ _).mpr b)]
        by_cases c : f_H_bytesOfPart S 2 (S.1 14 p 1) (S.1 14 p 2) = S.2 20 p 2
        · rw [if_pos ((lg_cmp_eq _ _).mpr c)]; exact ⟨fun _ => ⟨a, b, c⟩, fun _ => by decide⟩
        · rw [if_neg (fun z => c ((lg_cmp_eq _ _).mp z))]; exact ⟨fun z => absurd rfl z, fun z => absurd z.2.2 c⟩
      · rw [if_neg (fun z => b ((lg_cmp_eq _ _).mp z))]; exact ⟨fun z => absurd rfl z, fun z => absurd z.2.1 b⟩
    · rw [if_neg (fun z => a ((lg_cmp_eq _ _).mp z))]; exact ⟨fun z => absurd rfl z, fun z => absurd z.1 a⟩
  unfold rg_M_decide_80_u4
  rw [X1, X2, z_b92, z_b92, z_b92, c0, c1, c2, Classical.not_not, Classical.not_not, Classical.not_not, Classical.not_not, Classical.not_not]
  constructor
  · rintro z ⟨⟨a1, a2, a3⟩, b1, b2, b3⟩
    exact z ⟨⟨⟨by decide, a1, b1⟩, a2, b2⟩, a3, b3⟩
  · rintro z ⟨⟨⟨-, a1, b1⟩, a2, b2⟩, a3, b3⟩
    exact z ⟨⟨a1, a2, a3⟩, b1, b2, b3⟩
theorem z_decide {n : Nat} {S T : z_S} (h : Rr n S T) (hn : n < 512) {p u : Nat} (hp : p < 6) (e : S.1 14 p 0 = nI u) (hu1 : 1 ≤ u) (hu2 : u ≤ 512) (ks : ∀ s, s < 3 → S.1 19 p s = 1) : Rr (n + 1) (g_X_finish (g_X_decide S p) p (f_X_decide S p)) (g_M_decide T (nI p)) := by
  obtain ⟨d, q, b, hd, hq, hqb, hb, e1, e2, b1, b2, f0, f1, f2, f3, esz⟩ := z_pl h hp e hu1 hu2
  have e0 : S.1 14 p 0 ≠ 0 := by rw [e]; exact nI_ne0 (by omega) (by omega)
  have es : f_M_sizeOf T (nI d) (nI q) = nI (z_sz S p) := by
    rw [z_sizeN hd hq b2 hb, if_pos hqb, esz]
  have hz := z_szle (S := S) (p := p)
  have hz1 := z_szge (S := S) (p := p)
  have flat : z_sz S p = 1 → ∀ a, a < 3 → z_half (S.2 20 p a) 1 = 0 := fun z a ha => ((h.2.2.2.2.2.2.2.1 p hp).2.2.2.2 e0 a ha (ks a ha)).2 z
  have nd1 : z_sz S p = 1 → ¬ z_dif S p 1 := fun z y => y.1 (by rw [flat z 0 (by decide), flat z 1 (by decide)])
  have u3 : rg_M_decide_17_u3 T (nI p) (nI (z_sz S p)) = 0 ↔ ¬ z_dif S p 0 ∧ ¬ z_dif S p 1 := by
    unfold rg_M_decide_17_u3
    by_cases z : z_sz S p = 1
    · rw [z, if_neg (by decide), if_pos (by decide), z_difM h hp e0 ks (by omega)]
      exact ⟨fun y => ⟨y.2, nd1 z⟩, fun y => ⟨rfl, y.1⟩⟩
    · have z2 : z_sz S p = 2 := by omega
      rw [z2, if_neg (by decide), if_neg (by decide), z_difM h hp e0 ks (by omega), z_difM h hp e0 ks (by omega)]
      exact ⟨fun y => ⟨y.1.2, y.2⟩, fun y => ⟨⟨rfl, y.1⟩, y.2⟩⟩
  have u4 := z_u4 h hp e hu1 hu2 ks
  unfold g_X_decide f_X_decide g_M_decide
  have D0 : f_P_copiesAllDiffer S p 0 = 0 ↔ ¬ z_dif S p 0 := z_difX (k := 0)
  have D1 : f_P_copiesAllDiffer S p 1 = 0 ↔ ¬ z_dif S p 1 := z_difX (k := 1)
  rw [nI_clamp (show p < 2 ^ 31 by omega), f1, f2, es, nI_clamp (show z_sz S p < 2 ^ 31 by omega)]
  by_cases d0 : z_dif S p 0
  · have w : ¬ rg_M_decide_17_u3 T (nI p) (nI (z_sz S p)) = 0 := fun z => (u3.mp z).1 d0
    rw [if_neg (fun z => (D0.mp z) d0), if_neg (fun z => (D0.mp z) d0), if_neg w]
    unfold rg_M_decide_237_t0
    rw [if_neg w]
    exact z_finish h hn hp e hu1 hu2 (by decide)
  rw [if_pos (D0.mpr d0), if_pos (D0.mpr d0)]
  by_cases d1 : z_dif S p 1
  · have w : ¬ rg_M_decide_17_u3 T (nI p) (nI (z_sz S p)) = 0 := fun z => (u3.mp z).2 d1
    rw [if_neg (fun z => (D1.mp z) d1), if_neg (fun z => (D1.mp z) d1), if_neg w]
    unfold rg_M_decide_237_t0
    rw [if_neg w]
    exact z_finish h hn hp e hu1 hu2 (by decide)
  have w : rg_M_decide_17_u3 T (nI p) (nI (z_sz S p)) = 0 := u3.mpr ⟨d0, d1⟩
  rw [if_pos (D1.mpr d1), if_pos (D1.mpr d1), if_pos w]
  unfold rg_M_decide_237_t0
  rw [if_pos w]
  by_cases c1 : f_X_allHousesOpen S = 0
  · have w4 := u4.mpr (fun z => z.1 c1)
    rw [if_pos c1, if_pos c1, if_pos w4, if_pos w4]
    exact z_finish h hn hp e hu1 hu2 (by decide)
  rw [if_neg c1, if_neg c1]
  by_cases c2 : f_X_areCopiesCurrent S p = 0
  · have w4 := u4.mpr (fun z => z.2 c2)
    rw [if_pos c2, if_pos c2, if_pos w4, if_pos w4]
    exact z_finish h hn hp e hu1 hu2 (by decide)
  have w4 : ¬ rg_M_decide_80_u4 T (nI p) (z_sz S p) = 0 := fun z => (u4.mp z) ⟨c1, c2⟩
  rw [if_neg c2, if_neg c2, if_neg w4, if_neg w4]
  obtain ⟨m1, m2, m3⟩ := z_mb h (k := 0) hp e hu1 hu2 ks (by omega) d0
  unfold rg_M_decide_140_S1
  change Rr (n + 1) (g_X_finish (g_X_mendBlock (g_X_mendBlock S p (nI 0)) p (nI 1)) p 2) _
  have g14 := m2 14 (by decide) (by decide)
  have g19 := m2 19 (by decide) (by decide)
  have g2 := m2 2 (by decide) (by decide)
  have gsz : z_sz (g_X_mendBlock S p (nI 0)) p = z_sz S p := z_szc g2 g14 p
  by_cases z : z_sz S p = 1
  · have eN : g_X_mendBlock (g_X_mendBlock S p (nI 0)) p (nI 1) = g_X_mendBlock S p (nI 0) := by
      refine z_mbN ?_ ?_
      · rw [m3, flat z 0 (by decide), flat z 1 (by decide)]
      · rw [m3, flat z 1 (by decide), flat z 2 (by decide)]
    rw [eN, z, if_neg (by decide), if_pos (by decide)]
    exact z_finish m1 hn hp (by rw [g14]; exact e) hu1 hu2 (by decide)
  · have z2 : z_sz S p = 2 := by omega
    rw [z2, if_neg (by decide), if_neg (by decide)]
    generalize g_X_mendBlock S p (nI 0) = S1 at *
    generalize rg_M_decide_149_S1 T (nI p) 0 = T1 at *
    obtain ⟨k1, k2, k3⟩ := z_mb m1 (k := 1) hp (by rw [g14]; exact e) hu1 hu2 (fun s hs => by rw [g19]; exact ks s hs) (by omega) (by rw [m3]; exact d1)
    exact z_finish k1 hn hp (by rw [k2 14 (by decide) (by decide), g14]; exact e) hu1 hu2 (by decide)
