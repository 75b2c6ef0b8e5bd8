/-- only the letters change -/
theorem Rr.letters {n : Nat} {S T S2 T2 : z_S} (h : Rr n S T) (eX1 : ∀ a, a < 3 ∨ 6 < a ∧ a < 21 → S2.1 a = S.1 a) (eX2 : ∀ a, a ≠ 7 → a < 21 → S2.2 a = S.2 a) (eM1 : ∀ a, 21 < a ∧ a < 35 ∨ 39 < a → T2.1 a = T.1 a) (e21 : ∀ j, j ≠ 14 → T2.1 21 0 j = T.1 21 0 j) (eM2 : ∀ a, 21 ≤ a → a ≠ 38 → T2.2 a = T.2 a) (hl : ∀ c, c ≤ n → c ≤ 512 → r_po c S T → r_le c S T → r_le c S2 T2) : Rr n S2 T2 := by
  obtain ⟨h1, h2, h3, h4, h5, ⟨c, hc, hc5, hp, h6⟩, h7, h8, h9, h10⟩ := h
  have h6 := hl c hc hc5 hp h6
  have q3 := e21 3 (by decide)
  have q20 := e21 20 (by decide)
  have q23 := e21 23 (by decide)
  have e2 := eX1 2 (by decide)
  have e12 := eX1 12 (by decide)
  have e13 := eX1 13 (by decide)
  have e0 := eX1 0 (by decide)
  have e9 := eX1 9 (by decide)
  have e14 := eX1 14 (by decide)
  have l14 := eX2 14 (by decide) (by decide)
  have e15 := eX1 15 (by decide)
  have e16 := eX1 16 (by decide)
  have l17 := eX2 17 (by decide) (by decide)
  have e18 := eX1 18 (by decide)
  have e19 := eX1 19 (by decide)
  have l20 := eX2 20 (by decide) (by decide)
  have e10 := eX1 10 (by decide)
  have e11 := eX1 11 (by decide)
  have m22 := eM1 22 (by decide)
  have m23 := eM1 23 (by decide)
  have m24 := eM1 24 (by decide)
  have m25 := eM1 25 (by decide)
  have m26 := eM1 26 (by decide)
  have m27 := eM1 27 (by decide)
  have m28 := eM1 28 (by decide)
  have k29 := eM2 29 (by decide) (by decide)
  have m30 := eM1 30 (by decide)
  have m31 := eM1 31 (by decide)
  have m32 := eM1 32 (by decide)
  have k33 := eM2 33 (by decide) (by decide)
  have m34 := eM1 34 (by decide)
  have m40 := eM1 40 (by decide)
  have m41 := eM1 41 (by decide)
  refine ⟨?_, ?_, ?_, ?_, ?_, ⟨c, hc, hc5, ?_, h6⟩, ?_, ?_, ?_, ?_⟩
  · unfold r_bl at h1 ⊢; rw [e2, m23]; exact h1
  · unfold r_op at h2 ⊢; rw [e12, m24]; exact h2
  · unfold r_me at h3 ⊢; rw [e12, m41]; exact h3
  · unfold r_by at h4 ⊢; rw [e13, m22]; exact h4
  · unfold r_zo at h5 ⊢; rw [e2, e13]; exact h5
  · unfold r_po at hp ⊢; rw [e0, e2, e9, e14, l14, q3, m25, m26, m27, m28, k29, m30]; exact hp
  · unfold r_su at h7 ⊢; rw [e15, e16, l17, m31, k33]; exact h7
  · unfold r_co z_sz at h8 ⊢; rw [e2, e14, e15, e18, e19, l20, m32, m34]; exact h8
  · unfold r_ro f_X_parts at h9 ⊢; rw [e2, e10, e11, q20, m40]; exact h9
  · rw [e0, q23]; exact h10
theorem z_szc {S S2 : z_S} (e2 : S2.1 2 = S.1 2) (e14 : S2.1 14 = S.1 14) (p : Nat) : z_sz S2 p = z_sz S p := by
  unfold z_sz
  rw [e2, e14]
theorem z_ctxE {S S2 : z_S} (e2 : S2.1 2 = S.1 2) (e14 : S2.1 14 = S.1 14) {c : Nat} : ∀ p u : Nat, p < 6 → 1 ≤ u → u ≤ c → S2.1 14 p 0 = nI u → S.1 14 p 0 = nI u ∧ z_sz S2 p = z_sz S p := fun p u _ _ _ h => ⟨by rw [e14] at h; exact h, z_szc e2 e14 p⟩
theorem z_rmv {n : Nat} {S T : z_S} (h : Rr n S T) {k0 N : Nat} (hc : S.1 3 0 4 = nI (N + 1)) (hk : k0 ≤ N) (hN : N < 24) : Rr n (g_R_remove S k0 N) (g_M_leave T (nI k0) k0 N) ∧ (g_M_leave T (nI k0) k0 N).2 38 0 24 = T.2 38 0 k0 ∧ ∀ i, i < 8 → (g_M_leave T (nI k0) k0 N).1 39 0 (192 + i) = T.1 39 0 (8 * k0 + i) := by
  have hT : T.1 21 0 14 = nI (N + 1) := by
    obtain ⟨-, -, -, -, -, ⟨c, -, -, -, m, hm, e1, e2, -⟩, -⟩ := h
    rw [e2, ← e1]; exact hc
  obtain ⟨R, e, hM⟩ := z_mlv hk hN hT
  rw [e]
  have hX := z_xrm (S := z_sI S 3 0 4 (S.1 3 0 4 - 1)) (k0 := k0) (N - k0)
  rw [show k0 + (N - k0) = N by omega] at hX
  have eg : g_R_remove S k0 N = z_it (fun (kk9 : Nat) (T9 : z_S) => rg_R_remove_12i_S1 T9 kk9) k0 (N - k0) (z_sI S 3 0 4 (S.1 3 0 4 - 1)) := rfl
  rw [eg]
  generalize z_it (fun (kk9 : Nat) (T9 : z_S) => rg_R_remove_12i_S1 T9 kk9) k0 (N - k0) (z_sI S 3 0 4 (S.1 3 0 4 - 1)) = Q at hX ⊢
  obtain ⟨x1, x2, x3, x4, x5, x6⟩ := hX
  obtain ⟨y1, y2, y3, y4, y5, y6, y7⟩ := hM
  have z24 : (if (24 : Nat) = 24 then k0 else if k0 ≤ 24 ∧ 24 < N then 24 + 1 else 24) = k0 := if_pos rfl
  refine ⟨?_, ?_, fun i hi => ?_⟩
  · have xe : ∀ a, a < 3 ∨ 6 < a ∧ a < 21 → Q.1 a = S.1 a := fun a ha => by
      rw [x5 a (by omega)]
      funext o
      exact z_sI_ne S 3 0 4 _ (fun q => by omega)
    have xl : ∀ a, a ≠ 7 → a < 21 → Q.2 a = S.2 a := fun a ha _ => x6 a ha
    refine h.letters xe xl (fun a ha => ?_) (fun j hj => ?_) (fun a ha1 ha2 => y7 a ha2) ?_
    · rw [← y6 a (by omega)]
      funext o
      exact z_sI_ne R 21 0 14 _ (fun q => by omega)
    · rw [z_rI, if_neg (fun q => hj q.2.2), y6 21 (by decide)]
    · intro c hc1 hc5 hp hl
      obtain ⟨m, hm, e1, e2, g1, g2, g3⟩ := hl
      rw [e1, nI_eq (by omega) (by omega)] at hc
      subst hc
      refine ⟨N, by omega, ?_, ?_, fun k hk2 => ?_, fun k hk2 => ?_, fun k hk2 => ?_⟩
      · rw [x5 3 (by decide)]
        show S.1 3 0 4 - 1 = nI N
        rw [e1, z_pred]
      · rfl
      · rw [x3]
        refine g1 _ ?_
        show (if k0 ≤ k ∧ k < N then k + 1 else k) < 24
        split <;> omega
      · have e3 : (z_sI R 21 0 14 (nI N)).1 37 0 k = R.1 37 0 k := rfl
        rw [e3, y3]
        refine g2 _ ?_
        show (if k = 24 then k0 else if k0 ≤ k ∧ k < N then k + 1 else k) < 25
        split
        · omega
        · split <;> omega
      · have hs : (if k = 24 then k0 else if k0 ≤ k ∧ k < N then k + 1 else k) = (if k0 ≤ k ∧ k < N then k + 1 else k) := if_neg (by omega)
        have hs2 : (if k0 ≤ k ∧ k < N then k + 1 else k) < N + 1 := by split <;> omega
        have b1 : R.1 35 0 k = T.1 35 0 (if k = 24 then k0 else if k0 ≤ k ∧ k < N then k + 1 else k) := y1 k
        have b2 : R.1 36 0 k = T.1 36 0 (if k = 24 then k0 else if k0 ≤ k ∧ k < N then k + 1 else k) := y2 k
        have b3 : R.1 37 0 k = T.1 37 0 (if k = 24 then k0 else if k0 ≤ k ∧ k < N then k + 1 else k) := y3 k
        have b4 : R.2 38 0 k = T.2 38 0 (if k = 24 then k0 else if k0 ≤ k ∧ k < N then k + 1 else k) := y4 k
        have b5 : ∀ i, i < 8 → R.1 39 0 (8 * k + i) = T.1 39 0 (8 * (if k0 ≤ k ∧ k < N then k + 1 else k) + i) := fun i hi => by
          have w : R.1 39 0 (8 * k + i) = T.1 39 0 (8 * (if k = 24 then k0 else if k0 ≤ k ∧ k < N then k + 1 else k) + i) := y5 k i hi
          rw [hs] at w
          exact w
        rw [hs] at b1 b2 b3 b4
        have L := g3 _ hs2
        have L : z_Lt c S _ _ _ (S.2 7 0 _) _ _ _ (T.2 38 0 _) (fun i => T.1 39 0 (8 * (if k0 ≤ k ∧ k < N then k + 1 else k) + i)) := L
        have L2 := (L.ld (ld2 := fun i => R.1 39 0 (8 * k + i)) b5).ctx (S2 := Q) (Nat.le_refl c) (z_ctxE (xe 2 (by decide)) (xe 14 (by decide)))
        rw [← b1, ← b2, ← b3, ← b4] at L2
        have a1 : Q.1 4 0 k = S.1 4 0 (if k0 ≤ k ∧ k < N then k + 1 else k) := x1 k
        have a2 : Q.1 5 0 k = S.1 5 0 (if k0 ≤ k ∧ k < N then k + 1 else k) := x2 k
        have a3 : Q.1 6 0 k = S.1 6 0 (if k0 ≤ k ∧ k < N then k + 1 else k) := x3 k
        have a4 : Q.2 7 0 k = S.2 7 0 (if k0 ≤ k ∧ k < N then k + 1 else k) := x4 k
        rw [← a1, ← a2, ← a3, ← a4] at L2
        exact L2
  · have e3 : (z_sI R 21 0 14 (nI N)).2 38 0 24 = R.2 38 0 24 := rfl
    rw [e3, y4 24]
    exact congrArg _ z24
  · have e3 : (z_sI R 21 0 14 (nI N)).1 39 0 (192 + i) = R.1 39 0 (8 * 24 + i) := rfl
    rw [e3, y5 24 i hi]
    exact congrArg (fun q => T.1 39 0 (8 * q + i)) z24
theorem sm_lose {n : Nat} {S T : z_S} (h : Rr n S T) (hn : n < 512) (x0 : Int32) : (f_X_lose S x0) = (f_M_lose T x0) ∧ Rr (n + 1) (g_X_lose S x0) (g_M_lose T x0) := by
  unfold f_X_lose f_M_lose g_X_lose g_M_lose
  rw [z_hasM h]
  by_cases h0 : f_R_has S x0 = 0
  · simp only [if_pos h0]; exact ⟨trivial, h.up⟩
  · simp only [if_neg h0]
    obtain ⟨c, k, m, -, rfl, hk, hm, e, a, b, d⟩ := z_letK h h0
    have e2 : T.1 21 0 14 = nI m := by
      obtain ⟨-, -, -, -, -, ⟨c, -, -, -, m2, hm, e1, e2, -⟩, -⟩ := h
      rw [e2, ← e1]; exact e
    rw [nI_clamp (by omega), a, e, e2, nI_clamp (by omega)]
    exact ⟨rfl, ((z_rmv h (k0 := k) (N := m - 1) (by rw [e]; exact congrArg nI (by omega)) (by omega) (by omega)).1).up⟩
/-- a letter more on both sides -/
theorem z_app {n : Nat} {S T S2 T2 : z_S} (h : Rr n S T) {m : Nat} (hm : m < 24) (em : S.1 3 0 4 = nI m) (a b hh : Int32) (v v2 : Int64)
    (xe : ∀ q, q < 3 ∨ 6 < q ∧ q < 21 → S2.1 q = S.1 q) (xl : ∀ q, q ≠ 7 → q < 21 → S2.2 q = S.2 q) (xc : S2.1 3 0 4 = nI (m + 1)) (x4 : ∀ k, S2.1 4 0 k = if k = m then a else S.1 4 0 k) (x5 : ∀ k, S2.1 5 0 k = if k = m then b else S.1 5 0 k) (x6 : ∀ k, S2.1 6 0 k = if k = m then hh else S.1 6 0 k) (x7 : ∀ k, S2.2 7 0 k = if k = m then v else S.2 7 0 k)
    (ye : ∀ q, 21 < q ∧ q < 35 ∨ 39 < q → T2.1 q = T.1 q) (y21 : ∀ j, j ≠ 14 → T2.1 21 0 j = T.1 21 0 j) (yl : ∀ q, 21 ≤ q → q ≠ 38 → T2.2 q = T.2 q) (yc : T2.1 21 0 14 = nI (m + 1)) (y35 : ∀ k, T2.1 35 0 k = if k = m then a else T.1 35 0 k) (y36 : ∀ k, T2.1 36 0 k = if k = m then b else T.1 36 0 k) (y37 : ∀ k, T2.1 37 0 k = if k = m then hh else T.1 37 0 k) (y38 : ∀ k, T2.2 38 0 k = if k = m then v2 else T.2 38 0 k) (y39 : ∀ k i, k < m → i < 8 → T2.1 39 0 (8 * k + i) = T.1 39 0 (8 * k + i))
    (hh3 : vp_in hh 3) (hL : ∀ c, c ≤ n → r_po c S T → r_le c S T → z_Lt c S a b hh v a b hh v2 (fun i => T2.1 39 0 (8 * m + i))) : Rr n S2 T2 := by
  refine h.letters xe xl ye y21 yl (fun c hc1 hc5 hp hl => ?_)
  have hnew := hL c hc1 hp hl
  obtain ⟨m2, hm2, e1, e2, g1, g2, g3⟩ := hl
  rw [e1, nI_eq (by omega) (by omega)] at em
  subst em
  refine ⟨m2 + 1, by omega, xc, yc, fun k hk => ?_, fun k hk => ?_, fun k hk => ?_⟩
  · rw [x6 k]
    split
    · exact hh3
    · exact g1 k hk
  · rw [y37 k]
    split
    · exact hh3
    · exact g2 k hk
  · show z_Lt c S2 _ _ _ _ _ _ _ _ (fun i => T2.1 39 0 (8 * k + i))
    rw [x4 k, x5 k, x6 k, x7 k, y35 k, y36 k, y37 k, y38 k]
    by_cases h : k = m2
    · subst h
      simp only [if_pos]
      exact hnew.ctx (Nat.le_refl c) (z_ctxE (xe 2 (by decide)) (xe 14 (by decide)))
    · simp only [if_neg h]
      have L : z_Lt c S _ _ _ (S.2 7 0 k) _ _ _ (T.2 38 0 k) (fun i => T.1 39 0 (8 * k + i)) := g3 k (by omega)
      exact (L.ld (ld2 := fun i => T2.1 39 0 (8 * k + i)) (fun i hi => y39 k i (by omega) hi)).ctx (Nat.le_refl c) (z_ctxE (xe 2 (by decide)) (xe 14 (by decide)))
/-- what Row.add does when there is room -/
theorem z_addX {S : z_S} {m : Nat} (hm : m < 24) (em : S.1 3 0 4 = nI m) (a b hh : Int32) (v : Int64) : g_R_add S a b hh v = z_sI (z_sL (z_sI (z_sI (z_sI S 4 0 m a) 5 0 m b) 6 0 m hh) 7 0 m v) 3 0 4 (nI (m + 1)) := by
  unfold g_R_add
  rw [em, if_pos (show nI m < (24 : Int32) from nI_lt (b := 24) hm (by decide)), nI_clamp (by omega), show nI m + 1 = nI (m + 1) from nI_add m 1]
theorem z_addF {S : z_S} (em : S.1 3 0 4 = nI 24) (a b hh : Int32) (v : Int64) : g_R_add S a b hh v = S := by
  unfold g_R_add
  rw [em, if_neg (by decide)]
theorem z_addP {S : z_S} {m : Nat} (a b hh : Int32) (v : Int64) : ∀ S2, S2 = z_sI (z_sL (z_sI (z_sI (z_sI S 4 0 m a) 5 0 m b) 6 0 m hh) 7 0 m v) 3 0 4 (nI (m + 1)) → (∀ q, q < 3 ∨ 6 < q ∧ q < 21 → S2.1 q = S.1 q) ∧ (∀ q, q ≠ 7 → q < 21 → S2.2 q = S.2 q) ∧ S2.1 3 0 4 = nI (m + 1) ∧ (∀ k, S2.1 4 0 k = if k = m then a else S.1 4 0 k) ∧ (∀ k, S2.1 5 0 k = if k = m then b else S.1 5 0 k) ∧ (∀ k, S2.1 6 0 k = if k = m then hh else S.1 6 0 k) ∧ (∀ k, S2.2 7 0 k = if k = m then v else S.2 7 0 k) := by
  intro S2 e
  subst e
  refine ⟨fun q hq => ?_, fun q hq _ => ?_, rfl, fun k => ?_, fun k => ?_, fun k => ?_, fun k => ?_⟩
  · funext o
    rw [z_sI_ne _ _ _ _ _ (fun w => by omega), z_rLI, z_sI_ne _ _ _ _ _ (fun w => by omega), z_sI_ne _ _ _ _ _ (fun w => by omega), z_sI_ne _ _ _ _ _ (fun w => by omega)]
  · funext o
    rw [z_rIL, z_sL_ne _ _ _ _ _ (fun w => hq w.1)]
    rfl
  · show (z_sI S 4 0 m a).1 4 0 k = _
    rw [z_rI]; simp
  · show (z_sI (z_sI S 4 0 m a) 5 0 m b).1 5 0 k = _
    rw [z_rI]; simp; rfl
  · show (z_sI (z_sI (z_sI S 4 0 m a) 5 0 m b) 6 0 m hh).1 6 0 k = _
    rw [z_rI]; simp; rfl
  · show (z_sL (z_sI (z_sI (z_sI S 4 0 m a) 5 0 m b) 6 0 m hh) 7 0 m v).2 7 0 k = _
    rw [z_rL]; simp; rfl
