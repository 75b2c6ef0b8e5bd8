theorem z_mN {n : Nat} {S T : z_S} (h : Rr n S T) : ∃ m : Nat, m ≤ 24 ∧ S.1 3 0 4 = nI m ∧ T.1 21 0 14 = nI m := by
  obtain ⟨-, -, -, -, -, ⟨c, -, -, -, m, hm, e1, e2, -⟩, -⟩ := h
  exact ⟨m, hm, e1, e2⟩
theorem z_twice1 {n : Nat} {S T : z_S} (h : Rr n S T) {k m : Nat} (e : S.1 3 0 4 = nI m) (e2 : T.1 21 0 14 = nI m) (hm : m < 24) (hk : k < m) (a : T.1 35 0 k = S.1 4 0 k) (b : T.1 36 0 k = S.1 5 0 k) (d : T.1 37 0 k = S.1 6 0 k) : (g_R_add S (S.1 4 0 k) (S.1 5 0 k) (S.1 6 0 k) (S.2 7 0 k)).1 3 0 4 = (g_M_copyLetter T (nI k) (nI m)).1 21 0 14 + 1 ∧ Rr (n + 1) (g_R_add S (S.1 4 0 k) (S.1 5 0 k) (S.1 6 0 k) (S.2 7 0 k)) (z_sI (g_M_copyLetter T (nI k) (nI m)) 21 0 14 ((g_M_copyLetter T (nI k) (nI m)).1 21 0 14 + 1)) := by
  have hM := z_mcl (T := T) (f := k) (t := m) (by omega) (by omega)
  generalize g_M_copyLetter T (nI k) (nI m) = R at hM ⊢
  obtain ⟨y1, y2, y3, y4, y5, y6, y7⟩ := hM
  have e3 : R.1 21 0 14 = nI m := by rw [y6 21 (by decide)]; exact e2
  rw [e3, z_addX (by omega) e, show nI m + 1 = nI (m + 1) from nI_add m 1]
  obtain ⟨xe, xl, xc, x4, x5, x6, x7⟩ := z_addP (S := S) (m := m) (S.1 4 0 k) (S.1 5 0 k) (S.1 6 0 k) (S.2 7 0 k) _ rfl
  refine ⟨rfl, Rr.up (z_app h (by omega) e (S.1 4 0 k) (S.1 5 0 k) (S.1 6 0 k) (S.2 7 0 k) (T.2 38 0 k) xe xl xc x4 x5 x6 x7 (fun q hq => ?_) (fun j hj => ?_) (fun q hq hq2 => (congrFun (z_rIL R 21 0 14 _) q).trans (y7 q hq2)) rfl (fun j => ?_) (fun j => ?_) (fun j => ?_) (fun j => ?_) (fun j i hj hi => ?_) ?_ (fun c hc hp hl => ?_))⟩
  · rw [← y6 q (by omega)]
    funext o
    exact z_sI_ne _ 21 0 14 _ (fun w => by omega)
  · rw [z_rI, if_neg (fun w => hj w.2.2), y6 21 (by decide)]
  · rw [z_rI, if_neg (fun w => absurd w.1 (by decide)), y1 j, ← a]
    by_cases hj : j = m
    · simp only [if_pos hj]
    · simp only [if_neg hj]
  · rw [z_rI, if_neg (fun w => absurd w.1 (by decide)), y2 j, ← b]
    by_cases hj : j = m
    · simp only [if_pos hj]
    · simp only [if_neg hj]
  · rw [z_rI, if_neg (fun w => absurd w.1 (by decide)), y3 j, ← d]
    by_cases hj : j = m
    · simp only [if_pos hj]
    · simp only [if_neg hj]
  · rw [z_rIL, y4 j]
    by_cases hj : j = m
    · simp only [if_pos hj]
    · simp only [if_neg hj]
  · rw [z_rI, if_neg (fun w => absurd w.1 (by decide)), y5 j i hi]
    have : ¬ j = m := by omega
    simp only [if_neg this]
  · exact h.ok.2.2.1 k (by omega)
  · obtain ⟨m2, hm2, w1, w2, w3, w4, w5⟩ := hl
    rw [e, nI_eq (by omega) (by omega)] at w1
    subst w1
    have L : z_Lt c S _ _ _ (S.2 7 0 k) _ _ _ (T.2 38 0 k) (fun i => T.1 39 0 (8 * k + i)) := w5 k hk
    rw [a, b, d] at L
    refine L.ld (fun i hi => ?_)
    show (z_sI R 21 0 14 (nI (m + 1))).1 39 0 (8 * m + i) = T.1 39 0 (8 * k + i)
    rw [z_rI, if_neg (fun w => absurd w.1 (by decide)), y5 m i hi]
    simp only [if_pos]
theorem sm_twice {n : Nat} {S T : z_S} (h : Rr n S T) (hn : n < 512) (x0 : Int32) : (f_X_twice S x0) = (f_M_twice T x0) ∧ Rr (n + 1) (g_X_twice S x0) (g_M_twice T x0) := by
  unfold f_X_twice f_M_twice g_X_twice g_M_twice
  rw [z_hasM h]
  by_cases h0 : f_R_has S x0 = 0
  · simp only [if_pos h0]; exact ⟨trivial, h.up⟩
  · simp only [if_neg h0]
    obtain ⟨c, k, m, -, rfl, hk, hm, e, a, b, d⟩ := z_letK h h0
    have e2 : T.1 21 0 14 = nI m := by
      obtain ⟨m2, -, w1, w2⟩ := z_mN h
      rw [w2, ← w1]; exact e
    rw [e, e2, nI_clamp (by omega)]
    by_cases h24 : m = 24
    · subst h24
      have he : nI 24 = (24 : Int32) := rfl
      simp only [if_pos he]
      exact ⟨trivial, h.up⟩
    · have hne : ¬ nI m = 24 := by
        intro q
        exact h24 ((nI_eq (b := 24) (by omega) (by decide)).mp q)
      rw [if_neg hne, if_neg hne, if_neg hne, if_neg hne]
      exact z_twice1 h e e2 (by omega) hk a b d
/-- an ASK or a FETCH of a poll is sent on both sides -/
theorem z_come {n : Nat} {S T : z_S} (h : Rr n S T) {a b hh : Int32} (ha : a = 1 ∨ a = 3) (hb : ∃ u : Nat, 1 ≤ u ∧ b = nI u ∧ ∀ c, r_po c S T → u ≤ c) (hh3 : vp_in hh 3) : Rr n (g_R_add S a b hh 0) (g_M_come T a b hh) := by
  obtain ⟨m, hm, e1, e2⟩ := z_mN h
  by_cases h24 : m = 24
  · subst h24
    rw [z_addF e1]
    have e : g_M_come T a b hh = z_sI (z_sI (z_sI (z_sI T 35 0 24 a) 36 0 24 b) 37 0 24 hh) 21 0 14 24 := by
      unfold g_M_come
      rw [e2, if_pos (by decide), nI_clamp (by decide)]
    rw [e]
    refine h.letters (fun _ _ => rfl) (fun _ _ _ => rfl) (fun q hq => ?_) (fun j hj => ?_) (fun _ _ _ => rfl) (fun c hc hc5 hp hl => ?_)
    · funext o
      rw [z_sI_ne _ _ _ _ _ (fun w => by omega), z_sI_ne _ _ _ _ _ (fun w => by omega), z_sI_ne _ _ _ _ _ (fun w => by omega), z_sI_ne _ _ _ _ _ (fun w => by omega)]
    · rw [z_rI, if_neg (fun w => hj w.2.2)]; rfl
    · obtain ⟨m2, hm2, w1, w2, w3, w4, w5⟩ := hl
      have n35 : ∀ k, k < 24 → (z_sI (z_sI (z_sI (z_sI T 35 0 24 a) 36 0 24 b) 37 0 24 hh) 21 0 14 24).1 35 0 k = T.1 35 0 k := fun k hk => by
        show (z_sI T 35 0 24 a).1 35 0 k = _
        rw [z_rI, if_neg (by omega)]
      have n36 : ∀ k, k < 24 → (z_sI (z_sI (z_sI (z_sI T 35 0 24 a) 36 0 24 b) 37 0 24 hh) 21 0 14 24).1 36 0 k = T.1 36 0 k := fun k hk => by
        show (z_sI (z_sI T 35 0 24 a) 36 0 24 b).1 36 0 k = _
        rw [z_rI, if_neg (by omega)]; rfl
      have n37 : ∀ k, k < 24 → (z_sI (z_sI (z_sI (z_sI T 35 0 24 a) 36 0 24 b) 37 0 24 hh) 21 0 14 24).1 37 0 k = T.1 37 0 k := fun k hk => by
        show (z_sI (z_sI (z_sI T 35 0 24 a) 36 0 24 b) 37 0 24 hh).1 37 0 k = _
        rw [z_rI, if_neg (by omega)]; rfl
      refine ⟨24, by omega, e1, rfl, w3, fun k hk => ?_, fun k hk => ?_⟩
      · by_cases hk2 : k = 24
        · subst hk2; exact hh3
        · rw [n37 k (by omega)]; exact w4 k hk
      · rw [e1, nI_eq (by omega) (by omega)] at w1
        subst w1
        have L := w5 k hk
        rw [n35 k hk, n36 k hk, n37 k hk]
        exact L
  · have e : g_M_come T a b hh = z_sI (z_sI (z_sI (z_sI T 35 0 m a) 36 0 m b) 37 0 m hh) 21 0 14 (nI (m + 1)) := by
      unfold g_M_come
      rw [e2, if_neg (show ¬ (24 : Int32) ≤ nI m from nI_ge (b := 24) (by omega) (by decide)), nI_clamp (by omega), show nI m + 1 = nI (m + 1) from nI_add m 1]
    rw [e, z_addX (by omega) e1]
    obtain ⟨xe, xl, xc, x4, x5, x6, x7⟩ := z_addP (S := S) (m := m) a b hh 0 _ rfl
    refine z_app h (by omega) e1 a b hh 0 (T.2 38 0 m) xe xl xc x4 x5 x6 x7 (fun q hq => ?_) (fun j hj => ?_) (fun _ _ _ => rfl) rfl (fun j => ?_) (fun j => ?_) (fun j => ?_) (fun j => ?_) (fun _ _ _ _ => rfl) hh3 (fun c hc hp hl => ?_)
    · funext o
      rw [z_sI_ne _ _ _ _ _ (fun w => by omega), z_sI_ne _ _ _ _ _ (fun w => by omega), z_sI_ne _ _ _ _ _ (fun w => by omega), z_sI_ne _ _ _ _ _ (fun w => by omega)]
    · rw [z_rI, if_neg (fun w => hj w.2.2)]; rfl
    · show (z_sI T 35 0 m a).1 35 0 j = _
      rw [z_rI]; simp
    · show (z_sI (z_sI T 35 0 m a) 36 0 m b).1 36 0 j = _
      rw [z_rI]; simp; rfl
    · show (z_sI (z_sI (z_sI T 35 0 m a) 36 0 m b) 37 0 m hh).1 37 0 j = _
      rw [z_rI]; simp; rfl
    · show T.2 38 0 j = _
      by_cases hj : j = m
      · rw [if_pos hj, hj]
      · rw [if_neg hj]
    · obtain ⟨u, hu1, hu2, hu3⟩ := hb
      refine ⟨rfl, rfl, rfl, ⟨u, hu1, hu3 c hp, hu2⟩, ?_, fun q => ?_, fun q => ?_⟩
      · rcases ha with rfl | rfl
        · exact Or.inl rfl
        · exact Or.inr (Or.inr (Or.inl rfl))
      · rcases ha with rfl | rfl <;> exact absurd q (by decide)
      · rcases ha with rfl | rfl <;> exact absurd q (by decide)
