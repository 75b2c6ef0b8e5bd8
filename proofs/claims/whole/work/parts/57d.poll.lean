/-- a poll begins at place i on both sides -/
theorem z_beg {n : Nat} {S T S2 T2 : z_S} {c : Nat} (hc : c ≤ n) (hc5 : c < 512) (h : Rr n S T) (e06 : S.1 0 0 6 = nI c) {i d q : Nat} (hi : i < 6) (hd : d < 6) (hq : q < 8) (hqb : (q : Int) < (S.1 2 0 d).toInt)
    (xe : ∀ a, a ≠ 0 → a ≠ 9 → a ≠ 14 → a ≠ 15 → a ≠ 16 → a ≠ 18 → a ≠ 19 → S2.1 a = S.1 a) (xo : ∀ a p, a = 14 ∨ a = 15 ∨ a = 16 ∨ a = 18 ∨ a = 19 → p ≠ i → S2.1 a p = S.1 a p) (xl : ∀ a p, a ≠ 14 ∨ p ≠ i → S2.2 a p = S.2 a p)
    (x06 : S2.1 0 0 6 = nI (c + 1)) (x07 : S2.1 0 0 7 = S.1 0 0 7) (x9 : ∀ r, S2.1 9 0 r = if r = c + 1 then 0 else S.1 9 0 r) (a0 : S2.1 14 i 0 = nI (c + 1)) (a1 : S2.1 14 i 1 = nI d) (a2 : S2.1 14 i 2 = nI q) (a3 : S2.2 14 i 3 = T2.2 29 0 i) (a4 : S2.1 14 i 4 = T2.1 30 0 i)
    (b15 : S2.1 15 i 2 = 0) (b18 : S2.1 18 i 2 = 0) (b16 : ∀ k, k < 3 → S2.1 16 i k = 0) (b19 : ∀ k, k < 3 → S2.1 19 i k = 0)
    (ye : ∀ a, a ≠ 21 → a ≠ 25 → a ≠ 26 → a ≠ 27 → a ≠ 28 → a ≠ 30 → a ≠ 31 → a ≠ 32 → T2.1 a = T.1 a) (yo : ∀ a p, a = 26 ∨ a = 27 ∨ a = 28 ∨ a = 30 ∨ a = 31 ∨ a = 32 → p ≠ i → T2.1 a 0 p = T.1 a 0 p) (yl : ∀ a p, a ≠ 29 ∨ p ≠ i → T2.2 a 0 p = T.2 a 0 p)
    (y3 : T2.1 21 0 3 = nI (c + 1)) (yj : ∀ j, j ≠ 3 → T2.1 21 0 j = T.1 21 0 j) (y25 : ∀ r, T2.1 25 0 r = if r = c + 1 then 0 else T.1 25 0 r) (y26 : T2.1 26 0 i = nI (c + 1)) (y27 : T2.1 27 0 i = nI d) (y28 : T2.1 28 0 i = nI q) (y31 : T2.1 31 0 i = 0) (y32 : T2.1 32 0 i = 0) : Rr (n + 1) S2 T2 := by
  have h := h.up
  obtain ⟨h1, h2, h3, h4, h5, ⟨c', hc', hc5', hp, hl⟩, h7, h8, h9, h10⟩ := h
  have : c' = c := by
    have w := hp.1
    rw [e06, nI_eq (by omega) (by omega)] at w
    exact w.symm
  subst this
  have e2 := xe 2 (by decide) (by decide) (by decide) (by decide) (by decide) (by decide) (by decide)
  have sz : ∀ p, p ≠ i → z_sz S2 p = z_sz S p := fun p w => by
    unfold z_sz
    rw [e2, xo 14 p (by decide) w]
  have old : ∀ p, p < 6 → p ≠ i → ¬ S.1 14 p 0 = nI (c' + 1) := by
    intro p hp1 hpi w
    obtain ⟨⟨v, dd, qq, hv, -, -, e0, -⟩, -⟩ := hp.2.2.2 p hp1
    rw [e0, nI_eq (by omega) (by omega)] at w
    omega
  refine ⟨?_, ?_, ?_, ?_, ?_, ⟨c' + 1, by omega, by omega, ?_, ?_⟩, ?_, ?_, ?_, ?_⟩
  · unfold r_bl at h1 ⊢
    rw [e2, ye 23 (by decide) (by decide) (by decide) (by decide) (by decide) (by decide) (by decide) (by decide)]; exact h1
  · unfold r_op at h2 ⊢
    rw [xe 12 (by decide) (by decide) (by decide) (by decide) (by decide) (by decide) (by decide), ye 24 (by decide) (by decide) (by decide) (by decide) (by decide) (by decide) (by decide) (by decide)]; exact h2
  · unfold r_me at h3 ⊢
    rw [xe 12 (by decide) (by decide) (by decide) (by decide) (by decide) (by decide) (by decide), ye 41 (by decide) (by decide) (by decide) (by decide) (by decide) (by decide) (by decide) (by decide)]; exact h3
  · unfold r_by at h4 ⊢
    rw [xe 13 (by decide) (by decide) (by decide) (by decide) (by decide) (by decide) (by decide), ye 22 (by decide) (by decide) (by decide) (by decide) (by decide) (by decide) (by decide) (by decide)]; exact h4
  · unfold r_zo at h5 ⊢
    rw [e2, xe 13 (by decide) (by decide) (by decide) (by decide) (by decide) (by decide) (by decide)]; exact h5
  · refine ⟨x06, y3, fun r hr => ?_, fun p hp1 => ?_⟩
    · rw [x9 r, y25 r]
      by_cases w : r = c' + 1
      · rw [if_pos w, if_pos w]
      · rw [if_neg w, if_neg w]; exact hp.2.2.1 r (by omega)
    · by_cases w : p = i
      · subst w
        refine ⟨⟨c' + 1, d, q, Nat.le_refl _, hd, hq, a0, a1, a2, fun _ => by rw [e2]; exact hqb⟩, y26.trans a0.symm, y27.trans a1.symm, y28.trans a2.symm, a3.symm, a4.symm, fun p2 hp2 e => ?_⟩
        by_cases w : p2 = p
        · exact Or.inr w.symm
        · rw [a0, xo 14 p2 (by decide) w] at e
          exact absurd e.symm (old p2 hp2 w)
      · obtain ⟨⟨v, dd, qq, hv, hdd, hqq, e0, e1, e22, e3⟩, f0, f1, f2, f3, f4, f5⟩ := hp.2.2.2 p hp1
        rw [xo 14 p (by decide) w, xl 14 p (Or.inr w), yo 26 p (by decide) w, yo 27 p (by decide) w, yo 28 p (by decide) w, yo 30 p (by decide) w, yl 29 p (Or.inr w), e2]
        refine ⟨⟨v, dd, qq, by omega, hdd, hqq, e0, e1, e22, e3⟩, f0, f1, f2, f3, f4, fun p2 hp2 e => ?_⟩
        by_cases w2 : p2 = i
        · subst w2
          rw [a0] at e
          exact absurd e (old p hp1 w)
        · rw [xo 14 p2 (by decide) w2] at e
          exact f5 p2 hp2 e
  · obtain ⟨m, hm, l1, l2, l3, l4, l5⟩ := hl
    have k39 := ye 39 (by decide) (by decide) (by decide) (by decide) (by decide) (by decide) (by decide) (by decide)
    refine ⟨m, hm, ?_, ?_, ?_, ?_, fun k hk => ?_⟩
    · rw [xe 3 (by decide) (by decide) (by decide) (by decide) (by decide) (by decide) (by decide)]; exact l1
    · rw [yj 14 (by decide)]; exact l2
    · rw [xe 6 (by decide) (by decide) (by decide) (by decide) (by decide) (by decide) (by decide)]; exact l3
    · rw [ye 37 (by decide) (by decide) (by decide) (by decide) (by decide) (by decide) (by decide) (by decide)]; exact l4
    · have L : z_Lt c' S _ _ _ (S.2 7 0 k) _ _ _ (T.2 38 0 k) (fun i => T.1 39 0 (8 * k + i)) := l5 k hk
      have L2 := L.ctx (S2 := S2) (c2 := c' + 1) (by omega) (fun p u hp1 hu hu2 e => by
        have w : p ≠ i := by
          intro w
          subst w
          rw [a0, nI_eq (by omega) (by omega)] at e
          omega
        rw [xo 14 p (by decide) w] at e
        exact ⟨e, sz p w⟩)
      show z_Lt (c' + 1) S2 _ _ _ (S2.2 7 0 k) _ _ _ (T2.2 38 0 k) (fun i => T2.1 39 0 (8 * k + i))
      rw [xe 4 (by decide) (by decide) (by decide) (by decide) (by decide) (by decide) (by decide), xe 5 (by decide) (by decide) (by decide) (by decide) (by decide) (by decide) (by decide), xe 6 (by decide) (by decide) (by decide) (by decide) (by decide) (by decide) (by decide), xl 7 0 (Or.inl (by decide)), yl 38 k (Or.inl (by decide)), ye 35 (by decide) (by decide) (by decide) (by decide) (by decide) (by decide) (by decide) (by decide), ye 36 (by decide) (by decide) (by decide) (by decide) (by decide) (by decide) (by decide) (by decide), ye 37 (by decide) (by decide) (by decide) (by decide) (by decide) (by decide) (by decide) (by decide), k39]
      exact L2
  · intro p hp1
    by_cases w : p = i
    · subst w
      refine ⟨fun k hk => Or.inl (b16 k hk), ?_, ?_, fun k hk e => ?_⟩
      · rw [b15, z_cnt3, b16 0 (by decide), b16 1 (by decide), b16 2 (by decide)]; rfl
      · rw [y31, b16 0 (by decide), b16 1 (by decide), b16 2 (by decide)]; rfl
      · rw [b16 k hk] at e; exact absurd e (by decide)
    · obtain ⟨k1, k2, k3, k4⟩ := h7 p hp1
      rw [xo 16 p (by decide) w, xo 15 p (by decide) w, xl 17 p (Or.inl (by decide)), yo 31 p (by decide) w]
      refine ⟨k1, k2, k3, fun k hk e => ?_⟩
      rw [yl 33 _ (Or.inl (by decide))]
      exact k4 k hk e
  · intro p hp1
    by_cases w : p = i
    · subst w
      refine ⟨fun k hk => Or.inl (b19 k hk), ?_, ?_, Or.inr b18, fun _ k hk e => ?_⟩
      · rw [b18, z_cnt3, b19 0 (by decide), b19 1 (by decide), b19 2 (by decide)]; rfl
      · rw [y32, b19 0 (by decide), b19 1 (by decide), b19 2 (by decide)]; rfl
      · rw [b19 k hk] at e; exact absurd e (by decide)
    · rw [xo 19 p (by decide) w, xo 18 p (by decide) w, xo 15 p (by decide) w, xo 14 p (by decide) w, xl 20 p (Or.inl (by decide)), yo 32 p (by decide) w, sz p w, ye 34 (by decide) (by decide) (by decide) (by decide) (by decide) (by decide) (by decide) (by decide)]
      exact h8 p hp1
  · unfold r_ro f_X_parts at h9 ⊢
    rw [e2, xe 10 (by decide) (by decide) (by decide) (by decide) (by decide) (by decide) (by decide), xe 11 (by decide) (by decide) (by decide) (by decide) (by decide) (by decide) (by decide), ye 40 (by decide) (by decide) (by decide) (by decide) (by decide) (by decide) (by decide) (by decide), yj 20 (by decide)]
    exact h9
  · rw [x07, yj 23 (by decide)]; exact h10
theorem z_comeN {T : z_S} {a b hh : Int32} : (g_M_come T a b hh).1 21 0 3 = T.1 21 0 3 := by
  unfold g_M_come
  by_cases w : 24 ≤ T.1 21 0 14
  · rw [if_pos w, z_rI, if_neg (by decide)]; rfl
  · rw [if_neg w, z_rI, if_neg (by decide)]; rfl
theorem z_frE {n : Nat} {S T : z_S} (h : Rr n S T) {v : Int32} {k : Nat} (hk : k < 6) : rg_M_poll_44_t0 T v (nI k) = if S.1 14 k 0 = 0 then nI k else v := by
  unfold rg_M_poll_44_t0
  obtain ⟨-, -, -, -, -, ⟨c, hc, hc5, hp, -⟩, -⟩ := h
  rw [nI_clamp (by omega), (hp.2.2.2 k hk).2.1]
theorem z_free {n : Nat} {S T : z_S} (h : Rr n S T) : (f_X_freePlace S = none ∧ (rg_M_poll_44_t0 T (rg_M_poll_44_t0 T (rg_M_poll_44_t0 T (rg_M_poll_44_t0 T (rg_M_poll_44_t0 T (rg_M_poll_44_t0 T (-1) 5) 4) 3) 2) 1) 0) = -1) ∨ ∃ i : Nat, i < 6 ∧ S.1 14 i 0 = 0 ∧ f_X_freePlace S = some i ∧ (rg_M_poll_44_t0 T (rg_M_poll_44_t0 T (rg_M_poll_44_t0 T (rg_M_poll_44_t0 T (rg_M_poll_44_t0 T (rg_M_poll_44_t0 T (-1) 5) 4) 3) 2) 1) 0) = nI i := by
  have e : (rg_M_poll_44_t0 T (rg_M_poll_44_t0 T (rg_M_poll_44_t0 T (rg_M_poll_44_t0 T (rg_M_poll_44_t0 T (rg_M_poll_44_t0 T (-1) 5) 4) 3) 2) 1) 0) = if S.1 14 0 0 = 0 then nI 0 else if S.1 14 1 0 = 0 then nI 1 else if S.1 14 2 0 = 0 then nI 2 else if S.1 14 3 0 = 0 then nI 3 else if S.1 14 4 0 = 0 then nI 4 else if S.1 14 5 0 = 0 then nI 5 else (-1) := by
    show rg_M_poll_44_t0 T (rg_M_poll_44_t0 T (rg_M_poll_44_t0 T (rg_M_poll_44_t0 T (rg_M_poll_44_t0 T (rg_M_poll_44_t0 T (-1) (nI 5)) (nI 4)) (nI 3)) (nI 2)) (nI 1)) (nI 0) = _
    rw [z_frE h (k := 0) (by decide), z_frE h (k := 1) (by decide), z_frE h (k := 2) (by decide), z_frE h (k := 3) (by decide), z_frE h (k := 4) (by decide), z_frE h (k := 5) (by decide)]
  rw [e]
  unfold f_X_freePlace
  by_cases q0 : S.1 14 0 0 = 0
  · rw [if_pos q0, if_pos q0]
    exact Or.inr ⟨0, by decide, q0, rfl, rfl⟩
  rw [if_neg q0, if_neg q0]
  by_cases q1 : S.1 14 1 0 = 0
  · rw [if_pos q1, if_pos q1]
    exact Or.inr ⟨1, by decide, q1, rfl, rfl⟩
  rw [if_neg q1, if_neg q1]
  by_cases q2 : S.1 14 2 0 = 0
  · rw [if_pos q2, if_pos q2]
    exact Or.inr ⟨2, by decide, q2, rfl, rfl⟩
  rw [if_neg q2, if_neg q2]
  by_cases q3 : S.1 14 3 0 = 0
  · rw [if_pos q3, if_pos q3]
    exact Or.inr ⟨3, by decide, q3, rfl, rfl⟩
  rw [if_neg q3, if_neg q3]
  by_cases q4 : S.1 14 4 0 = 0
  · rw [if_pos q4, if_pos q4]
    exact Or.inr ⟨4, by decide, q4, rfl, rfl⟩
  rw [if_neg q4, if_neg q4]
  by_cases q5 : S.1 14 5 0 = 0
  · rw [if_pos q5, if_pos q5]
    exact Or.inr ⟨5, by decide, q5, rfl, rfl⟩
  rw [if_neg q5, if_neg q5]
  exact Or.inl ⟨rfl, rfl⟩
def z_S9 (S : z_S) (i c d q : Nat) (x : Int64) : z_S := g_P_begin (z_sI (z_sI S 0 0 6 (nI (c + 1))) 9 0 (c + 1) 0) i (nI (c + 1)) (nI d) (nI q) x (S.1 10 0 0)
def z_T9 (T : z_S) (i c d q : Nat) (x : Int64) : z_S := z_sI (z_sI (z_sI (z_sI (z_sL (z_sI (z_sI (z_sI (z_sI T 21 0 3 (nI (c + 1))) 26 0 i (nI (c + 1))) 27 0 i (nI d)) 28 0 i (nI q)) 29 0 i x) 30 0 i (T.1 21 0 20)) 31 0 i 0) 32 0 i 0) 25 0 (c + 1) 0
theorem z_beg9 {n : Nat} {S T : z_S} {c : Nat} (hc : c ≤ n) (hc5 : c < 512) (h : Rr n S T) (e06 : S.1 0 0 6 = nI c) {i d q : Nat} (hi : i < 6) (hd : d < 6) (hq : q < 8) (hqb : (q : Int) < (S.1 2 0 d).toInt) (x : Int64) : Rr (n + 1) (z_S9 S i c d q x) (z_T9 T i c d q x) := by
  have hrn : S.1 10 0 0 = T.1 21 0 20 := by
    obtain ⟨-, -, -, -, -, -, -, -, ⟨r, -, r1, r2, -⟩, -⟩ := h
    rw [r1, r2]
  refine z_beg hc hc5 h e06 hi hd hq hqb ?_ ?_ ?_ ?_ ?_ ?_ ?_ ?_ ?_ ?_ ?_ ?_ ?_ ?_ ?_ ?_ ?_ ?_ ?_ ?_ ?_ ?_ ?_ ?_ ?_ ?_
  · intro a w1 w2 w3 w4 w5 w6 w7
    unfold z_S9 g_P_begin g_A_forget_15 g_A_forget_18
    funext o
    rw [z_sI_ne _ _ _ _ _ (fun w => by omega), z_sI_ne _ _ _ _ _ (fun w => by omega), z_sI_ne _ _ _ _ _ (fun w => by omega), z_sI_ne _ _ _ _ _ (fun w => by omega), z_sI_ne _ _ _ _ _ (fun w => by omega), z_sI_ne _ _ _ _ _ (fun w => by omega), z_sI_ne _ _ _ _ _ (fun w => by omega), z_sI_ne _ _ _ _ _ (fun w => by omega), z_sI_ne _ _ _ _ _ (fun w => by omega), z_rLI, z_sI_ne _ _ _ _ _ (fun w => by omega), z_sI_ne _ _ _ _ _ (fun w => by omega), z_sI_ne _ _ _ _ _ (fun w => by omega), z_sI_ne _ _ _ _ _ (fun w => by omega), z_sI_ne _ _ _ _ _ (fun w => by omega)]
  · intro a p w1 w2
    unfold z_S9 g_P_begin g_A_forget_15 g_A_forget_18
    rw [z_sI_ne _ _ _ _ _ (fun w => by omega), z_sI_ne _ _ _ _ _ (fun w => by omega), z_sI_ne _ _ _ _ _ (fun w => by omega), z_sI_ne _ _ _ _ _ (fun w => by omega), z_sI_ne _ _ _ _ _ (fun w => by omega), z_sI_ne _ _ _ _ _ (fun w => by omega), z_sI_ne _ _ _ _ _ (fun w => by omega), z_sI_ne _ _ _ _ _ (fun w => by omega), z_sI_ne _ _ _ _ _ (fun w => by omega), z_rLI, z_sI_ne _ _ _ _ _ (fun w => by omega), z_sI_ne _ _ _ _ _ (fun w => by omega), z_sI_ne _ _ _ _ _ (fun w => by omega), z_sI_ne _ _ _ _ _ (fun w => by omega), z_sI_ne _ _ _ _ _ (fun w => by omega)]
  · intro a p w
    unfold z_S9 g_P_begin g_A_forget_15 g_A_forget_18
    simp only [z_rIL]
    rw [z_sL_ne _ _ _ _ _ (fun w => by omega)]
    simp only [z_rIL]
  · unfold z_S9 g_P_begin g_A_forget_15 g_A_forget_18
    simp [z_rI, z_rLI]
  · unfold z_S9 g_P_begin g_A_forget_15 g_A_forget_18
    simp [z_rI, z_rLI]
  · intro r
    unfold z_S9 g_P_begin g_A_forget_15 g_A_forget_18
    simp [z_rI, z_rLI]
  · unfold z_S9 g_P_begin g_A_forget_15 g_A_forget_18
    simp [z_rI, z_rLI]
  · unfold z_S9 g_P_begin g_A_forget_15 g_A_forget_18
    simp [z_rI, z_rLI]
  · unfold z_S9 g_P_begin g_A_forget_15 g_A_forget_18
    simp [z_rI, z_rLI]
  · unfold z_S9 g_P_begin g_A_forget_15 g_A_forget_18
    unfold z_T9
    simp [z_rIL, z_rL]
  · unfold z_S9 g_P_begin g_A_forget_15 g_A_forget_18
    unfold z_T9
    simp [z_rI, z_rLI, hrn]
  · unfold z_S9 g_P_begin g_A_forget_15 g_A_forget_18
    simp [z_rI, z_rLI]
  · unfold z_S9 g_P_begin g_A_forget_15 g_A_forget_18
    simp [z_rI, z_rLI]
  · intro k hk
    unfold z_S9 g_P_begin g_A_forget_15 g_A_forget_18
    rcases (show k = 0 ∨ k = 1 ∨ k = 2 by omega) with rfl | rfl | rfl <;> simp [z_rI, z_rLI]
  · intro k hk
    unfold z_S9 g_P_begin g_A_forget_15 g_A_forget_18
    rcases (show k = 0 ∨ k = 1 ∨ k = 2 by omega) with rfl | rfl | rfl <;> simp [z_rI, z_rLI]
  · intro a w1 w2 w3 w4 w5 w6 w7 w8
    unfold z_T9
    funext o
    rw [z_sI_ne _ _ _ _ _ (fun w => by omega), z_sI_ne _ _ _ _ _ (fun w => by omega), z_sI_ne _ _ _ _ _ (fun w => by omega), z_sI_ne _ _ _ _ _ (fun w => by omega), z_rLI, z_sI_ne _ _ _ _ _ (fun w => by omega), z_sI_ne _ _ _ _ _ (fun w => by omega), z_sI_ne _ _ _ _ _ (fun w => by omega), z_sI_ne _ _ _ _ _ (fun w => by omega)]
  · intro a p w1 w2
    unfold z_T9
    simp only [z_rI, z_rLI]
    rw [if_neg (by omega), if_neg (by omega), if_neg (by omega), if_neg (by omega), if_neg (by omega), if_neg (by omega), if_neg (by omega), if_neg (by omega)]
  · intro a p w
    unfold z_T9
    simp only [z_rIL, z_rL]
    rw [if_neg (by omega)]
  · unfold z_T9
    simp [z_rI, z_rLI]
  · intro j hj
    unfold z_T9
    simp [z_rI, z_rLI, hj]
  · intro r
    unfold z_T9
    simp [z_rI, z_rLI]
  · unfold z_T9
    simp [z_rI, z_rLI]
  · unfold z_T9
    simp [z_rI, z_rLI]
  · unfold z_T9
    simp [z_rI, z_rLI]
  · unfold z_T9
    simp [z_rI, z_rLI]
  · unfold z_T9
    simp [z_rI, z_rLI]
theorem z_bg1 {T : z_S} {b : Int32} {k : Nat} (hk : k < 3) : rg_M_again_85_S1 T b 1 0 (nI k) = g_M_come T 1 b (nI k) := by
  unfold rg_M_again_85_S1
  rcases (show k = 0 ∨ k = 1 ∨ k = 2 by omega) with rfl | rfl | rfl <;> rw [if_pos (by decide)]
theorem sm_poll {n : Nat} {S T : z_S} (h : Rr n S T) (hn : n < 512) (x0 : Int32) (x1 : Int32) (x2 : Int64) : (f_X_poll S x0 x1 x2) = (f_M_poll T x0 x1 x2) ∧ Rr (n + 1) (g_X_poll S x0 x1 x2) (g_M_poll T x0 x1 x2) := by
  unfold f_X_poll f_M_poll g_X_poll g_M_poll f_X_isDeposit f_X_isPart
  by_cases c1 : x0 < 0
  · simp only [if_pos c1, if_pos]
    exact ⟨trivial, h.up⟩
  simp only [if_neg c1]
  by_cases c2 : 6 ≤ x0
  · have c2' : 5 < x0 := by
      rw [Int32.lt_iff_toInt_lt]
      rw [Int32.le_iff_toInt_le] at c2
      have w1 : (5 : Int32).toInt = 5 := by decide
      have w2 : (6 : Int32).toInt = 6 := by decide
      omega
    simp only [if_pos c2, if_pos c2', if_pos]
    exact ⟨trivial, h.up⟩
  have c2' : ¬ 5 < x0 := by
    rw [Int32.lt_iff_toInt_lt]
    rw [Int32.le_iff_toInt_le] at c2
    have w1 : (5 : Int32).toInt = 5 := by decide
    have w2 : (6 : Int32).toInt = 6 := by decide
    omega
  have one : ¬ (1 : Int32) = 0 := by decide
  simp only [if_neg c2, if_neg c2', if_neg one]
  by_cases c3 : x1 < 0
  · simp only [if_pos c3, if_pos]
    exact ⟨trivial, h.up⟩
  simp only [if_neg c3]
  by_cases c4 : 8 ≤ x1
  · have c4' : ¬ x1 ≤ 7 := by
      rw [Int32.le_iff_toInt_le]
      rw [Int32.le_iff_toInt_le] at c4
      have w1 : (7 : Int32).toInt = 7 := by decide
      have w2 : (8 : Int32).toInt = 8 := by decide
      omega
    simp only [if_pos c4, if_neg c4', if_pos]
    exact ⟨trivial, h.up⟩
  have c4' : x1 ≤ 7 := by
    rw [Int32.le_iff_toInt_le]
    rw [Int32.le_iff_toInt_le] at c4
    have w1 : (7 : Int32).toInt = 7 := by decide
    have w2 : (8 : Int32).toInt = 8 := by decide
    omega
  simp only [if_neg c4, if_pos c4', if_neg one]
  obtain ⟨d, hd, rfl⟩ := vp_in_of (z_rg (n := 6) c1 c2) (by decide)
  obtain ⟨q, hq, rfl⟩ := vp_in_of (z_rg (n := 8) c3 c4) (by decide)
  obtain ⟨b, hb, eB1, eB2⟩ := z_blN h hd
  rw [nI_clamp (by omega), eB1, z_sizeN hd hq eB2 hb]
  by_cases c5 : ¬ q < b
  · have w : ¬ nI q < nI b := nI_nlt (by omega) (by omega)
    have w2 : nI 0 = (0 : Int32) := rfl
    simp only [if_neg w, if_neg c5, if_pos w2]
    exact ⟨trivial, h.up⟩
  have c5 := Classical.not_not.mp c5
  have w : nI q < nI b := nI_lt c5 (by omega)
  have w2 : ¬ nI (if b ≤ q + 8 then 1 else 2) = 0 := by
    by_cases z : b ≤ q + 8
    · rw [if_pos z]; decide
    · rw [if_neg z]; decide
  simp only [if_pos w, if_pos c5, if_neg w2]
  rcases z_free h with ⟨r1, r2⟩ | ⟨i, hi, r0, r1, r2⟩
  · rw [z_opt_n r1, z_opt_n r1, r2, if_neg (by decide), if_neg (by decide)]
    exact ⟨rfl, h.up⟩
  · obtain ⟨c, hc, hc5, e1, e2, -⟩ := z_pollN h
    rw [z_opt_s r1, z_opt_s r1, r2, if_pos (nI_pos' (by omega)), if_pos (nI_pos' (by omega)), nI_clamp (by omega), e1, e2, if_pos (show nI c < (512 : Int32) from nI_lt (b := 512) (by omega) (by decide)), if_pos (show nI c < (512 : Int32) from nI_lt (b := 512) (by omega) (by decide)), show nI c + 1 = nI (c + 1) from nI_add c 1, nI_clamp (by omega)]
    have hR := z_beg9 (x := x2) hc (by omega) h e1 hi hd hq (by rw [eB1, nI_toInt (by omega)]; omega)
    have s14 : (z_S9 S i c d q x2).1 14 i 0 = nI (c + 1) := by
      unfold z_S9 g_P_begin g_A_forget_15 g_A_forget_18
      simp [z_rI, z_rLI]
    have s06 : (z_S9 S i c d q x2).1 0 0 6 = nI (c + 1) := by
      unfold z_S9 g_P_begin g_A_forget_15 g_A_forget_18
      simp [z_rI, z_rLI]
    have t31 : (z_T9 T i c d q x2).1 31 0 i = 0 := by
      unfold z_T9
      simp [z_rI, z_rLI]
    have t3 : (z_T9 T i c d q x2).1 21 0 3 = nI (c + 1) := by
      unfold z_T9
      simp [z_rI, z_rLI]
    change (g_X_sendToAwaited (z_S9 S i c d q x2) i).1 0 0 6 = (g_M_come (g_M_come (g_M_come (z_T9 T i c d q x2) 1 (nI (c + 1)) 0) 1 ((g_M_come (z_T9 T i c d q x2) 1 (nI (c + 1)) 0).1 21 0 3) 1) 1 ((g_M_come (g_M_come (z_T9 T i c d q x2) 1 (nI (c + 1)) 0) 1 ((g_M_come (z_T9 T i c d q x2) 1 (nI (c + 1)) 0).1 21 0 3) 1).1 21 0 3) 2).1 21 0 3 ∧ Rr (n + 1) (g_X_sendToAwaited (z_S9 S i c d q x2) i) (g_M_come (g_M_come (g_M_come (z_T9 T i c d q x2) 1 (nI (c + 1)) 0) 1 ((g_M_come (z_T9 T i c d q x2) 1 (nI (c + 1)) 0).1 21 0 3) 1) 1 ((g_M_come (g_M_come (z_T9 T i c d q x2) 1 (nI (c + 1)) 0) 1 ((g_M_come (z_T9 T i c d q x2) 1 (nI (c + 1)) 0).1 21 0 3) 1).1 21 0 3) 2)
    generalize z_S9 S i c d q x2 = S9 at *
    generalize z_T9 T i c d q x2 = T9 at *
    obtain ⟨-, a2, a3⟩ := z_sendA hR hi s14 (by omega) (by omega)
    rw [z_comeN, z_comeN, z_comeN, t3]
    rw [t31, if_neg (by decide)] at a2
    have a2 : Rr (n + 1) (g_X_sendToAwaited S9 i) (rg_M_again_85_S1 (rg_M_again_85_S1 (rg_M_again_85_S1 T9 (nI (c + 1)) 1 0 (nI 0)) (nI (c + 1)) 1 0 (nI 1)) (nI (c + 1)) 1 0 (nI 2)) := a2
    rw [z_bg1 (by decide), z_bg1 (by decide), z_bg1 (by decide)] at a2
    exact ⟨by rw [a3 0 (by decide)]; exact s06, a2⟩
