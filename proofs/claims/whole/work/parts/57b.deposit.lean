/-- one house gets its copy, on both sides -/
theorem z_recv {S T : z_S} (h : r_by S T) {q d : Nat} (x : Int32) (hq : q < 3) (hd : d < 6) : ∀ N : Nat, N ≤ 64 → (∀ k, k < N → T.1 22 0 (384 * q + 64 * d + k) = 0) → r_by (z_it (fun (kk9 : Nat) (T9 : z_S) => rg_H_receive_3i_S1 T9 q (nI d) x kk9) 0 N S) (z_it (fun (kk9 : Nat) (T9 : z_S) => rg_M_deposit_80i_S1 T9 (nI d) x (nI q) kk9) 0 N T) ∧ (∀ a k, a < 3 → k < 64 → a ≠ q ∨ N ≤ k → (z_it (fun (kk9 : Nat) (T9 : z_S) => rg_M_deposit_80i_S1 T9 (nI d) x (nI q) kk9) 0 N T).1 22 0 (384 * a + 64 * d + k) = T.1 22 0 (384 * a + 64 * d + k)) ∧ (∀ a, a ≠ 13 → (z_it (fun (kk9 : Nat) (T9 : z_S) => rg_H_receive_3i_S1 T9 q (nI d) x kk9) 0 N S).1 a = S.1 a) ∧ (z_it (fun (kk9 : Nat) (T9 : z_S) => rg_H_receive_3i_S1 T9 q (nI d) x kk9) 0 N S).2 = S.2 ∧ (∀ a, a ≠ 22 → (z_it (fun (kk9 : Nat) (T9 : z_S) => rg_M_deposit_80i_S1 T9 (nI d) x (nI q) kk9) 0 N T).1 a = T.1 a) ∧ (z_it (fun (kk9 : Nat) (T9 : z_S) => rg_M_deposit_80i_S1 T9 (nI d) x (nI q) kk9) 0 N T).2 = T.2 ∧ (∀ a w, ¬ (16 * d ≤ w ∧ 4 * w < 64 * d + N) → (z_it (fun (kk9 : Nat) (T9 : z_S) => rg_H_receive_3i_S1 T9 q (nI d) x kk9) 0 N S).1 13 a w = S.1 13 a w) := by
  intro N
  induction N with
  | zero => intro _ _; exact ⟨h, fun _ _ _ _ _ => rfl, fun _ _ => rfl, rfl, fun _ _ => rfl, rfl, fun _ _ _ => rfl⟩
  | succ N ih =>
    intro hN h0
    obtain ⟨i1, i2, i3, i4, i5, i6, i7⟩ := ih (by omega) (fun k hk => h0 k (by omega))
    have z0 := h0 N (by omega)
    rw [z_it_snoc, z_it_snoc]
    generalize z_it (fun (kk9 : Nat) (T9 : z_S) => rg_H_receive_3i_S1 T9 q (nI d) x kk9) 0 N S = A at i1 i3 i4 i7 ⊢
    generalize z_it (fun (kk9 : Nat) (T9 : z_S) => rg_M_deposit_80i_S1 T9 (nI d) x (nI q) kk9) 0 N T = B at i1 i2 i5 i6 ⊢
    have e1 : rg_H_receive_3i_S1 A q (nI d) x (0 + N) = g_H_flip A q (nI d) (nI N) ((x + 31 * nI N) &&& 255) := by
      unfold rg_H_receive_3i_S1
      rw [Nat.zero_add]
    have e2 : rg_M_deposit_80i_S1 B (nI d) x (nI q) (0 + N) = z_sI B 22 0 (384 * q + 64 * d + N) ((x + 31 * nI N) &&& 255) := by
      unfold rg_M_deposit_80i_S1
      rw [Nat.zero_add]
      show z_sI B 22 0 (nI 384 * nI q + nI 64 * nI d + nI N).toNatClampNeg _ = _
      rw [pk_mul, pk_mul, nI_add, nI_add, nI_clamp (by omega)]
    show r_by (rg_H_receive_3i_S1 A q (nI d) x (0 + N)) (rg_M_deposit_80i_S1 B (nI d) x (nI q) (0 + N)) ∧ (∀ a k, a < 3 → k < 64 → a ≠ q ∨ N + 1 ≤ k → (rg_M_deposit_80i_S1 B (nI d) x (nI q) (0 + N)).1 22 0 (384 * a + 64 * d + k) = _) ∧ (∀ a, a ≠ 13 → (rg_H_receive_3i_S1 A q (nI d) x (0 + N)).1 a = _) ∧ (rg_H_receive_3i_S1 A q (nI d) x (0 + N)).2 = _ ∧ (∀ a, a ≠ 22 → (rg_M_deposit_80i_S1 B (nI d) x (nI q) (0 + N)).1 a = _) ∧ (rg_M_deposit_80i_S1 B (nI d) x (nI q) (0 + N)).2 = _ ∧ (∀ a w, ¬ (16 * d ≤ w ∧ 4 * w < 64 * d + (N + 1)) → (rg_H_receive_3i_S1 A q (nI d) x (0 + N)).1 13 a w = _)
    rw [e1, e2]
    have zz : z_byte (A.1 13 q (16 * d + N / 4)) (N % 4) = 0 := by
      rw [← i1 q (16 * d + N / 4) (N % 4) hq (by omega) (by omega), show 384 * q + 4 * (16 * d + N / 4) + N % 4 = 384 * q + 64 * d + N by omega, i2 q N hq (by omega) (Or.inr (Nat.le_refl _)), z0]
    refine ⟨z_setB i1 (m := x + 31 * nI N) hq hd (by omega) (by rw [zz, Int32.zero_xor]), fun a k ha hk hor => ?_, fun a ha => ?_, ?_, fun a ha => ?_, ?_, fun a w hw => ?_⟩
    · rw [z_rI, if_neg (by omega)]
      exact i2 a k ha hk (by omega)
    · rw [z_flipX hd (by omega), ← i3 a ha]
      funext o
      exact z_sI_ne _ _ _ _ _ (fun w => ha w.1)
    · rw [z_flipX hd (by omega), z_rIL]; exact i4
    · rw [← i5 a ha]
      funext o
      exact z_sI_ne _ _ _ _ _ (fun w => ha w.1)
    · rw [z_rIL]; exact i6
    · rw [z_flipX hd (by omega), z_rI, if_neg (by omega)]
      exact i7 a w (by omega)
theorem z_cnt0 {f : Nat → Int32} : ∀ {n : Nat}, (∀ k, k < n → f k = 0) → z_cnt f n = 0
  | 0, _ => rfl
  | n + 1, h => by
    show z_cnt f n + z_bit (f n) = 0
    rw [z_cnt0 (fun k hk => h k (by omega)), h n (by omega)]
    rfl
theorem z_np1 {b c : Nat → Nat} {d : Nat} (hd : d < 6) (h0 : b d = 0) (h1 : 1 ≤ c d) (h : ∀ e, e ≠ d → c e = b e) : z_np b + 1 ≤ z_np c := by
  have m0 := h 0
  have m1 := h 1
  have m2 := h 2
  have m3 := h 3
  have m4 := h 4
  have m5 := h 5
  unfold z_np
  rcases (show d = 0 ∨ d = 1 ∨ d = 2 ∨ d = 3 ∨ d = 4 ∨ d = 5 by omega) with rfl | rfl | rfl | rfl | rfl | rfl <;> omega
/-- a deposit gets its blocks -/
theorem z_newDep {n : Nat} {S T S2 T2 : z_S} (h : Rr n S T) {d b : Nat} (hd : d < 6) (hb : 1 ≤ b) (hb2 : b ≤ 16) (h0 : S.1 2 0 d = 0)
    (x2 : S2.1 2 0 d = nI b) (x2o : ∀ e, e ≠ d → S2.1 2 0 e = S.1 2 0 e) (y2 : T2.1 23 0 d = nI b) (y2o : ∀ e, e ≠ d → T2.1 23 0 e = T.1 23 0 e)
    (xe : ∀ a, a ≠ 2 → a ≠ 13 → S2.1 a = S.1 a) (xl : S2.2 = S.2) (ye : ∀ a, a ≠ 22 → a ≠ 23 → T2.1 a = T.1 a) (yl : T2.2 = T.2)
    (hby : r_by S2 T2) (hw : ∀ a w, ¬ (16 * d ≤ w ∧ w < 16 * d + b) → S2.1 13 a w = S.1 13 a w) : Rr n S2 T2 := by
  obtain ⟨B, hB⟩ := z_blF h
  have hB0 : B d = 0 := by
    have := (hB d hd).1
    rw [h0] at this
    exact ((nI_eq (a := 0) (by decide) (by have := (hB d hd).2.1; omega)).mp this).symm
  obtain ⟨h1, h2, h3, h4, h5, ⟨c, hc, hc5, hp, hl⟩, h7, h8, h9, h10⟩ := h
  have pd : ∀ p, p < 6 → S.1 14 p 0 ≠ 0 → (S.1 14 p 1).toNatClampNeg ≠ d := by
    intro p hp1 hp0 hpd
    obtain ⟨⟨v, e, q, hv, he, hq, e0, e1, e2, e3⟩, -⟩ := hp.2.2.2 p hp1
    rw [e1, nI_clamp (by omega)] at hpd
    subst hpd
    have := e3 (by intro w; subst w; exact hp0 e0)
    rw [h0] at this
    have w0 : (0 : Int32).toInt = 0 := by decide
    omega
  have sz : ∀ p, p < 6 → S.1 14 p 0 ≠ 0 → z_sz S2 p = z_sz S p := by
    intro p hp1 hp0
    unfold z_sz
    rw [xe 14 (by decide) (by decide), x2o _ (pd p hp1 hp0)]
  refine ⟨fun e he => ?_, ?_, ?_, hby, fun a e q ha he hq hz => ?_, ⟨c, hc, hc5, ?_, ?_⟩, ?_, ?_, ?_, ?_⟩
  · by_cases w : e = d
    · subst w
      rw [x2, y2, nI_toInt (by omega)]
      exact ⟨rfl, by omega, by omega⟩
    · rw [x2o e w, y2o e w]; exact h1 e he
  · unfold r_op at h2 ⊢
    rw [xe 12 (by decide) (by decide), ye 24 (by decide) (by decide)]; exact h2
  · unfold r_me at h3 ⊢
    rw [xe 12 (by decide) (by decide), ye 41 (by decide) (by decide)]; exact h3
  · by_cases w : e = d
    · subst w
      rw [x2, nI_toInt (by omega)] at hz
      rw [hw a _ (by omega)]
      refine h5 a e q ha he hq ?_
      rw [h0]
      have w0 : (0 : Int32).toInt = 0 := by decide
      omega
    · rw [x2o e w] at hz
      rw [hw a _ (by omega)]
      exact h5 a e q ha he hq hz
  · unfold r_po at hp ⊢
    rw [xe 0 (by decide) (by decide), xe 9 (by decide) (by decide), xe 14 (by decide) (by decide), xl, yl, ye 21 (by decide) (by decide), ye 25 (by decide) (by decide), ye 26 (by decide) (by decide), ye 27 (by decide) (by decide), ye 28 (by decide) (by decide), ye 30 (by decide) (by decide)]
    refine ⟨hp.1, hp.2.1, hp.2.2.1, fun p hp1 => ?_⟩
    obtain ⟨⟨v, e, q, hv, he, hq, e0, e1, e2, e3⟩, hr⟩ := hp.2.2.2 p hp1
    refine ⟨⟨v, e, q, hv, he, hq, e0, e1, e2, fun hv0 => ?_⟩, hr⟩
    have := pd p hp1 (by rw [e0]; exact nI_ne0 (by omega) (by omega))
    rw [e1, nI_clamp (by omega)] at this
    rw [x2o e this]
    exact e3 hv0
  · obtain ⟨m, hm, l1, l2, l3, l4, l5⟩ := hl
    refine ⟨m, hm, ?_, ?_, ?_, ?_, fun k hk => ?_⟩
    · rw [xe 3 (by decide) (by decide)]; exact l1
    · rw [ye 21 (by decide) (by decide)]; exact l2
    · rw [xe 6 (by decide) (by decide)]; exact l3
    · rw [ye 37 (by decide) (by decide)]; exact l4
    · have L : z_Lt c S _ _ _ (S.2 7 0 k) _ _ _ (T.2 38 0 k) (fun i => T.1 39 0 (8 * k + i)) := l5 k hk
      have L2 := L.ctx (S2 := S2) (Nat.le_refl c) (fun p u hp1 hu hu2 e => by
        rw [xe 14 (by decide) (by decide)] at e
        exact ⟨e, sz p hp1 (by rw [e]; exact nI_ne0 (by omega) (by omega))⟩)
      show z_Lt c S2 _ _ _ (S2.2 7 0 k) _ _ _ (T2.2 38 0 k) (fun i => T2.1 39 0 (8 * k + i))
      rw [xe 4 (by decide) (by decide), xe 5 (by decide) (by decide), xe 6 (by decide) (by decide), xl, yl, ye 35 (by decide) (by decide), ye 36 (by decide) (by decide), ye 37 (by decide) (by decide), ye 39 (by decide) (by decide)]
      exact L2
  · unfold r_su at h7 ⊢
    rw [xe 16 (by decide) (by decide), xe 15 (by decide) (by decide), xl, yl, ye 31 (by decide) (by decide)]
    exact h7
  · intro p hp1
    obtain ⟨k1, k2, k3, k4, k5⟩ := h8 p hp1
    rw [xe 19 (by decide) (by decide), xe 18 (by decide) (by decide), xe 15 (by decide) (by decide), xe 14 (by decide) (by decide), xl, ye 32 (by decide) (by decide), ye 34 (by decide) (by decide)]
    refine ⟨k1, k2, k3, k4, fun w => ?_⟩
    rw [sz p hp1 w]
    exact k5 w
  · obtain ⟨r, r1, r2, r3, r4, r5, r6, r7⟩ := h9
    have h40 : ∀ k, k < 48 → k / 8 = d → ¬ T.1 40 0 k = 1 := by
      intro k hk hkd w
      have := (r4 k hk).2.2.2 w
      rw [hkd, h0] at this
      have w0 : (0 : Int32).toInt = 0 := by decide
      omega
    refine ⟨r, r1, ?_, ?_, fun k hk => ?_, ?_, Or.inr ?_, r7⟩
    · rw [xe 10 (by decide) (by decide)]; exact r2
    · rw [ye 21 (by decide) (by decide)]; exact r3
    · rw [xe 11 (by decide) (by decide), ye 40 (by decide) (by decide)]
      refine ⟨(r4 k hk).1, (r4 k hk).2.1, (r4 k hk).2.2.1, fun w => ?_⟩
      rw [x2o _ (fun q => h40 k hk q w)]
      exact (r4 k hk).2.2.2 w
    · rw [xe 10 (by decide) (by decide), ye 40 (by decide) (by decide)]; exact r5
    · rw [ye 40 (by decide) (by decide)]
      have p1 := z_partsN (S := S) (b := B) (fun e he => ⟨(hB e he).1, (hB e he).2.1⟩)
      have p2 := z_partsN (S := S2) (b := fun e => if e = d then b else B e) (fun e he => by
        by_cases w : e = d
        · subst w
          simp only [if_pos]
          exact ⟨x2, hb2⟩
        · simp only [if_neg w]
          rw [x2o e w]
          exact ⟨(hB e he).1, (hB e he).2.1⟩)
      have p3 := z_np1 (b := B) (c := fun e => if e = d then b else B e) hd hB0 (by simp only [if_pos]; exact hb) (fun e he => if_neg he)
      have np48 : ∀ b : Nat → Nat, z_np b ≤ 48 := by intro b; unfold z_np; omega
      have q1 := np48 B
      have q2 := np48 (fun e => if e = d then b else B e)
      rw [p2, nI_toInt (by omega)]
      rw [p1, nI_toInt (by omega)] at r6
      rcases r6 with r6 | r6
      · rw [z_cnt0 (fun k hk => ?_)]
        · omega
        · rcases (r4 k hk).1 with w | w
          · exact w
          · have := (r4 k hk).2.2.2 w
            rw [r6 _ (by omega)] at this
            have w0 : (0 : Int32).toInt = 0 := by decide
            omega
      · omega
  · rw [xe 0 (by decide) (by decide), ye 21 (by decide) (by decide)]; exact h10
theorem sm_deposit {n : Nat} {S T : z_S} (h : Rr n S T) (hn : n < 512) (x0 : Int32) (x1 : Int32) (x2 : Int32) : (f_X_deposit S x0 x1) = (f_M_deposit T x0 x1) ∧ Rr (n + 1) (g_X_deposit S x0 x1 x2) (g_M_deposit T x0 x1 x2) := by
  unfold f_X_deposit f_M_deposit g_X_deposit g_M_deposit f_X_isDeposit
  by_cases c1 : x0 < 0
  · simp only [if_pos c1, if_pos]
    exact ⟨trivial, h.up⟩
  simp only [if_neg c1]
  by_cases c2 : 6 ≤ x0
  · have c2' : 5 < x0 := by
      rw [Int32.lt_iff_toInt_lt]
      rw [Int32.le_iff_toInt_le] at c2
      have w1 : (5 : Int32).toInt = 5 := by decide
      have w2 : (6 : Int32).toInt = 6 := by decide
      omega
    simp only [if_pos c2, if_pos c2', if_pos]
    exact ⟨trivial, h.up⟩
  have c2' : ¬ 5 < x0 := by
    rw [Int32.lt_iff_toInt_lt]
    rw [Int32.le_iff_toInt_le] at c2
    have w1 : (5 : Int32).toInt = 5 := by decide
    have w2 : (6 : Int32).toInt = 6 := by decide
    omega
  have one : ¬ (1 : Int32) = 0 := by decide
  simp only [if_neg c2, if_neg c2', if_neg one]
  by_cases c3 : x1 < 1
  · simp only [if_pos c3]
    exact ⟨trivial, h.up⟩
  simp only [if_neg c3]
  by_cases c4 : ¬ x1 ≤ 16
  · simp only [if_neg c4]
    exact ⟨trivial, h.up⟩
  have c4 := Classical.not_not.mp c4
  simp only [if_pos c4]
  obtain ⟨d, hd, rfl⟩ := vp_in_of (z_rg (n := 6) c1 c2) (by decide)
  obtain ⟨b, hb, rfl⟩ : ∃ b : Nat, b ≤ 16 ∧ x1 = nI b := nI_of2 (M := 16) (n := 16) (by decide) (fun w => c3 (by
    rw [Int32.lt_iff_toInt_lt] at w ⊢
    have w1 : (1 : Int32).toInt = 1 := by decide
    have w0 : (0 : Int32).toInt = 0 := by decide
    omega)) c4
  have hb1 : 1 ≤ b := by
    refine Nat.pos_of_ne_zero (fun w => c3 ?_)
    subst w
    decide
  rw [nI_clamp (by omega), nI_clamp (by omega), (h.1 d hd).1]
  obtain ⟨B, hB, eB1, eB2⟩ := z_blN h hd
  rw [eB2]
  by_cases c5 : ¬ B = 0
  · have w : 0 < nI B := nI_lt (a := 0) (by omega) (by omega)
    simp only [if_pos w]
    exact ⟨trivial, h.up⟩
  have c5 := Classical.not_not.mp c5
  subst c5
  have w : ¬ 0 < nI 0 := by decide
  simp only [if_neg w]
  unfold f_X_allHousesOpen
  rw [(h.2.1 0 (by decide)).1, (h.2.1 1 (by decide)).1, (h.2.1 2 (by decide)).1]
  by_cases o0 : T.1 24 0 0 = 0
  · simp only [if_pos o0, if_pos]
    exact ⟨trivial, h.up⟩
  simp only [if_neg o0]
  by_cases o1 : T.1 24 0 1 = 0
  · simp only [if_pos o1, if_pos]
    exact ⟨trivial, h.up⟩
  simp only [if_neg o1]
  by_cases o2 : T.1 24 0 2 = 0
  · simp only [if_pos o2, if_pos]
    exact ⟨trivial, h.up⟩
  simp only [if_neg o2, if_neg one]
  refine ⟨Int32.mul_comm _ _, ?_⟩
  have b0 : r_by (z_sI S 2 0 d (nI b)) (z_sI T 23 0 d (nI b)) := h.2.2.2.1
  have zz : ∀ a k, a < 3 → k < 64 → (z_sI T 23 0 d (nI b)).1 22 0 (384 * a + 64 * d + k) = 0 := by
    intro a k ha hk
    show T.1 22 0 (384 * a + 64 * d + k) = 0
    have e1 := h.2.2.2.1 a (16 * d + k / 4) (k % 4) ha (by omega) (by omega)
    rw [show 384 * a + 4 * (16 * d + k / 4) + k % 4 = 384 * a + 64 * d + k by omega] at e1
    have w0 : (nI 0).toInt = 0 := by decide
    rw [e1, h.2.2.2.2.1 a d (k / 4) ha hd (by omega) (by rw [eB1, w0]; omega), z_byte0 (by omega)]
  have A := z_recv b0 (q := 0) (d := d) x2 (by decide) hd (4 * b) (by omega) (fun k hk => zz 0 k (by decide) (by omega))
  have u1 : ∀ a, a ≠ 2 → (z_sI S 2 0 d (nI b)).1 a = S.1 a := fun a ha => funext fun o => z_sI_ne _ _ _ _ _ (fun w => ha w.1)
  have u2 : ∀ a, a ≠ 23 → (z_sI T 23 0 d (nI b)).1 a = T.1 a := fun a ha => funext fun o => z_sI_ne _ _ _ _ _ (fun w => ha w.1)
  have u3 : (z_sI S 2 0 d (nI b)).1 2 0 d = nI b := by rw [z_rI, if_pos ⟨rfl, rfl, rfl⟩]
  have u4 : ∀ e, e ≠ d → (z_sI S 2 0 d (nI b)).1 2 0 e = S.1 2 0 e := fun e he => by rw [z_rI, if_neg (fun w => he w.2.2)]
  have u5 : (z_sI T 23 0 d (nI b)).1 23 0 d = nI b := by rw [z_rI, if_pos ⟨rfl, rfl, rfl⟩]
  have u6 : ∀ e, e ≠ d → (z_sI T 23 0 d (nI b)).1 23 0 e = T.1 23 0 e := fun e he => by rw [z_rI, if_neg (fun w => he w.2.2)]
  have u7 : (z_sI S 2 0 d (nI b)).2 = S.2 := rfl
  have u8 : (z_sI T 23 0 d (nI b)).2 = T.2 := rfl
  unfold g_H_receive
  show Rr (n + 1) _ (z_it (fun (kk9 : Nat) (T9 : z_S) => rg_M_deposit_80i_S1 T9 (nI d) x2 (nI 2) kk9) 0 (4 * b) (z_it (fun (kk9 : Nat) (T9 : z_S) => rg_M_deposit_80i_S1 T9 (nI d) x2 (nI 1) kk9) 0 (4 * b) (z_it (fun (kk9 : Nat) (T9 : z_S) => rg_M_deposit_80i_S1 T9 (nI d) x2 (nI 0) kk9) 0 (4 * b) (z_sI T 23 0 d (nI b)))))
  generalize z_sI S 2 0 d (nI b) = S0 at *
  generalize z_sI T 23 0 d (nI b) = T0 at *
  obtain ⟨a1, a2, a3, a4, a5, a6, a7⟩ := A
  generalize z_it (fun (kk9 : Nat) (T9 : z_S) => rg_H_receive_3i_S1 T9 0 (nI d) x2 kk9) 0 (4 * b) S0 = S1 at *
  generalize z_it (fun (kk9 : Nat) (T9 : z_S) => rg_M_deposit_80i_S1 T9 (nI d) x2 (nI 0) kk9) 0 (4 * b) T0 = T1 at *
  obtain ⟨b1, b2, b3, b4, b5, b6, b7⟩ := z_recv a1 (q := 1) (d := d) x2 (by decide) hd (4 * b) (by omega) (fun k hk => by rw [a2 1 k (by decide) (by omega) (Or.inl (by decide))]; exact zz 1 k (by decide) (by omega))
  generalize z_it (fun (kk9 : Nat) (T9 : z_S) => rg_H_receive_3i_S1 T9 1 (nI d) x2 kk9) 0 (4 * b) S1 = S2 at *
  generalize z_it (fun (kk9 : Nat) (T9 : z_S) => rg_M_deposit_80i_S1 T9 (nI d) x2 (nI 1) kk9) 0 (4 * b) T1 = T2 at *
  obtain ⟨d1, d2, d3, d4, d5, d6, d7⟩ := z_recv b1 (q := 2) (d := d) x2 (by decide) hd (4 * b) (by omega) (fun k hk => by rw [b2 2 k (by decide) (by omega) (Or.inl (by decide)), a2 2 k (by decide) (by omega) (Or.inl (by decide))]; exact zz 2 k (by decide) (by omega))
  generalize z_it (fun (kk9 : Nat) (T9 : z_S) => rg_H_receive_3i_S1 T9 2 (nI d) x2 kk9) 0 (4 * b) S2 = S3 at *
  generalize z_it (fun (kk9 : Nat) (T9 : z_S) => rg_M_deposit_80i_S1 T9 (nI d) x2 (nI 2) kk9) 0 (4 * b) T2 = T3 at *
  refine Rr.up (z_newDep h hd hb1 hb (by rw [eB1]; rfl) ?_ (fun e he => ?_) ?_ (fun e he => ?_) (fun a ha ha2 => ?_) ?_ (fun a ha ha2 => ?_) ?_ d1 (fun a w hw => ?_))
  · rw [d3 2 (by decide), b3 2 (by decide), a3 2 (by decide)]; exact u3
  · rw [d3 2 (by decide), b3 2 (by decide), a3 2 (by decide)]; exact u4 e he
  · rw [d5 23 (by decide), b5 23 (by decide), a5 23 (by decide)]; exact u5
  · rw [d5 23 (by decide), b5 23 (by decide), a5 23 (by decide)]; exact u6 e he
  · rw [d3 a ha2, b3 a ha2, a3 a ha2]; exact u1 a ha
  · rw [d4, b4, a4]; exact u7
  · rw [d5 a ha, b5 a ha, a5 a ha]; exact u2 a ha2
  · rw [d6, b6, a6]; exact u8
  · rw [d7 a w (by omega), b7 a w (by omega), a7 a w (by omega), u1 13 (by decide)]
