theorem z_bitOne {f : Nat → Int32} {k : Nat} (hk : k < 3) : ((nI (z_bit (f 0) + 2 * z_bit (f 1) + 4 * z_bit (f 2)) >>> (nI k &&& 31)) &&& 1 = 1) ↔ ¬ f k = 0 := by
  have z0 := z_bit0 (x := f k)
  have l0 := z_bit_le (f 0)
  have l1 := z_bit_le (f 1)
  have l2 := z_bit_le (f 2)
  rw [← z0]
  rcases (show k = 0 ∨ k = 1 ∨ k = 2 by omega) with rfl | rfl | rfl <;> clear z0 <;> generalize z_bit (f 0) = b0 at * <;> generalize z_bit (f 1) = b1 at * <;> generalize z_bit (f 2) = b2 at * <;> rcases (show b0 = 0 ∨ b0 = 1 by omega) with rfl | rfl <;> rcases (show b1 = 0 ∨ b1 = 1 by omega) with rfl | rfl <;> rcases (show b2 = 0 ∨ b2 = 1 by omega) with rfl | rfl <;> decide
theorem z_bit1 : z_bit 1 = 1 := by decide
theorem z_orB {f g : Nat → Int32} {k : Nat} (hk : k < 3) (h0 : f k = 0) (hg : ∀ j, j < 3 → g j = if j = k then 1 else f j) : nI (z_bit (f 0) + 2 * z_bit (f 1) + 4 * z_bit (f 2)) ||| ((1 : Int32) <<< (nI k &&& 31)) = nI (z_bit (g 0) + 2 * z_bit (g 1) + 4 * z_bit (g 2)) ∧ z_cnt g 3 = z_cnt f 3 + 1 ∧ z_cnt f 3 ≤ 2 := by
  have zk : z_bit (f k) = 0 := z_bit0.mpr h0
  have l0 := z_bit_le (f 0)
  have l1 := z_bit_le (f 1)
  have l2 := z_bit_le (f 2)
  rw [z_cnt3, z_cnt3, hg 0 (by decide), hg 1 (by decide), hg 2 (by decide)]
  rcases (show k = 0 ∨ k = 1 ∨ k = 2 by omega) with rfl | rfl | rfl
  · rw [if_pos rfl, if_neg (by decide), if_neg (by decide), z_bit1, zk]
    generalize z_bit (f 1) = b1 at *
    generalize z_bit (f 2) = b2 at *
    rcases (show b1 = 0 ∨ b1 = 1 by omega) with rfl | rfl <;> rcases (show b2 = 0 ∨ b2 = 1 by omega) with rfl | rfl <;> decide
  · rw [if_neg (by decide), if_pos rfl, if_neg (by decide), z_bit1, zk]
    generalize z_bit (f 0) = b0 at *
    generalize z_bit (f 2) = b2 at *
    rcases (show b0 = 0 ∨ b0 = 1 by omega) with rfl | rfl <;> rcases (show b2 = 0 ∨ b2 = 1 by omega) with rfl | rfl <;> decide
  · rw [if_neg (by decide), if_neg (by decide), if_pos rfl, z_bit1, zk]
    generalize z_bit (f 0) = b0 at *
    generalize z_bit (f 1) = b1 at *
    rcases (show b0 = 0 ∨ b0 = 1 by omega) with rfl | rfl <;> rcases (show b1 = 0 ∨ b1 = 1 by omega) with rfl | rfl <;> decide
theorem z_b7 {f : Nat → Int32} : (7 ≤ nI (z_bit (f 0) + 2 * z_bit (f 1) + 4 * z_bit (f 2)) ↔ nI (z_cnt f 3) = 3) ∧ (nI (z_bit (f 0) + 2 * z_bit (f 1) + 4 * z_bit (f 2)) < 7 ↔ ¬ nI (z_cnt f 3) = 3) ∧ (nI (z_bit (f 0) + 2 * z_bit (f 1) + 4 * z_bit (f 2)) = 7 ↔ nI (z_cnt f 3) = 3) ∧ (nI (z_cnt f 3) = 3 → ∀ k, k < 3 → ¬ f k = 0) := by
  have l0 := z_bit_le (f 0)
  have l1 := z_bit_le (f 1)
  have l2 := z_bit_le (f 2)
  have q0 := z_bit0 (x := f 0)
  have q1 := z_bit0 (x := f 1)
  have q2 := z_bit0 (x := f 2)
  rw [z_cnt3]
  have e3 : nI (z_bit (f 0) + z_bit (f 1) + z_bit (f 2)) = 3 → z_bit (f 0) + z_bit (f 1) + z_bit (f 2) = 3 := fun w => (nI_eq (b := 3) (by omega) (by decide)).mp w
  refine ⟨?_, ?_, ?_, fun w k hk => ?_⟩
  · clear e3 q0 q1 q2
    generalize z_bit (f 0) = b0 at *
    generalize z_bit (f 1) = b1 at *
    generalize z_bit (f 2) = b2 at *
    rcases (show b0 = 0 ∨ b0 = 1 by omega) with rfl | rfl <;> rcases (show b1 = 0 ∨ b1 = 1 by omega) with rfl | rfl <;> rcases (show b2 = 0 ∨ b2 = 1 by omega) with rfl | rfl <;> decide
  · clear e3 q0 q1 q2
    generalize z_bit (f 0) = b0 at *
    generalize z_bit (f 1) = b1 at *
    generalize z_bit (f 2) = b2 at *
    rcases (show b0 = 0 ∨ b0 = 1 by omega) with rfl | rfl <;> rcases (show b1 = 0 ∨ b1 = 1 by omega) with rfl | rfl <;> rcases (show b2 = 0 ∨ b2 = 1 by omega) with rfl | rfl <;> decide
  · clear e3 q0 q1 q2
    generalize z_bit (f 0) = b0 at *
    generalize z_bit (f 1) = b1 at *
    generalize z_bit (f 2) = b2 at *
    rcases (show b0 = 0 ∨ b0 = 1 by omega) with rfl | rfl <;> rcases (show b1 = 0 ∨ b1 = 1 by omega) with rfl | rfl <;> rcases (show b2 = 0 ∨ b2 = 1 by omega) with rfl | rfl <;> decide
  · have w := e3 w
    rcases (show k = 0 ∨ k = 1 ∨ k = 2 by omega) with rfl | rfl | rfl <;> intro y
    · have := q0.mpr y; omega
    · have := q1.mpr y; omega
    · have := q2.mpr y; omega
/-- a sum is taken on both sides -/
theorem z_takeS {n : Nat} {S T : z_S} (h : Rr n S T) {p k : Nat} (hp : p < 6) (hk : k < 3) (h0 : S.1 16 p k = 0) (v : Int64) : Rr n (z_sI (z_sL (z_sI S 16 p k 1) 17 p k v) 15 p 2 (S.1 15 p 2 + 1)) (z_sL (z_sI T 31 0 p (T.1 31 0 p ||| ((1 : Int32) <<< (nI k &&& 31)))) 33 0 (3 * p + k) v) := by
  have x1 : ∀ a, a ≠ 15 → a ≠ 16 → (z_sI (z_sL (z_sI S 16 p k 1) 17 p k v) 15 p 2 (S.1 15 p 2 + 1)).1 a = S.1 a := by
    intro a w1 w2
    funext o
    rw [z_sI_ne _ _ _ _ _ (fun z => w1 z.1), z_rLI, z_sI_ne _ _ _ _ _ (fun z => w2 z.1)]
  have xo : ∀ a o, o ≠ p → (z_sI (z_sL (z_sI S 16 p k 1) 17 p k v) 15 p 2 (S.1 15 p 2 + 1)).1 a o = S.1 a o := by
    intro a o w
    rw [z_sI_ne _ _ _ _ _ (fun z => w z.2), z_rLI, z_sI_ne _ _ _ _ _ (fun z => w z.2)]
  have x16 : ∀ j, (z_sI (z_sL (z_sI S 16 p k 1) 17 p k v) 15 p 2 (S.1 15 p 2 + 1)).1 16 p j = if j = k then 1 else S.1 16 p j := by
    intro j
    rw [z_rI, if_neg (by omega), z_rLI, z_rI]
    by_cases w : j = k
    · rw [if_pos ⟨rfl, rfl, w⟩, if_pos w]
    · rw [if_neg (fun z => w z.2.2), if_neg w]
  have x15 : (z_sI (z_sL (z_sI S 16 p k 1) 17 p k v) 15 p 2 (S.1 15 p 2 + 1)).1 15 p 2 = S.1 15 p 2 + 1 := by
    rw [z_rI, if_pos ⟨rfl, rfl, rfl⟩]
  have xl : ∀ a, a ≠ 17 → (z_sI (z_sL (z_sI S 16 p k 1) 17 p k v) 15 p 2 (S.1 15 p 2 + 1)).2 a = S.2 a := by
    intro a w
    funext o
    rw [z_rIL, z_sL_ne _ _ _ _ _ (fun z => w z.1)]
    rfl
  have x17 : ∀ o j, (z_sI (z_sL (z_sI S 16 p k 1) 17 p k v) 15 p 2 (S.1 15 p 2 + 1)).2 17 o j = if o = p ∧ j = k then v else S.2 17 o j := by
    intro o j
    rw [z_rIL, z_rL]
    by_cases w : o = p ∧ j = k
    · rw [if_pos ⟨rfl, w.1, w.2⟩, if_pos w]
    · rw [if_neg (fun z => w ⟨z.2.1, z.2.2⟩), if_neg w]; rfl
  have y1 : ∀ a, a ≠ 31 → (z_sL (z_sI T 31 0 p (T.1 31 0 p ||| ((1 : Int32) <<< (nI k &&& 31)))) 33 0 (3 * p + k) v).1 a = T.1 a := by
    intro a w
    funext o
    rw [z_rLI, z_sI_ne _ _ _ _ _ (fun z => w z.1)]
  have y31 : ∀ j, (z_sL (z_sI T 31 0 p (T.1 31 0 p ||| ((1 : Int32) <<< (nI k &&& 31)))) 33 0 (3 * p + k) v).1 31 0 j = if j = p then T.1 31 0 p ||| ((1 : Int32) <<< (nI k &&& 31)) else T.1 31 0 j := by
    intro j
    rw [z_rLI, z_rI]
    by_cases w : j = p
    · rw [if_pos ⟨rfl, rfl, w⟩, if_pos w]
    · rw [if_neg (fun z => w z.2.2), if_neg w]
  have yl : ∀ a, a ≠ 33 → (z_sL (z_sI T 31 0 p (T.1 31 0 p ||| ((1 : Int32) <<< (nI k &&& 31)))) 33 0 (3 * p + k) v).2 a = T.2 a := by
    intro a w
    funext o
    rw [z_sL_ne _ _ _ _ _ (fun z => w z.1)]
    rfl
  have y33 : ∀ j, (z_sL (z_sI T 31 0 p (T.1 31 0 p ||| ((1 : Int32) <<< (nI k &&& 31)))) 33 0 (3 * p + k) v).2 33 0 j = if j = 3 * p + k then v else T.2 33 0 j := by
    intro j
    rw [z_rL]
    by_cases w : j = 3 * p + k
    · rw [if_pos ⟨rfl, rfl, w⟩, if_pos w]
    · rw [if_neg (fun z => w z.2.2), if_neg w]; rfl
  generalize z_sI (z_sL (z_sI S 16 p k 1) 17 p k v) 15 p 2 (S.1 15 p 2 + 1) = S2 at *
  generalize z_sL (z_sI T 31 0 p (T.1 31 0 p ||| ((1 : Int32) <<< (nI k &&& 31)))) 33 0 (3 * p + k) v = T2 at *
  obtain ⟨h1, h2, h3, h4, h5, ⟨c, hc, hc5, hp0, hl⟩, h7, h8, h9, h10⟩ := h
  obtain ⟨s1, s2, s3, s4⟩ := h7 p hp
  obtain ⟨o1, o2, o3⟩ := z_orB (f := S.1 16 p) (g := S2.1 16 p) hk h0 (fun j _ => x16 j)
  have X2 := x1 2 (by decide) (by decide)
  have X14 := x1 14 (by decide) (by decide)
  refine ⟨?_, ?_, ?_, ?_, ?_, ⟨c, hc, hc5, ?_, ?_⟩, fun q hq => ?_, fun q hq => ?_, ?_, ?_⟩
  · unfold r_bl at h1 ⊢
    rw [X2, y1 23 (by decide)]; exact h1
  · unfold r_op at h2 ⊢
    rw [x1 12 (by decide) (by decide), y1 24 (by decide)]; exact h2
  · unfold r_me at h3 ⊢
    rw [x1 12 (by decide) (by decide), y1 41 (by decide)]; exact h3
  · unfold r_by at h4 ⊢
    rw [x1 13 (by decide) (by decide), y1 22 (by decide)]; exact h4
  · unfold r_zo at h5 ⊢
    rw [X2, x1 13 (by decide) (by decide)]; exact h5
  · unfold r_po at hp0 ⊢
    rw [x1 0 (by decide) (by decide), x1 9 (by decide) (by decide), X14, xl 14 (by decide), yl 29 (by decide), y1 21 (by decide), y1 25 (by decide), y1 26 (by decide), y1 27 (by decide), y1 28 (by decide), y1 30 (by decide), X2]; exact hp0
  · unfold r_le z_sz at hl ⊢
    rw [x1 3 (by decide) (by decide), x1 4 (by decide) (by decide), x1 5 (by decide) (by decide), x1 6 (by decide) (by decide), X14, X2, xl 7 (by decide), yl 38 (by decide), y1 21 (by decide), y1 35 (by decide), y1 36 (by decide), y1 37 (by decide), y1 39 (by decide)]; exact hl
  · by_cases w : q = p
    · subst w
      refine ⟨fun j hj => ?_, ?_, ?_, fun j hj z => ?_⟩
      · rw [x16 j]
        by_cases w : j = k
        · rw [if_pos w]; exact Or.inr rfl
        · rw [if_neg w]; exact s1 j hj
      · rw [x15, s2, o2]; exact nI_add _ 1
      · rw [y31 q, if_pos rfl, s3, o1]
      · rw [y33, x17]
        by_cases w : j = k
        · rw [if_pos (by omega), if_pos ⟨rfl, w⟩]
        · rw [if_neg (by omega), if_neg (fun y => w y.2)]
          rw [x16 j, if_neg w] at z
          exact s4 j hj z
    · obtain ⟨t1, t2, t3, t4⟩ := h7 q hq
      rw [xo 16 q w, xo 15 q w, y31 q, if_neg w]
      refine ⟨t1, t2, t3, fun j hj z => ?_⟩
      rw [y33, if_neg (by omega), x17, if_neg (fun y => w y.1)]
      exact t4 j hj z
  · have hz : z_sz S2 q = z_sz S q := z_szc X2 X14 q
    rw [x1 19 (by decide) (by decide), x1 18 (by decide) (by decide), X14, xl 20 (by decide), y1 32 (by decide), y1 34 (by decide), hz]
    obtain ⟨t1, t2, t3, t4, t5⟩ := h8 q hq
    refine ⟨t1, t2, t3, ?_, t5⟩
    by_cases w : q = p
    · subst w
      refine Or.inr ?_
      rcases t4 with z | z
      · rw [s2] at z
        have := (nI_eq (b := 3) (by omega) (by decide)).mp z
        omega
      · exact z
    · rw [xo 15 q w]; exact t4
  · unfold r_ro f_X_parts at h9 ⊢
    rw [X2, x1 10 (by decide) (by decide), x1 11 (by decide) (by decide), y1 40 (by decide), y1 21 (by decide)]; exact h9
  · rw [x1 0 (by decide) (by decide), y1 21 (by decide)]; exact h10
theorem z_tcL {B : z_S} {p k : Nat} (hp : p < 6) (hk : k < 3) : ∀ N : Nat, N ≤ 8 → (∀ i, (z_it (fun (kk9 : Nat) (T9 : z_S) => rg_M_takeCopy_40i_S1 T9 (nI p) (nI k) kk9) 0 N B).1 34 0 i = if 24 * p + 8 * k ≤ i ∧ i < 24 * p + 8 * k + N then B.1 39 0 (192 + (i - (24 * p + 8 * k))) else B.1 34 0 i) ∧ (∀ b, b ≠ 34 → (z_it (fun (kk9 : Nat) (T9 : z_S) => rg_M_takeCopy_40i_S1 T9 (nI p) (nI k) kk9) 0 N B).1 b = B.1 b) ∧ (z_it (fun (kk9 : Nat) (T9 : z_S) => rg_M_takeCopy_40i_S1 T9 (nI p) (nI k) kk9) 0 N B).2 = B.2 := by
  intro N
  induction N with
  | zero => intro _; exact ⟨fun i => (if_neg (by omega)).symm, fun _ _ => rfl, rfl⟩
  | succ N ih =>
    intro hN
    obtain ⟨i1, i2, i3⟩ := ih (by omega)
    rw [z_it_snoc]
    generalize z_it (fun (kk9 : Nat) (T9 : z_S) => rg_M_takeCopy_40i_S1 T9 (nI p) (nI k) kk9) 0 N B = R at i1 i2 i3 ⊢
    have e : rg_M_takeCopy_40i_S1 R (nI p) (nI k) (0 + N) = z_sI R 34 0 (24 * p + 8 * k + N) (B.1 39 0 (192 + N)) := by
      unfold rg_M_takeCopy_40i_S1
      rw [Nat.zero_add, z_cAt hp hk (by omega), i2 39 (by decide)]
      show z_sI R 34 0 _ (B.1 39 0 ((nI 192 + nI N).toNatClampNeg)) = _
      rw [nI_add, nI_clamp (by omega)]
    show (∀ i, (rg_M_takeCopy_40i_S1 R (nI p) (nI k) (0 + N)).1 34 0 i = _) ∧ (∀ b, b ≠ 34 → (rg_M_takeCopy_40i_S1 R (nI p) (nI k) (0 + N)).1 b = _) ∧ (rg_M_takeCopy_40i_S1 R (nI p) (nI k) (0 + N)).2 = _
    rw [e]
    refine ⟨fun i => ?_, fun b hb => ?_, by rw [z_rIL]; exact i3⟩
    · rw [z_rI, i1 i]
      by_cases w : i = 24 * p + 8 * k + N
      · rw [if_pos ⟨rfl, rfl, w⟩, if_pos (by omega)]
        exact congrArg _ (by omega)
      · rw [if_neg (fun z => w z.2.2)]
        by_cases w2 : 24 * p + 8 * k ≤ i ∧ i < 24 * p + 8 * k + N
        · rw [if_pos w2, if_pos (by omega)]
        · rw [if_neg w2, if_neg (by omega)]
    · rw [← i2 b hb]
      funext o
      exact z_sI_ne _ _ _ _ _ (fun w => hb w.1)
/-- a copy is taken on both sides -/
theorem z_takeC {n : Nat} {S T : z_S} (h : Rr n S T) {p k : Nat} (hp : p < 6) (hk : k < 3) (h0 : S.1 19 p k = 0) (h3 : S.1 15 p 2 = 3) (v : Int64) (hv : ∀ q j : Nat, q < z_sz S p → j < 4 → T.1 39 0 (192 + (4 * q + j)) = z_byte (z_half v q) j) (hv1 : z_sz S p = 1 → z_half v 1 = 0) : Rr n (z_sI (z_sL (z_sI S 19 p k 1) 20 p k v) 18 p 2 (S.1 18 p 2 + 1)) (z_it (fun (kk9 : Nat) (T9 : z_S) => rg_M_takeCopy_40i_S1 T9 (nI p) (nI k) kk9) 0 8 (z_sI T 32 0 p (T.1 32 0 p ||| ((1 : Int32) <<< (nI k &&& 31))))) := by
  have x1 : ∀ a, a ≠ 18 → a ≠ 19 → (z_sI (z_sL (z_sI S 19 p k 1) 20 p k v) 18 p 2 (S.1 18 p 2 + 1)).1 a = S.1 a := by
    intro a w1 w2
    funext o
    rw [z_sI_ne _ _ _ _ _ (fun z => w1 z.1), z_rLI, z_sI_ne _ _ _ _ _ (fun z => w2 z.1)]
  have xo : ∀ a o, o ≠ p → (z_sI (z_sL (z_sI S 19 p k 1) 20 p k v) 18 p 2 (S.1 18 p 2 + 1)).1 a o = S.1 a o := by
    intro a o w
    rw [z_sI_ne _ _ _ _ _ (fun z => w z.2), z_rLI, z_sI_ne _ _ _ _ _ (fun z => w z.2)]
  have x19 : ∀ j, (z_sI (z_sL (z_sI S 19 p k 1) 20 p k v) 18 p 2 (S.1 18 p 2 + 1)).1 19 p j = if j = k then 1 else S.1 19 p j := by
    intro j
    rw [z_rI, if_neg (by omega), z_rLI, z_rI]
    by_cases w : j = k
    · rw [if_pos ⟨rfl, rfl, w⟩, if_pos w]
    · rw [if_neg (fun z => w z.2.2), if_neg w]
  have x18 : (z_sI (z_sL (z_sI S 19 p k 1) 20 p k v) 18 p 2 (S.1 18 p 2 + 1)).1 18 p 2 = S.1 18 p 2 + 1 := by
    rw [z_rI, if_pos ⟨rfl, rfl, rfl⟩]
  have xl : ∀ a, a ≠ 20 → (z_sI (z_sL (z_sI S 19 p k 1) 20 p k v) 18 p 2 (S.1 18 p 2 + 1)).2 a = S.2 a := by
    intro a w
    funext o
    rw [z_rIL, z_sL_ne _ _ _ _ _ (fun z => w z.1)]
    rfl
  have x20 : ∀ o j, (z_sI (z_sL (z_sI S 19 p k 1) 20 p k v) 18 p 2 (S.1 18 p 2 + 1)).2 20 o j = if o = p ∧ j = k then v else S.2 20 o j := by
    intro o j
    rw [z_rIL, z_rL]
    by_cases w : o = p ∧ j = k
    · rw [if_pos ⟨rfl, w.1, w.2⟩, if_pos w]
    · rw [if_neg (fun z => w ⟨z.2.1, z.2.2⟩), if_neg w]; rfl
  obtain ⟨i1, i2, i3⟩ := z_tcL (B := z_sI T 32 0 p (T.1 32 0 p ||| ((1 : Int32) <<< (nI k &&& 31)))) hp hk 8 (Nat.le_refl _)
  generalize z_it (fun (kk9 : Nat) (T9 : z_S) => rg_M_takeCopy_40i_S1 T9 (nI p) (nI k) kk9) 0 8 (z_sI T 32 0 p (T.1 32 0 p ||| ((1 : Int32) <<< (nI k &&& 31)))) = T2 at *
  have y1 : ∀ a, a ≠ 32 → a ≠ 34 → T2.1 a = T.1 a := by
    intro a w w2
    rw [i2 a w2]
    funext o
    rw [z_sI_ne _ _ _ _ _ (fun z => w z.1)]
  have y32 : ∀ j, T2.1 32 0 j = if j = p then T.1 32 0 p ||| ((1 : Int32) <<< (nI k &&& 31)) else T.1 32 0 j := by
    intro j
    rw [i2 32 (by decide), z_rI]
    by_cases w : j = p
    · rw [if_pos ⟨rfl, rfl, w⟩, if_pos w]
    · rw [if_neg (fun z => w z.2.2), if_neg w]
  have yl : T2.2 = T.2 := i3
  have y34 : ∀ i, T2.1 34 0 i = if 24 * p + 8 * k ≤ i ∧ i < 24 * p + 8 * k + 8 then T.1 39 0 (192 + (i - (24 * p + 8 * k))) else T.1 34 0 i := i1
  clear i1 i2 i3
  generalize z_sI (z_sL (z_sI S 19 p k 1) 20 p k v) 18 p 2 (S.1 18 p 2 + 1) = S2 at *
  obtain ⟨h1, h2, h3', h4, h5, ⟨c, hc, hc5, hp0, hl⟩, h7, h8, h9, h10⟩ := h
  obtain ⟨s1, s2, s3, s4, s5⟩ := h8 p hp
  obtain ⟨o1, o2, o3⟩ := z_orB (f := S.1 19 p) (g := S2.1 19 p) hk h0 (fun j _ => x19 j)
  have X2 := x1 2 (by decide) (by decide)
  have X14 := x1 14 (by decide) (by decide)
  refine ⟨?_, ?_, ?_, ?_, ?_, ⟨c, hc, hc5, ?_, ?_⟩, ?_, fun q hq => ?_, ?_, ?_⟩
  · unfold r_bl at h1 ⊢
    rw [X2, y1 23 (by decide) (by decide)]; exact h1
  · unfold r_op at h2 ⊢
    rw [x1 12 (by decide) (by decide), y1 24 (by decide) (by decide)]; exact h2
  · unfold r_me at h3' ⊢
    rw [x1 12 (by decide) (by decide), y1 41 (by decide) (by decide)]; exact h3'
  · unfold r_by at h4 ⊢
    rw [x1 13 (by decide) (by decide), y1 22 (by decide) (by decide)]; exact h4
  · unfold r_zo at h5 ⊢
    rw [X2, x1 13 (by decide) (by decide)]; exact h5
  · unfold r_po at hp0 ⊢
    rw [x1 0 (by decide) (by decide), x1 9 (by decide) (by decide), X14, xl 14 (by decide), yl, y1 21 (by decide) (by decide), y1 25 (by decide) (by decide), y1 26 (by decide) (by decide), y1 27 (by decide) (by decide), y1 28 (by decide) (by decide), y1 30 (by decide) (by decide), X2]; exact hp0
  · unfold r_le z_sz at hl ⊢
    rw [x1 3 (by decide) (by decide), x1 4 (by decide) (by decide), x1 5 (by decide) (by decide), x1 6 (by decide) (by decide), X14, X2, xl 7 (by decide), yl, y1 21 (by decide) (by decide), y1 35 (by decide) (by decide), y1 36 (by decide) (by decide), y1 37 (by decide) (by decide), y1 39 (by decide) (by decide)]; exact hl
  · unfold r_su at h7 ⊢
    rw [x1 16 (by decide) (by decide), x1 15 (by decide) (by decide), xl 17 (by decide), yl, y1 31 (by decide) (by decide)]; exact h7
  · have hz : z_sz S2 q = z_sz S q := z_szc X2 X14 q
    have hz2 := z_szle (S := S) (p := q)
    rw [hz, X14, x1 15 (by decide) (by decide)]
    by_cases w : q = p
    · subst w
      refine ⟨fun j hj => ?_, ?_, ?_, Or.inl h3, fun hn0 j hj z => ?_⟩
      · rw [x19 j]
        by_cases w : j = k
        · rw [if_pos w]; exact Or.inr rfl
        · rw [if_neg w]; exact s1 j hj
      · rw [x18, s2, o2]; exact nI_add _ 1
      · rw [y32 q, if_pos rfl, s3, o1]
      · rw [x20]
        by_cases w : j = k
        · subst w
          rw [if_pos ⟨rfl, rfl⟩]
          refine ⟨fun q2 j2 hq2 hj2 => ?_, hv1⟩
          rw [y34, if_pos (by omega), ← hv q2 j2 hq2 hj2]
          exact congrArg _ (by omega)
        · rw [if_neg (fun y => w y.2)]
          rw [x19 j, if_neg w] at z
          obtain ⟨g1, g2⟩ := s5 hn0 j hj z
          refine ⟨fun q2 j2 hq2 hj2 => ?_, g2⟩
          rw [y34, if_neg (by omega)]
          exact g1 q2 j2 hq2 hj2
    · obtain ⟨t1, t2, t3, t4, t5⟩ := h8 q hq
      rw [xo 19 q w, xo 18 q w, y32 q, if_neg w]
      refine ⟨t1, t2, t3, t4, fun hn0 j hj z => ?_⟩
      obtain ⟨g1, g2⟩ := t5 hn0 j hj z
      rw [x20, if_neg (fun y => w y.1)]
      refine ⟨fun q2 j2 hq2 hj2 => ?_, g2⟩
      rw [y34, if_neg (by omega)]
      exact g1 q2 j2 hq2 hj2
  · unfold r_ro f_X_parts at h9 ⊢
    rw [X2, x1 10 (by decide) (by decide), x1 11 (by decide) (by decide), y1 40 (by decide) (by decide), y1 21 (by decide) (by decide)]; exact h9
  · rw [x1 0 (by decide) (by decide), y1 21 (by decide) (by decide)]; exact h10
