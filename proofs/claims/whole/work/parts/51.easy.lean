theorem Rr.up {n : Nat} {S T : z_S} (h : Rr n S T) : Rr (n + 1) S T := by
  obtain ⟨h1, h2, h3, h4, h5, ⟨c, hc, h6⟩, h7, h8, ⟨r, hr, h9⟩, h10⟩ := h
  exact ⟨h1, h2, h3, h4, h5, ⟨c, by omega, h6⟩, h7, h8, ⟨r, by omega, h9⟩, h10⟩
theorem z_byte0 {j : Nat} (hj : j < 4) : z_byte 0 j = 0 := by
  rcases (show j = 0 ∨ j = 1 ∨ j = 2 ∨ j = 3 by omega) with rfl | rfl | rfl | rfl <;> decide
theorem z_hs {S : z_S} {x : Int32} : f_M_isHouse x = f_X_isHouse x := rfl
theorem z_isH {h : Nat} (hh : h < 3) : ¬ f_X_isHouse (nI h) = 0 := by
  unfold f_X_isHouse
  rw [if_neg (nI_pos (by omega)), if_neg (show ¬ (3 : Int32) ≤ nI h from nI_ge (b := 3) hh (by decide))]
  decide
theorem sm_blocks {n : Nat} {S T : z_S} (h : Rr n S T) (hn : n < 512) (x0 : Int32) : (f_X_blocks S x0) = (f_M_blocks T x0) ∧ Rr (n + 1) S T := by
  refine ⟨?_, h.up⟩
  unfold f_X_blocks f_X_isDeposit f_M_blocks f_M_blocksOf
  by_cases h1 : x0 < 0
  · rw [if_pos h1, if_pos h1, if_pos rfl]
  · rw [if_neg h1, if_neg h1]
    by_cases h2 : 6 ≤ x0
    · rw [if_pos h2, if_pos h2, if_pos rfl]
    · rw [if_neg h2, if_neg h2, if_neg (by decide)]
      exact (h.1 _ (z_lt (z_rg (n := 6) h1 h2))).1
theorem z_plc {d k : Nat} (hd : d < 6) (hk : k < 64) : f_H_place (nI d) (nI k / 4) = nI (16 * d + k / 4) := by
  show nI d * nI 16 + nI k / nI 4 = _
  rw [pk_div (by omega) (by decide) (by decide), pk_mul, nI_add, Nat.mul_comm]
theorem z_shf {k : Nat} (hk : k < 64) : f_H_shift (nI k) = nI (8 * (k % 4)) := by
  show (nI k - nI k / nI 4 * nI 4) * nI 8 = _
  rw [pk_rem (by omega) (by decide) (by decide), pk_mul, Nat.mul_comm]
theorem z_byteOf {S : z_S} {h d k : Nat} (hd : d < 6) (hk : k < 64) : f_H_byteOf S h (nI d) (nI k) = z_byte (S.1 13 h (16 * d + k / 4)) (k % 4) := by
  unfold f_H_byteOf
  rw [z_plc hd hk, z_shf hk, nI_clamp (by omega)]
  rfl
theorem z_byteM {n : Nat} {S T : z_S} (h : Rr n S T) {q d k : Nat} (hq : q < 3) (hd : d < 6) (hk : k < 64) : T.1 22 0 (384 * q + 64 * d + k) = f_H_byteOf S q (nI d) (nI k) := by
  rw [z_byteOf hd hk, ← h.2.2.2.1 q (16 * d + k / 4) (k % 4) hq (by omega) (by omega)]
  exact congrArg _ (by omega)
theorem z_isB {n : Nat} {S T : z_S} (h : Rr n S T) {x0 x1 x2 : Int32} : f_M_isByte T x0 x1 x2 = if f_X_isHouse x0 = 0 then 0 else f_X_isByte S x1 x2 := by
  unfold f_M_isByte f_X_isByte
  show (if f_X_isHouse x0 = 0 then _ else _) = _
  by_cases h0 : f_X_isHouse x0 = 0
  · rw [if_pos h0, if_pos h0]
  · rw [if_neg h0, if_neg h0]
    by_cases h2 : x2 < 0
    · rw [if_pos h2, if_pos h2]
      by_cases h3 : f_X_isDeposit x1 = 0
      · rw [if_pos h3]
      · rw [if_neg h3]
    · rw [if_neg h2, if_neg h2]
      unfold f_X_isDeposit f_M_blocksOf
      have e0 : (4 * 0 : Int32) ≤ x2 := by
        rw [Int32.le_iff_toInt_le]
        rw [Int32.lt_iff_toInt_lt] at h2
        have e1 : (4 * 0 : Int32).toInt = 0 := by decide
        have e2 : (0 : Int32).toInt = 0 := by decide
        omega
      by_cases h4 : x1 < 0
      · rw [if_pos h4, if_pos h4, if_pos rfl, if_pos e0]
      · rw [if_neg h4, if_neg h4]
        by_cases h5 : 6 ≤ x1
        · rw [if_pos h5, if_pos h5, if_pos rfl, if_pos e0]
        · rw [if_neg h5, if_neg h5, if_neg (show ¬ (1 : Int32) = 0 by decide), ← (h.1 _ (z_lt (z_rg (n := 6) h4 h5))).1, Int32.mul_comm]
theorem sm_at {n : Nat} {S T : z_S} (h : Rr n S T) (hn : n < 512) (x0 : Int32) (x1 : Int32) (x2 : Int32) : (f_X_at S x0 x1 x2) = (f_M_at T x0 x1 x2) ∧ Rr (n + 1) S T := by
  refine ⟨?_, h.up⟩
  unfold f_X_at f_M_at
  rw [z_isB h]
  by_cases h0 : f_X_isHouse x0 = 0
  · rw [if_pos h0, if_pos h0, if_pos rfl]
  · rw [if_neg h0, if_neg h0]
    by_cases h1 : f_X_isByte S x1 x2 = 0
    · rw [if_pos h1, if_pos h1]
    · rw [if_neg h1, if_neg h1]
      obtain ⟨d, k, hd, hk, rfl, rfl, -⟩ := z_bytN h.ok h1
      obtain ⟨q, hq, rfl⟩ := vp_in_of (z_hou h0) (by decide)
      rw [nI_clamp (by omega), ← z_byteM h hq hd hk]
      show _ = T.1 22 0 (nI 384 * nI q + nI 64 * nI d + nI k).toNatClampNeg
      rw [pk_mul, pk_mul, nI_add, nI_add, nI_clamp (by omega)]
theorem sm_letters {n : Nat} {S T : z_S} (h : Rr n S T) (hn : n < 512)  : (f_X_letters S) = (f_M_letters T) ∧ Rr (n + 1) S T := by
  refine ⟨?_, h.up⟩
  obtain ⟨-, -, -, -, -, ⟨c, -, -, -, m, hm, e1, e2, -⟩, -⟩ := h
  exact e1.trans e2.symm
theorem z_hasM {n : Nat} {S T : z_S} (h : Rr n S T) {x : Int32} : f_M_isLetter T x = f_R_has S x := by
  obtain ⟨-, -, -, -, -, ⟨c, -, -, -, m, hm, e1, e2, -⟩, -⟩ := h
  unfold f_M_isLetter f_R_has
  rw [e1, e2]
theorem z_letK {n : Nat} {S T : z_S} (h : Rr n S T) {x : Int32} (hx : ¬ f_R_has S x = 0) : ∃ c k m : Nat, c ≤ n ∧ x = nI k ∧ k < m ∧ m ≤ 24 ∧ S.1 3 0 4 = nI m ∧ T.1 35 0 k = S.1 4 0 k ∧ T.1 36 0 k = S.1 5 0 k ∧ T.1 37 0 k = S.1 6 0 k := by
  obtain ⟨k, q, rfl, e, h1, h2⟩ := z_hasN h.ok hx
  obtain ⟨-, -, -, -, -, ⟨c, hc, -, -, m, hm, e1, e2, -, -, hl⟩, -⟩ := h
  rw [e1, nI_eq (by omega) (by omega)] at e
  obtain ⟨a, b, d, -⟩ := hl k (by omega)
  exact ⟨c, k, m, hc, rfl, by omega, hm, e1, a, b, d⟩
theorem sm_letter {n : Nat} {S T : z_S} (h : Rr n S T) (hn : n < 512) (x0 : Int32) (x1 : Int32) : (f_X_letter S x0 x1) = (f_M_letter T x0 x1) ∧ Rr (n + 1) S T := by
  refine ⟨?_, h.up⟩
  unfold f_X_letter f_M_letter
  rw [z_hasM h]
  by_cases h0 : f_R_has S x0 = 0
  · rw [if_pos h0, if_pos h0]
  · rw [if_neg h0, if_neg h0]
    obtain ⟨c, k, m, -, rfl, hk, hm, -, a, b, d⟩ := z_letK h h0
    rw [nI_clamp (by omega), a, b, d]
    by_cases g0 : x1 = 0
    · subst g0
      rw [if_pos rfl, if_neg (by decide), if_pos (by decide), if_pos rfl]
    · rw [if_neg g0]
      by_cases g1 : x1 = 1
      · subst g1
        rw [if_pos rfl, if_neg (by decide), if_pos (by decide), if_neg (by decide), if_pos rfl]
      · rw [if_neg g1]
        by_cases g2 : x1 = 2
        · subst g2
          rw [if_pos rfl, if_neg (by decide), if_pos (by decide), if_neg (by decide), if_neg (by decide)]
        · rw [if_neg g2]
          by_cases g3 : x1 < 0
          · rw [if_pos g3]
          · rw [if_neg g3, if_neg]
            intro g4
            have h4 := z_tab0_2 g0 g1 g2
            rw [Int32.lt_iff_toInt_lt] at g3
            rw [Int32.le_iff_toInt_le] at g4
            have e1 : (2 : Int32).toInt = 2 := by decide
            have e2 : (0 : Int32).toInt = 0 := by decide
            omega
theorem z_pollN {n : Nat} {S T : z_S} (h : Rr n S T) : ∃ c : Nat, c ≤ n ∧ c ≤ 512 ∧ S.1 0 0 6 = nI c ∧ T.1 21 0 3 = nI c ∧ ∀ r : Nat, r ≤ c → S.1 9 0 r = T.1 25 0 r := by
  obtain ⟨-, -, -, -, -, ⟨c, hc, hc5, hp, -⟩, -⟩ := h
  exact ⟨c, hc, hc5, hp.1, hp.2.1, hp.2.2.1⟩
theorem sm_result {n : Nat} {S T : z_S} (h : Rr n S T) (hn : n < 512) (x0 : Int32) : (f_X_result S x0) = (f_M_result T x0) ∧ Rr (n + 1) S T := by
  refine ⟨?_, h.up⟩
  obtain ⟨c, hc, hc5, e1, e2, e3⟩ := z_pollN h
  unfold f_X_result f_M_result f_X_isPoll
  rw [e1, e2]
  by_cases h1 : x0 < 1
  · rw [if_pos h1, if_pos h1, if_pos rfl]
  · rw [if_neg h1, if_neg h1]
    by_cases h2 : nI c < x0
    · rw [if_pos h2, if_pos rfl, if_neg]
      intro h3
      rw [Int32.lt_iff_toInt_lt] at h2
      rw [Int32.le_iff_toInt_le] at h3
      omega
    · rw [if_neg h2, if_neg (by decide)]
      have h3 : x0 ≤ nI c := by
        rw [Int32.lt_iff_toInt_lt] at h2
        rw [Int32.le_iff_toInt_le]
        omega
      rw [if_pos h3]
      have h4 : ¬ x0 < 0 := by
        intro q
        rw [Int32.lt_iff_toInt_lt] at h1 q
        have w1 : (1 : Int32).toInt = 1 := by decide
        have w2 : (0 : Int32).toInt = 0 := by decide
        omega
      obtain ⟨k, hk, rfl⟩ := nI_of h4
      rw [nI_leI hk (by omega)] at h3
      rw [nI_clamp hk]
      exact e3 k h3
theorem sm_round {n : Nat} {S T : z_S} (h : Rr n S T) (hn : n < 512)  : (f_X_round S) = (f_M_round T) ∧ Rr (n + 1) S T := by
  refine ⟨?_, h.up⟩
  obtain ⟨-, -, -, -, -, -, -, -, ⟨r, -, e1, e2, -⟩, -⟩ := h
  exact e1.trans e2.symm
theorem sm_mends {n : Nat} {S T : z_S} (h : Rr n S T) (hn : n < 512) (x0 : Int32) : (f_X_mends S x0) = (f_M_mends T x0) ∧ Rr (n + 1) S T := by
  refine ⟨?_, h.up⟩
  unfold f_X_mends f_M_mends
  show _ = (if f_X_isHouse x0 = 0 then _ else _)
  by_cases h0 : f_X_isHouse x0 = 0
  · rw [if_pos h0, if_pos h0]
  · rw [if_neg h0, if_neg h0]
    exact h.2.2.1 _ (z_lt (z_hou h0))
theorem sm_disputes {n : Nat} {S T : z_S} (h : Rr n S T) (hn : n < 512)  : (f_X_disputes S) = (f_M_disputes T) ∧ Rr (n + 1) S T := ⟨h.2.2.2.2.2.2.2.2.2, h.up⟩
theorem z_rO {n : Nat} {S T : z_S} (h : Rr n S T) {o v : Int32} {k : Nat} (hv : z_b01 v) (hk : k < 3) : Rr (n + 1) (z_sI S 12 k 0 v) (z_sI T 24 0 k v) := by
  obtain ⟨h1, h2, h3, h4, h5, h6, h7, h8, h9, h10⟩ := h.up
  refine ⟨h1, ?_, ?_, h4, h5, h6, h7, h8, h9, h10⟩
  · intro q hq
    have h0 := h2 q hq
    rw [z_rI, z_rI]
    by_cases e : q = k
    · subst e
      rw [if_pos ⟨rfl, rfl, rfl⟩, if_pos ⟨rfl, rfl, rfl⟩]
      exact ⟨rfl, hv⟩
    · rw [if_neg (fun q => e q.2.1), if_neg (fun q => e q.2.2)]
      exact h0
  · intro q hq
    have h0 := h3 q hq
    rw [z_rI, if_neg (fun q => by have := q.2.2; omega)]
    exact h0
theorem sm_close {n : Nat} {S T : z_S} (h : Rr n S T) (hn : n < 512) (x0 : Int32) : (f_X_close S x0) = (f_M_close T x0) ∧ Rr (n + 1) (g_X_close S x0) (g_M_close T x0) := by
  unfold f_X_close f_M_close g_X_close g_M_close
  have e0 : f_M_isHouse x0 = f_X_isHouse x0 := rfl
  rw [e0]
  by_cases h0 : f_X_isHouse x0 = 0
  · simp only [if_pos h0]; exact ⟨trivial, h.up⟩
  · simp only [if_neg h0]
    have hk := z_lt (z_hou h0)
    rw [← (h.2.1 _ hk).1]
    by_cases h1 : S.1 12 x0.toNatClampNeg 0 = 0
    · simp only [if_pos h1]; exact ⟨trivial, h.up⟩
    · simp only [if_neg h1]; exact ⟨trivial, z_rO (o := 0) h (Or.inl rfl) hk⟩
theorem sm_open {n : Nat} {S T : z_S} (h : Rr n S T) (hn : n < 512) (x0 : Int32) : (f_X_open S x0) = (f_M_open T x0) ∧ Rr (n + 1) (g_X_open S x0) (g_M_open T x0) := by
  unfold f_X_open f_M_open g_X_open g_M_open
  have e0 : f_M_isHouse x0 = f_X_isHouse x0 := rfl
  rw [e0]
  by_cases h0 : f_X_isHouse x0 = 0
  · simp only [if_pos h0]; exact ⟨trivial, h.up⟩
  · simp only [if_neg h0]
    have hk := z_lt (z_hou h0)
    rw [← (h.2.1 _ hk).1]
    by_cases h1 : S.1 12 x0.toNatClampNeg 0 = 0
    · simp only [if_pos h1]; exact ⟨trivial, z_rO (o := 0) h (Or.inr rfl) hk⟩
    · simp only [if_neg h1]; exact ⟨trivial, h.up⟩
