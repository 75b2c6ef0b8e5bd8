theorem z_mixX {S : z_S} {q d b j : Nat} (hd : d < 6) (hb : b < 16) (hj : j < 4) : nI b * 4 + nI j = nI (4 * b + j) := by
  show nI b * nI 4 + nI j = _
  rw [pk_mul, nI_add, Nat.mul_comm]
theorem z_mixM {n : Nat} {S T : z_S} (h : Rr n S T) {q d b j : Nat} (hq : q < 3) (hd : d < 6) (hb : b < 16) (hj : j < 4) : T.1 22 0 ((384 * nI q + 64 * nI d + 4 * nI b + nI j).toNatClampNeg) = f_H_byteOf S q (nI d) (nI b * 4 + nI j) := by
  rw [z_mixX (S := S) (q := q) hd hb hj, ← z_byteM h hq hd (by omega)]
  have e : 384 * nI q + 64 * nI d + 4 * nI b + nI j = nI (384 * q + 64 * d + (4 * b + j)) := by
    show nI 384 * nI q + nI 64 * nI d + nI 4 * nI b + nI j = _
    rw [pk_mul, pk_mul, pk_mul, nI_add, nI_add, nI_add]
    exact congrArg nI (by omega)
  rw [e, nI_clamp (by omega)]
theorem sm_sum {n : Nat} {S T : z_S} (h : Rr n S T) (hn : n < 512) (x0 : Int32) (x1 : Int32) (x2 : Int32) (x3 : Int64) : (f_X_sum S x0 x1 x2 x3) = (f_M_sum T x0 x1 x2 x3) ∧ Rr (n + 1) S T := by
  refine ⟨?_, h.up⟩
  unfold f_X_sum f_M_sum
  show _ = (if f_X_isHouse x0 = 0 then _ else _)
  by_cases h0 : f_X_isHouse x0 = 0
  · rw [if_pos h0, if_pos h0]
  · rw [if_neg h0, if_neg h0]
    unfold f_X_isPart
    by_cases h1 : x2 < 0
    · rw [if_pos h1, if_pos h1, if_pos rfl]
    · rw [if_neg h1, if_neg h1]
      by_cases h2 : 8 ≤ x2
      · have h2' : 7 < x2 := by
          rw [Int32.lt_iff_toInt_lt]
          rw [Int32.le_iff_toInt_le] at h2
          have w1 : (7 : Int32).toInt = 7 := by decide
          have w2 : (8 : Int32).toInt = 8 := by decide
          omega
        rw [if_pos h2, if_pos rfl, if_pos h2']
      · have h2' : ¬ 7 < x2 := by
          rw [Int32.lt_iff_toInt_lt]
          rw [Int32.le_iff_toInt_le] at h2
          have w1 : (7 : Int32).toInt = 7 := by decide
          have w2 : (8 : Int32).toInt = 8 := by decide
          omega
        rw [if_neg h2, if_neg (show ¬ (1 : Int32) = 0 by decide), if_neg h2']
        unfold f_X_isDeposit
        by_cases h3 : x1 < 0
        · have e : f_M_blocksOf T x1 = 0 := by unfold f_M_blocksOf; rw [if_pos h3]
          rw [if_pos h3, if_pos rfl, e, if_pos rfl]
        · rw [if_neg h3]
          by_cases h4 : 6 ≤ x1
          · have e : f_M_blocksOf T x1 = 0 := by unfold f_M_blocksOf; rw [if_neg h3, if_pos h4]
            rw [if_pos h4, if_pos rfl, e, if_pos rfl]
          · rw [if_neg h4, if_neg (show ¬ (1 : Int32) = 0 by decide)]
            obtain ⟨q, hq, rfl⟩ := vp_in_of (z_hou h0) (by decide)
            obtain ⟨d, hd, rfl⟩ := vp_in_of (z_rg (n := 6) h3 h4) (by decide)
            obtain ⟨p, hp, rfl⟩ := vp_in_of (z_rg (n := 8) h1 h2) (by decide)
            obtain ⟨b, hb, e1, e2⟩ := z_blN h hd
            rw [z_bof hd, e2, nI_clamp (by omega), e1, nI_clamp (by omega), z_sizeN hd hp e2 hb]
            by_cases hb0 : b = 0
            · subst hb0
              have he : nI 0 = (0 : Int32) := rfl
              rw [if_pos he, if_pos he]
            · have hb1 : ¬ nI b = 0 := nI_ne0 (by omega) (by omega)
              rw [if_neg hb1, if_neg hb1]
              unfold f_H_sumOfPart
              have e8 : nI p + 8 = nI (p + 8) := nI_add p 8
              have e0 : nI p + 0 = nI p := nI_add p 0
              by_cases c1 : p < b
              · rw [if_neg (nI_ge c1 (by omega)), if_pos c1, e8, e0]
                have a0 : T.1 22 0 ((384 * nI q + 64 * nI d + 4 * nI p + 0).toNatClampNeg) = f_H_byteOf S q (nI d) (nI p * 4 + 0) := z_mixM h (j := 0) hq hd (by omega) (by decide)
                have a1 : T.1 22 0 ((384 * nI q + 64 * nI d + 4 * nI p + 1).toNatClampNeg) = f_H_byteOf S q (nI d) (nI p * 4 + 1) := z_mixM h (j := 1) hq hd (by omega) (by decide)
                have a2 : T.1 22 0 ((384 * nI q + 64 * nI d + 4 * nI p + 2).toNatClampNeg) = f_H_byteOf S q (nI d) (nI p * 4 + 2) := z_mixM h (j := 2) hq hd (by omega) (by decide)
                have a3 : T.1 22 0 ((384 * nI q + 64 * nI d + 4 * nI p + 3).toNatClampNeg) = f_H_byteOf S q (nI d) (nI p * 4 + 3) := z_mixM h (j := 3) hq hd (by omega) (by decide)
                by_cases c2 : b ≤ p + 8
                · rw [if_pos (nI_le c2 (by omega)), if_pos c2, if_neg (by decide), if_pos (by decide), a0, a1, a2, a3]
                  rfl
                · have b0 : T.1 22 0 ((384 * nI q + 64 * nI d + 4 * nI (p + 8) + 0).toNatClampNeg) = f_H_byteOf S q (nI d) (nI (p + 8) * 4 + 0) := z_mixM h (j := 0) hq hd (by omega) (by decide)
                  have b1 : T.1 22 0 ((384 * nI q + 64 * nI d + 4 * nI (p + 8) + 1).toNatClampNeg) = f_H_byteOf S q (nI d) (nI (p + 8) * 4 + 1) := z_mixM h (j := 1) hq hd (by omega) (by decide)
                  have b2 : T.1 22 0 ((384 * nI q + 64 * nI d + 4 * nI (p + 8) + 2).toNatClampNeg) = f_H_byteOf S q (nI d) (nI (p + 8) * 4 + 2) := z_mixM h (j := 2) hq hd (by omega) (by decide)
                  have b3 : T.1 22 0 ((384 * nI q + 64 * nI d + 4 * nI (p + 8) + 3).toNatClampNeg) = f_H_byteOf S q (nI d) (nI (p + 8) * 4 + 3) := z_mixM h (j := 3) hq hd (by omega) (by decide)
                  rw [if_neg (nI_ge (by omega) (by omega)), if_neg c2, if_neg (by decide), if_neg (by decide), a0, a1, a2, a3, b0, b1, b2, b3]
                  rfl
              · rw [if_pos (nI_le (by omega) (by omega)), if_neg c1, if_pos (by decide)]
