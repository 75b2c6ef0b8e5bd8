theorem z_byteV {x : Int32} {j : Nat} (hj : j < 4) : (z_byte x j).toBitVec = (x.toBitVec >>> (8 * j)) &&& 255#32 := by
  unfold z_byte
  rw [Int32.toBitVec_and]
  have e : (x.toUInt32 >>> ((nI (8 * j)).toUInt32 &&& Int32.toUInt32 31)).toInt32.toBitVec = x.toBitVec >>> (8 * j) := by
    have hs : (((nI (8 * j)).toUInt32 &&& Int32.toUInt32 31).toBitVec % 32).toNat = 8 * j := by
      rcases (show j = 0 ∨ j = 1 ∨ j = 2 ∨ j = 3 by omega) with rfl | rfl | rfl | rfl <;> decide
    have e1 : (x.toUInt32 >>> ((nI (8 * j)).toUInt32 &&& Int32.toUInt32 31)).toInt32.toBitVec = x.toBitVec >>> (((nI (8 * j)).toUInt32 &&& Int32.toUInt32 31).toBitVec % 32) := UInt32.toBitVec_shiftRight _ _
    rw [e1]
    show x.toBitVec >>> (((nI (8 * j)).toUInt32 &&& Int32.toUInt32 31).toBitVec % 32).toNat = _
    rw [hs]
  rw [e]
  rfl
theorem z_bits {x y : Int32} (h : ∀ i, i < 32 → x.toBitVec.getLsbD i = y.toBitVec.getLsbD i) : x = y := Int32.toBitVec_inj.mp (BitVec.eq_of_getLsbD_eq (fun i hi => h i hi))
theorem z_255 (i : Nat) : (255#32).getLsbD i = decide (i < 8) := by
  by_cases h : i < 32
  · rw [BitVec.getLsbD_ofNat]
    have e : (255 : Nat).testBit i = decide (i < 8) := Nat.testBit_two_pow_sub_one 8 i
    rw [e]
    by_cases h8 : i < 8
    · simp [h, h8]
    · simp [h8]
  · rw [BitVec.getLsbD_of_ge _ _ (by omega)]
    simp; omega
theorem z_byteG {x : Int32} {j : Nat} (hj : j < 4) (i : Nat) : (z_byte x j).toBitVec.getLsbD i = (x.toBitVec.getLsbD (8 * j + i) && decide (i < 8)) := by
  rw [z_byteV hj, BitVec.getLsbD_and, BitVec.getLsbD_ushiftRight, z_255]
theorem z_shlV {b : Int32} {j : Nat} (hj : j < 4) : (b <<< (nI (8 * j) &&& 31)).toBitVec = b.toBitVec <<< (8 * j) := by
  have hs : ((nI (8 * j) &&& 31).toBitVec.smod 32).toNat = 8 * j := by
    rcases (show j = 0 ∨ j = 1 ∨ j = 2 ∨ j = 3 by omega) with rfl | rfl | rfl | rfl <;> decide
  show b.toBitVec <<< ((nI (8 * j) &&& 31).toBitVec.smod 32).toNat = _
  rw [hs]
theorem z_flipB {x m : Int32} {j k : Nat} (hj : j < 4) (hk : k < 4) : z_byte (x ^^^ ((m &&& 255) <<< (nI (8 * j) &&& 31))) k = if k = j then z_byte x j ^^^ (m &&& 255) else z_byte x k := by
  apply z_bits
  intro i hi
  have e255 : (255 : Int32).toBitVec = 255#32 := rfl
  by_cases h : k = j
  · subst h
    rw [if_pos rfl, z_byteG hk, Int32.toBitVec_xor, BitVec.getLsbD_xor, z_shlV hk, BitVec.getLsbD_shiftLeft, Int32.toBitVec_xor, BitVec.getLsbD_xor, z_byteG hk, Int32.toBitVec_and, BitVec.getLsbD_and, BitVec.getLsbD_and, e255, z_255, z_255]
    rw [show 8 * k + i - 8 * k = i by omega]
    by_cases h8 : i < 8
    · have w1 : 8 * k + i < 32 := by omega
      have w2 : ¬ 8 * k + i < 8 * k := by omega
      simp [h8, w1, w2]
    · simp [h8]
  · rw [if_neg h, z_byteG hk, Int32.toBitVec_xor, BitVec.getLsbD_xor, z_shlV hj, BitVec.getLsbD_shiftLeft, Int32.toBitVec_and, BitVec.getLsbD_and, e255, z_255, z_byteG hk]
    by_cases h8 : i < 8
    · by_cases h2 : 8 * k + i < 8 * j
      · simp [h2]
      · have w : ¬ (8 * k + i - 8 * j < 8) := by omega
        simp [w]
    · simp [h8]
theorem z_flipX {S : z_S} {q d k : Nat} {b : Int32} (hd : d < 6) (hk : k < 64) : g_H_flip S q (nI d) (nI k) b = z_sI S 13 q (16 * d + k / 4) (S.1 13 q (16 * d + k / 4) ^^^ (b <<< (nI (8 * (k % 4)) &&& 31))) := by
  unfold g_H_flip
  rw [z_plc hd hk, z_shf hk, nI_clamp (by omega)]
/-- one byte is changed on both sides -/
theorem z_setB {S T : z_S} (h : r_by S T) {q d k : Nat} {m v : Int32} (hq : q < 3) (hd : d < 6) (hk : k < 64) (hv : v = z_byte (S.1 13 q (16 * d + k / 4)) (k % 4) ^^^ (m &&& 255)) : r_by (g_H_flip S q (nI d) (nI k) (m &&& 255)) (z_sI T 22 0 (384 * q + 64 * d + k) v) := by
  rw [z_flipX hd hk]
  intro a w j ha hw hj
  by_cases e : a = q ∧ w = 16 * d + k / 4
  · obtain ⟨rfl, rfl⟩ := e
    have e1 : (z_sI S 13 a (16 * d + k / 4) (S.1 13 a (16 * d + k / 4) ^^^ ((m &&& 255) <<< (nI (8 * (k % 4)) &&& 31)))).1 13 a (16 * d + k / 4) = S.1 13 a (16 * d + k / 4) ^^^ ((m &&& 255) <<< (nI (8 * (k % 4)) &&& 31)) := by
      rw [z_rI, if_pos ⟨rfl, rfl, rfl⟩]
    rw [e1, z_flipB (by omega) hj, z_rI]
    by_cases e2 : j = k % 4
    · rw [if_pos e2, if_pos ⟨rfl, rfl, by omega⟩, hv]
    · rw [if_neg e2, if_neg (fun z => by omega)]
      exact h a _ j ha hw hj
  · have e1 : (z_sI S 13 q (16 * d + k / 4) (S.1 13 q (16 * d + k / 4) ^^^ ((m &&& 255) <<< (nI (8 * (k % 4)) &&& 31)))).1 13 a w = S.1 13 a w := by
      rw [z_rI, if_neg (fun z => e ⟨z.2.1, z.2.2⟩)]
    rw [e1, z_rI, if_neg]
    · exact h a w j ha hw hj
    · rintro ⟨-, -, z⟩
      apply e
      constructor <;> omega
theorem sm_damage {n : Nat} {S T : z_S} (h : Rr n S T) (hn : n < 512) (x0 : Int32) (x1 : Int32) (x2 : Int32) (x3 : Int32) : (f_X_damage S x0 x1 x2 x3) = (f_M_damage T x0 x1 x2 x3) ∧ Rr (n + 1) (g_X_damage S x0 x1 x2 x3) (g_M_damage T x0 x1 x2 x3) := by
  unfold f_X_damage f_M_damage g_X_damage g_M_damage
  rw [z_isB h]
  by_cases h0 : f_X_isHouse x0 = 0
  · simp only [if_pos h0, if_pos]; exact ⟨trivial, h.up⟩
  · simp only [if_neg h0]
    by_cases h1 : f_X_isByte S x1 x2 = 0
    · simp only [if_pos h1]; exact ⟨trivial, h.up⟩
    · simp only [if_neg h1]
      obtain ⟨d, k, hd, hk, rfl, rfl, hb⟩ := z_bytN h.ok h1
      obtain ⟨q, hq, rfl⟩ := vp_in_of (z_hou h0) (by decide)
      have ei : (384 * nI q + 64 * nI d + nI k).toNatClampNeg = 384 * q + 64 * d + k := by
        show (nI 384 * nI q + nI 64 * nI d + nI k).toNatClampNeg = _
        rw [pk_mul, pk_mul, nI_add, nI_add, nI_clamp (by omega)]
      rw [ei, nI_clamp (by omega)]
      have hby := z_setB h.2.2.2.1 (m := x3) (v := T.1 22 0 (384 * q + 64 * d + k) ^^^ (x3 &&& 255)) hq hd hk (by rw [z_byteM h hq hd hk, z_byteOf hd hk])
      constructor
      · rw [z_byteOf hd hk, ← hby q (16 * d + k / 4) (k % 4) hq (by omega) (by omega)]
        exact congrArg _ (by omega)
      · obtain ⟨h1', h2, h3, h4, h5, h6, h7, h8, h9, h10⟩ := h.up
        rw [z_flipX hd hk] at hby ⊢
        refine ⟨h1', h2, h3, hby, ?_, h6, h7, h8, h9, h10⟩
        intro a d2 q2 ha hd2 hq2 hz
        have hz2 : (S.1 2 0 d2).toInt ≤ q2 := hz
        rw [z_rI, if_neg]
        · exact h5 a d2 q2 ha hd2 hq2 hz2
        · rintro ⟨-, -, z⟩
          have : d2 = d := by omega
          subst this
          omega
