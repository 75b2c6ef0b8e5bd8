theorem z_halfV {x : Int64} {q : Nat} (hq : q < 2) : (z_half x q).toBitVec = (x.toBitVec >>> (32 * q)).signExtend 32 := by
  unfold z_half
  have hs : (((32 * nI q).toInt64.toUInt64 &&& Int64.toUInt64 63).toBitVec % 64).toNat = 32 * q := by
    rcases (show q = 0 ∨ q = 1 by omega) with rfl | rfl <;> decide
  have e1 : (x.toUInt64 >>> ((32 * nI q).toInt64.toUInt64 &&& Int64.toUInt64 63)).toInt64.toBitVec = x.toBitVec >>> (((32 * nI q).toInt64.toUInt64 &&& Int64.toUInt64 63).toBitVec % 64) := UInt64.toBitVec_shiftRight _ _
  rw [Int64.toBitVec_toInt32, e1]
  show (x.toBitVec >>> (((32 * nI q).toInt64.toUInt64 &&& Int64.toUInt64 63).toBitVec % 64).toNat).signExtend 32 = _
  rw [hs]
theorem z_halfG {x : Int64} {q i : Nat} (hq : q < 2) (hi : i < 32) : (z_half x q).toBitVec.getLsbD i = x.toBitVec.getLsbD (32 * q + i) := by
  rw [z_halfV hq, BitVec.getLsbD_signExtend, if_pos (by omega), BitVec.getLsbD_ushiftRight]
  simp [hi]
theorem z_bitsL {x y : Int64} (h : ∀ i, i < 64 → x.toBitVec.getLsbD i = y.toBitVec.getLsbD i) : x = y := Int64.toBitVec_inj.mp (BitVec.eq_of_getLsbD_eq (fun i hi => h i hi))
theorem z_halves {x y : Int64} (h0 : z_half x 0 = z_half y 0) (h1 : z_half x 1 = z_half y 1) : x = y := by
  apply z_bitsL
  intro i hi
  by_cases w : i < 32
  · have a := z_halfG (x := x) (q := 0) (i := i) (by decide) w
    have b := z_halfG (x := y) (q := 0) (i := i) (by decide) w
    rw [h0, b] at a
    rw [show 32 * 0 + i = i by omega] at a
    exact a.symm
  · have a := z_halfG (x := x) (q := 1) (i := i - 32) (by decide) (by omega)
    have b := z_halfG (x := y) (q := 1) (i := i - 32) (by decide) (by omega)
    rw [h1, b] at a
    rw [show 32 * 1 + (i - 32) = i by omega] at a
    exact a.symm
theorem z_bytes4 {x y : Int32} (h : ∀ j, j < 4 → z_byte x j = z_byte y j) : x = y := by
  apply z_bits
  intro i hi
  have a := z_byteG (x := x) (j := i / 8) (by omega) (i % 8)
  have b := z_byteG (x := y) (j := i / 8) (by omega) (i % 8)
  rw [h (i / 8) (by omega), b] at a
  rw [show 8 * (i / 8) + i % 8 = i by omega] at a
  have w : decide (i % 8 < 8) = true := decide_eq_true (by omega)
  rw [w, Bool.and_true, Bool.and_true] at a
  exact a.symm
theorem z_packV {hi lo : Int32} : ((hi.toInt64 <<< ((32 : Int32).toInt64 &&& 63)) ||| (lo.toInt64 &&& 4294967295)).toBitVec = (hi.toBitVec.signExtend 64 <<< 32) ||| (lo.toBitVec.signExtend 64 &&& 4294967295#64) := by
  rw [Int64.toBitVec_or, Int64.toBitVec_and, Int32.toBitVec_toInt64]
  have e : (hi.toInt64 <<< ((32 : Int32).toInt64 &&& 63)).toBitVec = hi.toBitVec.signExtend 64 <<< 32 := by
    have hs : (((32 : Int32).toInt64 &&& 63).toBitVec.smod 64).toNat = 32 := by decide
    show hi.toInt64.toBitVec <<< (((32 : Int32).toInt64 &&& 63).toBitVec.smod 64).toNat = _
    rw [hs, Int32.toBitVec_toInt64]
  rw [e]
  rfl
theorem z_mask32 (i : Nat) : (4294967295#64).getLsbD i = decide (i < 32) := by
  by_cases h : i < 64
  · rw [BitVec.getLsbD_ofNat]
    have e : (4294967295 : Nat).testBit i = decide (i < 32) := Nat.testBit_two_pow_sub_one 32 i
    rw [e]
    by_cases h8 : i < 32
    · simp [h, h8]
    · simp [h8]
  · rw [BitVec.getLsbD_of_ge _ _ (by omega)]
    simp; omega
theorem z_pack0 {hi lo : Int32} : z_half ((hi.toInt64 <<< ((32 : Int32).toInt64 &&& 63)) ||| (lo.toInt64 &&& 4294967295)) 0 = lo := by
  apply z_bits
  intro i h
  rw [z_halfG (by decide) h, z_packV, BitVec.getLsbD_or, BitVec.getLsbD_and, z_mask32, BitVec.getLsbD_shiftLeft, BitVec.getLsbD_signExtend, BitVec.getLsbD_signExtend]
  have w1 : 32 * 0 + i < 32 := by omega
  have w2 : 32 * 0 + i = i := by omega
  rw [w2]
  have w3 : i < 64 := by omega
  simp [h, w3]
theorem z_pack1 {hi lo : Int32} : z_half ((hi.toInt64 <<< ((32 : Int32).toInt64 &&& 63)) ||| (lo.toInt64 &&& 4294967295)) 1 = hi := by
  apply z_bits
  intro i h
  rw [z_halfG (by decide) h, z_packV, BitVec.getLsbD_or, BitVec.getLsbD_and, z_mask32, BitVec.getLsbD_shiftLeft, BitVec.getLsbD_signExtend, BitVec.getLsbD_signExtend]
  have w2 : 32 * 1 + i = 32 + i := by omega
  rw [w2]
  have w1 : ¬ 32 + i < 32 := by omega
  have w3 : 32 + i < 64 := by omega
  have w4 : 32 + i - 32 = i := by omega
  have w5 : i < 64 := by omega
  simp [h, w1, w3, w4, w5]
/-- a test of all of some bytes -/
theorem z_all {f : Nat → Int32 → Int32} {P : Nat → Prop} {k : Nat} (h0 : ∀ j, f j 0 = 0) (h1 : ∀ j, P j → f j 1 = 1) (h2 : ∀ j, ¬ P j → f j 1 = 0) : ∀ n : Nat, (z_it f k n 1 = 1 ∧ ∀ j, j < n → P (k + j)) ∨ (z_it f k n 1 = 0 ∧ ¬ ∀ j, j < n → P (k + j))
  | 0 => Or.inl ⟨rfl, fun j hj => absurd hj (by omega)⟩
  | n + 1 => by
    rw [z_it_snoc]
    rcases z_all (k := k) h0 h1 h2 n with ⟨a, b⟩ | ⟨a, b⟩
    · rw [a]
      by_cases w : P (k + n)
      · refine Or.inl ⟨h1 _ w, fun j hj => ?_⟩
        by_cases e : j = n
        · rw [e]; exact w
        · exact b j (by omega)
      · exact Or.inr ⟨h2 _ w, fun z => w (z n (by omega))⟩
    · rw [a]
      exact Or.inr ⟨h0 _, fun z => b (fun j hj => z j (by omega))⟩
theorem z_all0 {f : Nat → Int32 → Int32} {P : Nat → Prop} {k n : Nat} (h0 : ∀ j, f j 0 = 0) (h1 : ∀ j, P j → f j 1 = 1) (h2 : ∀ j, ¬ P j → f j 1 = 0) : z_it f k n 1 = 0 ↔ ¬ ∀ j, j < n → P (k + j) := by
  rcases z_all (k := k) h0 h1 h2 n with ⟨a, b⟩ | ⟨a, b⟩
  · rw [a]; exact ⟨fun w => absurd w (by decide), fun w => absurd b w⟩
  · rw [a]; exact ⟨fun _ => b, fun _ => rfl⟩
/-- what a running poll has, by naturals -/
theorem z_pl {n : Nat} {S T : z_S} (h : Rr n S T) {p u : Nat} (hp : p < 6) (e : S.1 14 p 0 = nI u) (hu1 : 1 ≤ u) (hu2 : u ≤ 512) : ∃ d q b : Nat, d < 6 ∧ q < 8 ∧ q < b ∧ b ≤ 16 ∧ S.1 14 p 1 = nI d ∧ S.1 14 p 2 = nI q ∧ S.1 2 0 d = nI b ∧ T.1 23 0 d = nI b ∧ T.1 26 0 p = nI u ∧ T.1 27 0 p = nI d ∧ T.1 28 0 p = nI q ∧ T.2 29 0 p = S.2 14 p 3 ∧ z_sz S p = (if b ≤ q + 8 then 1 else 2) := by
  have h' := h
  obtain ⟨-, -, -, -, -, ⟨c, hc, hc5, hp0, hl⟩, -⟩ := h
  obtain ⟨⟨v, d, q, hv, hd, hq, e0, e1, e2, e3⟩, f0, f1, f2, f3, f4, -⟩ := hp0.2.2.2 p hp
  obtain ⟨b, hb, b1, b2⟩ := z_blN h' hd
  have hqb := e3 (by
    rw [e, nI_eq (by omega) (by omega)] at e0
    omega)
  rw [b1, nI_toInt (by omega)] at hqb
  refine ⟨d, q, b, hd, hq, by omega, hb, e1, e2, b1, b2, f0.trans e, f1.trans e1, f2.trans e2, f3, ?_⟩
  unfold z_sz
  rw [e1, e2, nI_clamp (by omega), b1, nI_toInt (by omega), nI_toInt (by omega)]
  by_cases w : b ≤ q + 8
  · rw [if_pos w, if_pos (by omega)]
  · rw [if_neg w, if_neg (by omega)]
theorem z_bAt {T : z_S} {p a d q k : Nat} (hp : p < 6) (ha : a < 3) (hd : d < 6) (hq : q < 8) (hk : k < 8) (f1 : T.1 27 0 p = nI d) (f2 : T.1 28 0 p = nI q) : (f_M_byteAt T (nI p) (nI a) (nI k)).toNatClampNeg = 384 * a + 4 * (16 * d + (q + 8 * (k / 4))) + k % 4 := by
  unfold f_M_byteAt
  have e1 : nI k / 4 = nI (k / 4) := pk_div (d := 4) (by omega) (by decide) (by decide)
  have e2 : nI k - nI k / 4 * 4 = nI (k % 4) := pk_rem (d := 4) (by omega) (by decide) (by decide)
  rw [e2, e1, nI_clamp (show p < 2 ^ 31 by omega), f1, f2]
  show (nI 384 * nI a + nI 64 * nI d + nI 4 * (nI q + nI 8 * nI (k / 4)) + nI (k % 4)).toNatClampNeg = _
  rw [pk_mul, pk_mul, pk_mul, nI_add, nI_add, pk_mul, nI_add, nI_add, nI_clamp (by omega)]
  omega
theorem z_cAt {p a k : Nat} (hp : p < 6) (ha : a < 3) (hk : k < 8) : (24 * nI p + 8 * nI a + nI k).toNatClampNeg = 24 * p + 8 * a + k := by
  show (nI 24 * nI p + nI 8 * nI a + nI k).toNatClampNeg = _
  rw [pk_mul, pk_mul, nI_add, nI_add, nI_clamp (by omega)]
theorem z_szle {S : z_S} {p : Nat} : z_sz S p ≤ 2 := by unfold z_sz; split <;> omega
theorem z_szge {S : z_S} {p : Nat} : 1 ≤ z_sz S p := by unfold z_sz; split <;> omega
theorem z_alikeE {n : Nat} {S T : z_S} (h : Rr n S T) {p a b q : Nat} (hp : p < 6) (h0 : S.1 14 p 0 ≠ 0) (ha : a < 3) (hb : b < 3) (ka : S.1 19 p a = 1) (kb : S.1 19 p b = 1) (hq : q < z_sz S p) : f_M_alike T (nI p) (nI a) (nI b) q = 0 ↔ ¬ z_half (S.2 20 p a) q = z_half (S.2 20 p b) q := by
  obtain ⟨-, -, -, -, -, -, -, h8, -⟩ := h
  obtain ⟨-, -, -, -, h8⟩ := h8 p hp
  have A := (h8 h0 a ha ka).1
  have B := (h8 h0 b hb kb).1
  have hz := z_szle (S := S) (p := p)
  unfold f_M_alike
  rw [z_all0 (P := fun k => T.1 34 0 ((24 * nI p + 8 * nI a + nI k).toNatClampNeg) = T.1 34 0 ((24 * nI p + 8 * nI b + nI k).toNatClampNeg)) (fun j => ?_) (fun j w => ?_) (fun j w => ?_)]
  · refine not_congr ⟨fun w => z_bytes4 (fun j hj => ?_), fun w j hj => ?_⟩
    · have w2 := w j hj
      show _ = _
      have w3 : T.1 34 0 ((24 * nI p + 8 * nI a + nI (4 * q + j)).toNatClampNeg) = T.1 34 0 ((24 * nI p + 8 * nI b + nI (4 * q + j)).toNatClampNeg) := w2
      rw [z_cAt hp ha (by omega), z_cAt hp hb (by omega), A q j hq hj, B q j hq hj] at w3
      exact w3
    · show T.1 34 0 ((24 * nI p + 8 * nI a + nI (4 * q + j)).toNatClampNeg) = T.1 34 0 ((24 * nI p + 8 * nI b + nI (4 * q + j)).toNatClampNeg)
      rw [z_cAt hp ha (by omega), z_cAt hp hb (by omega), A q j hq hj, B q j hq hj, w]
  · show (if (0 : Int32) = 0 then _ else _) = _
    exact if_pos rfl
  · show (if (1 : Int32) = 0 then _ else if _ then _ else _) = _
    rw [if_neg (by decide)]; exact if_pos w
  · show (if (1 : Int32) = 0 then _ else if _ then _ else _) = _
    rw [if_neg (by decide)]; exact if_neg w
theorem z_bop {S : z_S} {a d q : Nat} (hd : d < 6) (hq : q < 8) : z_half (f_H_bytesOfPart S a (nI d) (nI q)) 0 = S.1 13 a (16 * d + q) ∧ z_half (f_H_bytesOfPart S a (nI d) (nI q)) 1 = S.1 13 a (16 * d + (q + 8)) := by
  unfold f_H_bytesOfPart f_H_place
  rw [z_pack0, z_pack1]
  constructor
  · show S.1 13 a ((nI d * nI 16 + nI q).toNatClampNeg) = _
    rw [pk_mul, nI_add, nI_clamp (by omega), Nat.mul_comm]
  · show S.1 13 a ((nI d * nI 16 + (nI q + nI 8)).toNatClampNeg) = _
    rw [pk_mul, nI_add, nI_add, nI_clamp (by omega), Nat.mul_comm]
/-- the halves of a part as it lies in a house -/
theorem z_bopH {S : z_S} {a d q k : Nat} (hd : d < 6) (hq : q < 8) (hk : k < 2) : z_half (f_H_bytesOfPart S a (nI d) (nI q)) k = S.1 13 a (16 * d + (q + 8 * k)) := by
  rcases (show k = 0 ∨ k = 1 by omega) with rfl | rfl
  · exact (z_bop hd hq).1
  · exact (z_bop hd hq).2
theorem z_asC {n : Nat} {S T : z_S} (h : Rr n S T) {p u a : Nat} (hp : p < 6) (e : S.1 14 p 0 = nI u) (hu1 : 1 ≤ u) (hu2 : u ≤ 512) (ha : a < 3) (ka : S.1 19 p a = 1) : f_M_isAsCopied T (nI p) (nI a) (4 * z_sz S p) = 0 ↔ ¬ f_H_bytesOfPart S a (S.1 14 p 1) (S.1 14 p 2) = S.2 20 p a := by
  obtain ⟨d, q, b, hd, hq, hqb, hb, e1, e2, b1, b2, f0, f1, f2, f3, esz⟩ := z_pl h hp e hu1 hu2
  obtain ⟨-, -, -, h4, h5, -, -, h8, -⟩ := h
  obtain ⟨-, -, -, -, h8⟩ := h8 p hp
  obtain ⟨A, A1⟩ := h8 (by rw [e]; exact nI_ne0 (by omega) (by omega)) a ha ka
  have hz := z_szle (S := S) (p := p)
  unfold f_M_isAsCopied
  rw [e1, e2]
  have key : ∀ k, k < 4 * z_sz S p → (T.1 22 0 ((f_M_byteAt T (nI p) (nI a) (nI k)).toNatClampNeg) = T.1 34 0 ((24 * nI p + 8 * nI a + nI k).toNatClampNeg) ↔ z_byte (S.1 13 a (16 * d + (q + 8 * (k / 4)))) (k % 4) = z_byte (z_half (S.2 20 p a) (k / 4)) (k % 4)) := by
    intro k hk
    rw [z_bAt hp ha hd hq (by omega) f1 f2, z_cAt hp ha (by omega), h4 a _ _ ha (by omega) (by omega), ← A (k / 4) (k % 4) (by omega) (by omega), show 4 * (k / 4) + k % 4 = k by omega]
  rw [z_all0 (P := fun k => T.1 22 0 ((f_M_byteAt T (nI p) (nI a) (nI k)).toNatClampNeg) = T.1 34 0 ((24 * nI p + 8 * nI a + nI k).toNatClampNeg)) (fun j => ?_) (fun j w => ?_) (fun j w => ?_)]
  · refine not_congr ⟨fun w => ?_, fun w j hj => ?_⟩
    · have half : ∀ k, k < z_sz S p → z_half (f_H_bytesOfPart S a (nI d) (nI q)) k = z_half (S.2 20 p a) k := by
        intro k hk
        rw [z_bopH hd hq (by omega)]
        refine z_bytes4 (fun j hj => ?_)
        have w2 := w (4 * k + j) (by omega)
        simp only [Nat.zero_add] at w2
        rw [key _ (by omega), show (4 * k + j) / 4 = k by omega, show (4 * k + j) % 4 = j by omega] at w2
        exact w2
      refine z_halves (half 0 (by have := z_szge (S := S) (p := p); omega)) ?_
      by_cases z : z_sz S p = 1
      · rw [A1 z, z_bopH hd hq (by decide)]
        refine h5 a d (q + 8 * 1) ha hd (by omega) ?_
        rw [b1, nI_toInt (by omega)]
        rw [esz] at z
        by_cases y : b ≤ q + 8
        · omega
        · rw [if_neg y] at z; omega
      · exact half 1 (by have := z_szge (S := S) (p := p); omega)
    · simp only [Nat.zero_add]
      rw [key j hj, ← w, z_bopH hd hq (by omega)]
  · show (if (0 : Int32) = 0 then _ else _) = _
    exact if_pos rfl
  · show (if (1 : Int32) = 0 then _ else if _ then _ else _) = _
    rw [if_neg (by decide)]; exact if_pos w
  · show (if (1 : Int32) = 0 then _ else if _ then _ else _) = _
    rw [if_neg (by decide)]; exact if_neg w
