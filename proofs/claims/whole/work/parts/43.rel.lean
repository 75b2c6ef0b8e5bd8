/-! The relation between the class's cells (kinds up to 20, in S) and the reference's (kinds from 21 on, in T), behind n calls. -/
/-- byte j of an int -/
def z_byte (x : Int32) (j : Nat) : Int32 := (x.toUInt32 >>> ((nI (8 * j)).toUInt32 &&& Int32.toUInt32 31)).toInt32 &&& 255
/-- the low and the high int of a long -/
def z_half (x : Int64) (q : Nat) : Int32 := ((x.toUInt64 >>> ((32 * nI q).toInt64.toUInt64 &&& Int64.toUInt64 63)).toInt64).toInt32
/-- how many blocks a part has -/
def z_sz (S : z_S) (p : Nat) : Nat := if (S.1 2 0 (S.1 14 p 1).toNatClampNeg).toInt ≤ (S.1 14 p 2).toInt + 8 then 1 else 2
def z_bit (x : Int32) : Nat := if x = 0 then 0 else 1
/-- how many of the first n are 1 -/
def z_cnt (f : Nat → Int32) : Nat → Nat
  | 0 => 0
  | n + 1 => z_cnt f n + z_bit (f n)
def r_bl (S T : z_S) : Prop := ∀ d : Nat, d < 6 → S.1 2 0 d = T.1 23 0 d ∧ 0 ≤ (S.1 2 0 d).toInt ∧ (S.1 2 0 d).toInt ≤ 16
def r_op (S T : z_S) : Prop := ∀ h : Nat, h < 3 → S.1 12 h 0 = T.1 24 0 h ∧ z_b01 (S.1 12 h 0)
def r_me (S T : z_S) : Prop := ∀ h : Nat, h < 3 → S.1 12 h 1 = T.1 41 0 h
def r_by (S T : z_S) : Prop := ∀ h w j : Nat, h < 3 → w < 96 → j < 4 → T.1 22 0 (384 * h + 4 * w + j) = z_byte (S.1 13 h w) j
def r_zo (S : z_S) : Prop := ∀ h d q : Nat, h < 3 → d < 6 → q < 16 → (S.1 2 0 d).toInt ≤ q → S.1 13 h (16 * d + q) = 0
/-- the polls: numbers up to c, the places -/
def r_po (c : Nat) (S T : z_S) : Prop := S.1 0 0 6 = nI c ∧ T.1 21 0 3 = nI c ∧ (∀ r : Nat, r ≤ c → S.1 9 0 r = T.1 25 0 r) ∧ ∀ p : Nat, p < 6 → (∃ v d q : Nat, v ≤ c ∧ d < 6 ∧ q < 8 ∧ S.1 14 p 0 = nI v ∧ S.1 14 p 1 = nI d ∧ S.1 14 p 2 = nI q ∧ (v ≠ 0 → (q : Int) < (S.1 2 0 d).toInt)) ∧ T.1 26 0 p = S.1 14 p 0 ∧ T.1 27 0 p = S.1 14 p 1 ∧ T.1 28 0 p = S.1 14 p 2 ∧ T.2 29 0 p = S.2 14 p 3 ∧ T.1 30 0 p = S.1 14 p 4 ∧ ∀ q : Nat, q < 6 → S.1 14 p 0 = S.1 14 q 0 → S.1 14 p 0 = 0 ∨ p = q
/-- the sums and copies that a place has -/
def r_su (S T : z_S) : Prop := ∀ p : Nat, p < 6 → (∀ h : Nat, h < 3 → z_b01 (S.1 16 p h)) ∧ S.1 15 p 2 = nI (z_cnt (S.1 16 p) 3) ∧ T.1 31 0 p = nI (z_bit (S.1 16 p 0) + 2 * z_bit (S.1 16 p 1) + 4 * z_bit (S.1 16 p 2)) ∧ ∀ h : Nat, h < 3 → S.1 16 p h = 1 → T.2 33 0 (3 * p + h) = S.2 17 p h
def r_co (S T : z_S) : Prop := ∀ p : Nat, p < 6 → (∀ h : Nat, h < 3 → z_b01 (S.1 19 p h)) ∧ S.1 18 p 2 = nI (z_cnt (S.1 19 p) 3) ∧ T.1 32 0 p = nI (z_bit (S.1 19 p 0) + 2 * z_bit (S.1 19 p 1) + 4 * z_bit (S.1 19 p 2)) ∧ (S.1 15 p 2 = 3 ∨ S.1 18 p 2 = 0) ∧ (S.1 14 p 0 ≠ 0 → ∀ h : Nat, h < 3 → S.1 19 p h = 1 → (∀ q j : Nat, q < z_sz S p → j < 4 → T.1 34 0 (24 * p + 8 * h + (4 * q + j)) = z_byte (z_half (S.2 20 p h) q) j) ∧ (z_sz S p = 1 → z_half (S.2 20 p h) 1 = 0))
/-- the letters under way -/
def r_le (c : Nat) (S T : z_S) : Prop := ∃ m : Nat, m ≤ 24 ∧ S.1 3 0 4 = nI m ∧ T.1 21 0 14 = nI m ∧ (∀ k : Nat, k < 24 → vp_in (S.1 6 0 k) 3) ∧ (∀ k : Nat, k < 25 → vp_in (T.1 37 0 k) 3) ∧ ∀ k : Nat, k < m → T.1 35 0 k = S.1 4 0 k ∧ T.1 36 0 k = S.1 5 0 k ∧ T.1 37 0 k = S.1 6 0 k ∧ (∃ u : Nat, 1 ≤ u ∧ u ≤ c ∧ S.1 5 0 k = nI u) ∧ (S.1 4 0 k = 1 ∨ S.1 4 0 k = 2 ∨ S.1 4 0 k = 3 ∨ S.1 4 0 k = 4) ∧ (S.1 4 0 k = 2 → T.2 38 0 k = S.2 7 0 k) ∧ (S.1 4 0 k = 4 → ∀ p : Nat, p < 6 → S.1 14 p 0 = S.1 5 0 k → (∀ q j : Nat, q < z_sz S p → j < 4 → T.1 39 0 (8 * k + (4 * q + j)) = z_byte (z_half (S.2 7 0 k) q) j) ∧ (z_sz S p = 1 → z_half (S.2 7 0 k) 1 = 0))
/-- rounds: the round's number, what is done in it -/
def r_ro (n : Nat) (S T : z_S) : Prop := ∃ r : Nat, r ≤ n + 1 ∧ S.1 10 0 0 = nI r ∧ T.1 21 0 20 = nI r ∧ (∀ k : Nat, k < 48 → z_b01 (T.1 40 0 k) ∧ (∃ u : Nat, u ≤ r ∧ S.1 11 0 k = nI u) ∧ (S.1 11 0 k = nI r ↔ T.1 40 0 k = 1) ∧ (T.1 40 0 k = 1 → ((k % 8 : Nat) : Int) < (S.1 2 0 (k / 8)).toInt)) ∧ S.1 10 0 1 = nI (z_cnt (T.1 40 0) 48) ∧ ((∀ d : Nat, d < 6 → S.1 2 0 d = 0) ∨ (z_cnt (T.1 40 0) 48 : Int) < (f_X_parts S).toInt) ∧ 1 ≤ r
def Rr (n : Nat) (S T : z_S) : Prop := r_bl S T ∧ r_op S T ∧ r_me S T ∧ r_by S T ∧ r_zo S ∧ (∃ c : Nat, c ≤ n ∧ c ≤ 512 ∧ r_po c S T ∧ r_le c S T) ∧ r_su S T ∧ r_co S T ∧ r_ro n S T ∧ S.1 0 0 7 = T.1 21 0 23
def Rl (n : Nat) (S : z_S) : Prop := n ≤ 512 ∧ Rr n S S
/-- alike in the class's kinds; alike in the reference's -/
def z_eX (S S2 : z_S) : Prop := ∀ a : Nat, a < 21 → S2.1 a = S.1 a ∧ S2.2 a = S.2 a
def z_eM (S S2 : z_S) : Prop := ∀ a : Nat, 21 ≤ a → S2.1 a = S.1 a ∧ S2.2 a = S.2 a
theorem Rr.congr {n : Nat} {S S2 T T2 : z_S} (h : Rr n S T) (eX : z_eX S S2) (eM : z_eM T T2) : Rr n S2 T2 := by
  have e2 := (eX 2 (by decide)).1
  have e12 := (eX 12 (by decide)).1
  have e13 := (eX 13 (by decide)).1
  have e0 := (eX 0 (by decide)).1
  have e9 := (eX 9 (by decide)).1
  have e14 := (eX 14 (by decide)).1
  have l14 := (eX 14 (by decide)).2
  have e15 := (eX 15 (by decide)).1
  have e16 := (eX 16 (by decide)).1
  have l17 := (eX 17 (by decide)).2
  have e18 := (eX 18 (by decide)).1
  have e19 := (eX 19 (by decide)).1
  have l20 := (eX 20 (by decide)).2
  have e3 := (eX 3 (by decide)).1
  have e4 := (eX 4 (by decide)).1
  have e5 := (eX 5 (by decide)).1
  have e6 := (eX 6 (by decide)).1
  have l7 := (eX 7 (by decide)).2
  have e10 := (eX 10 (by decide)).1
  have e11 := (eX 11 (by decide)).1
  have m21 := (eM 21 (by decide)).1
  have m22 := (eM 22 (by decide)).1
  have m23 := (eM 23 (by decide)).1
  have m24 := (eM 24 (by decide)).1
  have m25 := (eM 25 (by decide)).1
  have m26 := (eM 26 (by decide)).1
  have m27 := (eM 27 (by decide)).1
  have m28 := (eM 28 (by decide)).1
  have k29 := (eM 29 (by decide)).2
  have m30 := (eM 30 (by decide)).1
  have m31 := (eM 31 (by decide)).1
  have m32 := (eM 32 (by decide)).1
  have k33 := (eM 33 (by decide)).2
  have m34 := (eM 34 (by decide)).1
  have m35 := (eM 35 (by decide)).1
  have m36 := (eM 36 (by decide)).1
  have m37 := (eM 37 (by decide)).1
  have k38 := (eM 38 (by decide)).2
  have m39 := (eM 39 (by decide)).1
  have m40 := (eM 40 (by decide)).1
  have m41 := (eM 41 (by decide)).1
  unfold Rr r_bl r_op r_me r_by r_zo r_po r_le r_su r_co r_ro z_sz f_X_parts at h ⊢
  rw [e2, e12, e13, e0, e9, e14, l14, e15, e16, l17, e18, e19, l20, e3, e4, e5, e6, l7, e10, e11, m21, m22, m23, m24, m25, m26, m27, m28, k29, m30, m31, m32, k33, m34, m35, m36, m37, k38, m39, m40, m41]
  exact h
theorem z_eX.rf {S : z_S} : z_eX S S := fun _ _ => ⟨rfl, rfl⟩
theorem z_eM.rf {S : z_S} : z_eM S S := fun _ _ => ⟨rfl, rfl⟩
theorem z_eX.tr {S S2 S3 : z_S} (h : z_eX S S2) (h2 : z_eX S2 S3) : z_eX S S3 := fun a ha => ⟨(h2 a ha).1.trans (h a ha).1, (h2 a ha).2.trans (h a ha).2⟩
theorem z_eM.tr {S S2 S3 : z_S} (h : z_eM S S2) (h2 : z_eM S2 S3) : z_eM S S3 := fun a ha => ⟨(h2 a ha).1.trans (h a ha).1, (h2 a ha).2.trans (h a ha).2⟩
theorem z_eX.I {S : z_S} {a o j : Nat} {v : Int32} (ha : 21 ≤ a) : z_eX S (z_sI S a o j v) := fun b hb => ⟨funext fun o2 => z_sI_ne S a o j v (fun h => by omega), rfl⟩
theorem z_eX.L {S : z_S} {a o j : Nat} {v : Int64} (ha : 21 ≤ a) : z_eX S (z_sL S a o j v) := fun b hb => ⟨rfl, funext fun o2 => z_sL_ne S a o j v (fun h => by omega)⟩
theorem z_eM.I {S : z_S} {a o j : Nat} {v : Int32} (ha : a < 21) : z_eM S (z_sI S a o j v) := fun b hb => ⟨funext fun o2 => z_sI_ne S a o j v (fun h => by omega), rfl⟩
theorem z_eM.L {S : z_S} {a o j : Nat} {v : Int64} (ha : a < 21) : z_eM S (z_sL S a o j v) := fun b hb => ⟨rfl, funext fun o2 => z_sL_ne S a o j v (fun h => by omega)⟩
theorem z_eM.it {f : Nat → z_S → z_S} (h : ∀ k S, z_eM S (f k S)) : ∀ (n k : Nat) (S : z_S), z_eM S (z_it f k n S)
  | 0, _, _ => z_eM.rf
  | n + 1, k, S => (h k S).tr (z_eM.it h n (k + 1) (f k S))
theorem z_eX.it {f : Nat → z_S → z_S} (h : ∀ k S, z_eX S (f k S)) : ∀ (n k : Nat) (S : z_S), z_eX S (z_it f k n S)
  | 0, _, _ => z_eX.rf
  | n + 1, k, S => (h k S).tr (z_eX.it h n (k + 1) (f k S))
theorem Rr.ok {n : Nat} {S T : z_S} (h : Rr n S T) : z_Ok S := by
  obtain ⟨hbl, -, -, -, -, ⟨c, hc, hc5, hpo, m, hm, h3, -, h6, -⟩, -⟩ := h
  refine ⟨fun d hd => (hbl d hd).2, ?_, h6, fun i hi => ?_, ?_⟩
  · rw [h3, nI_toInt (by omega)]; omega
  · obtain ⟨⟨v, d, q, hv, hd, hq, e0, e1, e2, -⟩, -⟩ := hpo.2.2.2 i hi
    rw [e0, e1, e2]
    exact ⟨vp_in_nI (by omega) (by decide), vp_in_nI hd (by decide), vp_in_nI hq (by decide)⟩
  · rw [hpo.1, nI_toInt (by omega)]; omega
theorem Rr.om {n : Nat} {S T : z_S} (h : Rr n S T) : z_Om T := by
  obtain ⟨hbl, -, -, -, -, ⟨c, hc, hc5, hpo, m, hm, -, h3, -, h6, -⟩, -⟩ := h
  refine ⟨fun d hd => ?_, ?_, h6, fun i hi => ?_, ?_⟩
  · rw [← (hbl d hd).1]; exact (hbl d hd).2
  · rw [h3, nI_toInt (by omega)]; omega
  · obtain ⟨⟨v, d, q, hv, hd, hq, e0, e1, e2, -⟩, f0, f1, f2, -⟩ := hpo.2.2.2 i hi
    rw [f0, f1, f2, e0, e1, e2]
    exact ⟨vp_in_nI (by omega) (by decide), vp_in_nI hd (by decide), vp_in_nI hq (by decide)⟩
  · rw [hpo.2.1, nI_toInt (by omega)]; omega
