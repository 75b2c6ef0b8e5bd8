theorem z_come26 {T : z_S} {a b hh : Int32} {q : Nat} : (g_M_come T a b hh).1 26 0 q = T.1 26 0 q := by
  unfold g_M_come
  by_cases w : 24 ≤ T.1 21 0 14
  · rw [if_pos w, z_rI, if_neg (by omega), z_rI, if_neg (by omega), z_rI, if_neg (by omega), z_rI, if_neg (by omega)]
  · rw [if_neg w, z_rI, if_neg (by omega), z_rI, if_neg (by omega), z_rI, if_neg (by omega), z_rI, if_neg (by omega)]
def z_F3 (T : z_S) (p : Nat) : z_S := g_M_come (g_M_come (g_M_come T 3 (T.1 26 0 p) 0) 3 ((g_M_come T 3 (T.1 26 0 p) 0).1 26 0 p) 1) 3 ((g_M_come (g_M_come T 3 (T.1 26 0 p) 0) 3 ((g_M_come T 3 (T.1 26 0 p) 0).1 26 0 p) 1).1 26 0 p) 2
def z_K1 (p : Nat) (T : z_S) : z_S := if 7 ≤ T.1 31 0 p then (if lg_cmp (T.2 33 0 (3 * p)) (T.2 33 0 (3 * p + 1)) = 0 then (if lg_cmp (T.2 33 0 (3 * p)) (T.2 33 0 (3 * p + 2)) = 0 then g_M_end T (nI p) 1 else z_F3 T p) else z_F3 T p) else T
theorem z_tsE {T : z_S} {p k : Nat} (hp : p < 6) (hk : k < 3) (v : Int64) : g_M_takeSum T (nI p) (nI k) v = if ((T.1 31 0 p >>> (nI k &&& 31)) &&& 1) = 1 then T else z_K1 p (z_sL (z_sI T 31 0 p (T.1 31 0 p ||| ((1 : Int32) <<< (nI k &&& 31)))) 33 0 (3 * p + k) v) := by
  unfold g_M_takeSum z_K1 z_F3
  have w0 : (3 * nI p + nI k).toNatClampNeg = 3 * p + k := by
    show (nI 3 * nI p + nI k).toNatClampNeg = _
    rw [pk_mul, nI_add, nI_clamp (by omega)]
  have w1 : (3 * nI p).toNatClampNeg = 3 * p := by
    show (nI 3 * nI p).toNatClampNeg = _
    rw [pk_mul, nI_clamp (by omega)]
  have w2 : (3 * nI p + 1).toNatClampNeg = 3 * p + 1 := by
    show (nI 3 * nI p + nI 1).toNatClampNeg = _
    rw [pk_mul, nI_add, nI_clamp (by omega)]
  have w3 : (3 * nI p + 2).toNatClampNeg = 3 * p + 2 := by
    show (nI 3 * nI p + nI 2).toNatClampNeg = _
    rw [pk_mul, nI_add, nI_clamp (by omega)]
  rw [w0, w1, w2, w3, nI_clamp (show p < 2 ^ 31 by omega)]
  rfl
theorem z_bg3 {T : z_S} {b : Int32} {k : Nat} (hk : k < 3) : rg_M_again_85_S1 T b 3 0 (nI k) = g_M_come T 3 b (nI k) := by
  unfold rg_M_again_85_S1
  rcases (show k = 0 ∨ k = 1 ∨ k = 2 by omega) with rfl | rfl | rfl <;> rw [if_pos (by decide)]
/-- a SUM arrives -/
theorem z_tsum {n : Nat} {S T : z_S} (h : Rr n S T) (hn : n < 512) {p u k : Nat} (hp : p < 6) (e : S.1 14 p 0 = nI u) (hu1 : 1 ≤ u) (hu2 : u ≤ 512) (hk : k < 3) (v : Int64) : Rr (n + 1) (g_X_takeSum S p (nI k) v) (g_M_takeSum T (nI p) (nI k) v) := by
  have s3 := (h.2.2.2.2.2.2.1 p hp).2.2.1
  have hb := z_bitOne (f := S.1 16 p) hk
  rw [← s3] at hb
  rw [z_tsE hp hk]
  unfold g_X_takeSum f_A_take_15 g_A_take_15
  rw [nI_clamp (show k < 2 ^ 31 by omega)]
  by_cases c0 : S.1 16 p k = 0
  · rw [if_pos c0, if_neg (show ¬ (1 : Int32) = 0 by decide), if_neg (fun z => (hb.mp z) c0), if_pos c0]
    have hR := z_takeS h hp hk c0 v
    have K18 : (z_sI (z_sL (z_sI S 16 p k 1) 17 p k v) 15 p 2 (S.1 15 p 2 + 1)).1 18 p 2 = 0 := by
      rw [z_rI, if_neg (by omega), z_rLI, z_rI, if_neg (by omega)]
      rcases (h.2.2.2.2.2.2.2.1 p hp).2.2.2.1 with z | z
      · rw [(h.2.2.2.2.2.2.1 p hp).2.1] at z
        exact absurd c0 ((z_b7 (f := S.1 16 p)).2.2.2 z k hk)
      · exact z
    have f14 : (z_sI (z_sL (z_sI S 16 p k 1) 17 p k v) 15 p 2 (S.1 15 p 2 + 1)).1 14 p 0 = S.1 14 p 0 := by
      rw [z_rI, if_neg (by omega), z_rLI, z_rI, if_neg (by omega)]
    have f26 : (z_sL (z_sI T 31 0 p (T.1 31 0 p ||| ((1 : Int32) <<< (nI k &&& 31)))) 33 0 (3 * p + k) v).1 26 0 p = T.1 26 0 p := by
      rw [z_rLI, z_rI, if_neg (by omega)]
    have t26 : T.1 26 0 p = nI u := by
      obtain ⟨d, q, b, -, -, -, -, -, -, -, -, f0, -⟩ := z_pl h hp e hu1 hu2
      exact f0
    generalize z_sI (z_sL (z_sI S 16 p k 1) 17 p k v) 15 p 2 (S.1 15 p 2 + 1) = S1 at *
    generalize z_sL (z_sI T 31 0 p (T.1 31 0 p ||| ((1 : Int32) <<< (nI k &&& 31)))) 33 0 (3 * p + k) v = T1 at *
    rw [e] at f14
    rw [t26] at f26
    obtain ⟨g1, g2, g3, g4⟩ := hR.2.2.2.2.2.2.1 p hp
    obtain ⟨k1, k2, k3, k4, -⟩ := hR.2.2.2.2.2.2.2.1 p hp
    obtain ⟨b1, b2, b3, b4⟩ := z_b7 (f := S1.1 16 p)
    rw [← g3, ← g2] at b1
    rw [← g3, ← g2] at b3
    rw [← g2] at b4
    unfold f_A_isComplete_15 z_K1
    by_cases c1 : S1.1 15 p 2 = 3
    · rw [if_pos c1, if_neg (show ¬ (1 : Int32) = 0 by decide), if_pos (b1.mpr c1)]
      have kn : ∀ j, j < 3 → T1.2 33 0 (3 * p + j) = S1.2 17 p j := by
        intro j hj
        refine g4 j hj ?_
        rcases g1 j hj with z | z
        · exact absurd z (b4 c1 j hj)
        · exact z
      have kn0 : T1.2 33 0 (3 * p) = S1.2 17 p 0 := kn 0 (by decide)
      rw [kn0, kn 1 (by decide), kn 2 (by decide)]
      unfold f_A_areAlike_15
      have fin : Rr (n + 1) (g_X_sendToAwaited S1 p) (z_F3 T1 p) := by
        obtain ⟨-, a2, -⟩ := z_sendA hR hp f14 hu1 hu2
        have t32 : T1.1 32 0 p = 0 := by
          rw [k3]
          have z18 : nI (z_cnt (S1.1 19 p) 3) = 0 := by
            rw [← k2]
            exact K18
          have z18 : z_cnt (S1.1 19 p) 3 = 0 := (nI_eq (b := 0) (by rw [z_cnt3]; have := z_bit_le (S1.1 19 p 0); have := z_bit_le (S1.1 19 p 1); have := z_bit_le (S1.1 19 p 2); omega) (by decide)).mp z18
          rw [z_cnt3] at z18
          rw [show z_bit (S1.1 19 p 0) + 2 * z_bit (S1.1 19 p 1) + 4 * z_bit (S1.1 19 p 2) = 0 by omega]
          rfl
        rw [if_pos (b3.mpr c1), t32] at a2
        have a2 : Rr n (g_X_sendToAwaited S1 p) (rg_M_again_85_S1 (rg_M_again_85_S1 (rg_M_again_85_S1 T1 (nI u) 3 0 (nI 0)) (nI u) 3 0 (nI 1)) (nI u) 3 0 (nI 2)) := a2
        rw [z_bg3 (by decide), z_bg3 (by decide), z_bg3 (by decide)] at a2
        unfold z_F3
        rw [z_come26, z_come26, z_come26, f26]
        exact a2.up
      by_cases d1 : S1.2 17 p 0 = S1.2 17 p 1
      · rw [if_pos ((lg_cmp_eq _ _).mpr d1), if_pos ((lg_cmp_eq _ _).mpr d1)]
        by_cases d2 : S1.2 17 p 1 = S1.2 17 p 2
        · rw [if_pos ((lg_cmp_eq _ _).mpr d2), if_pos ((lg_cmp_eq _ _).mpr (d1.trans d2)), if_neg (show ¬ (1 : Int32) = 0 by decide)]
          exact z_finish hR hn hp f14 hu1 hu2 (by decide)
        · rw [if_neg (fun z => d2 ((lg_cmp_eq _ _).mp z)), if_neg (fun z => d2 (d1.symm.trans ((lg_cmp_eq _ _).mp z))), if_pos rfl]
          exact fin
      · rw [if_neg (fun z => d1 ((lg_cmp_eq _ _).mp z)), if_neg (fun z => d1 ((lg_cmp_eq _ _).mp z)), if_pos rfl]
        exact fin
    · rw [if_neg c1, if_pos rfl, if_neg (fun z => c1 (b1.mp z))]
      exact hR.up
  · rw [if_neg c0, if_pos rfl, if_neg c0, if_pos (hb.mpr c0)]
    exact h.up
