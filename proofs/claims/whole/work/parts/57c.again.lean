theorem z_addE {S : z_S} (a b hh : Int32) (v : Int64) {q : Nat} (hq : q < 3 ∨ 6 < q) : (g_R_add S a b hh v).1 q = S.1 q := by
  unfold g_R_add
  by_cases h : S.1 3 0 4 < 24
  · rw [if_pos h]
    funext o
    rw [z_sI_ne _ _ _ _ _ (fun w => by omega), z_rLI, z_sI_ne _ _ _ _ _ (fun w => by omega), z_sI_ne _ _ _ _ _ (fun w => by omega), z_sI_ne _ _ _ _ _ (fun w => by omega)]
  · rw [if_neg h]
theorem z_addEL {S : z_S} (a b hh : Int32) (v : Int64) {q : Nat} (hq : q ≠ 7) : (g_R_add S a b hh v).2 q = S.2 q := by
  unfold g_R_add
  by_cases h : S.1 3 0 4 < 24
  · rw [if_pos h]
    funext o
    rw [z_rIL, z_sL_ne _ _ _ _ _ (fun w => hq w.1)]
    rfl
  · rw [if_neg h]
/-- a letter of the poll at place p -/
theorem z_comeP {n : Nat} {S T : z_S} (h : Rr n S T) {p u : Nat} (hp : p < 6) (e : S.1 14 p 0 = nI u) (hu1 : 1 ≤ u) (hu2 : u ≤ 512) {a hh : Int32} (ha : a = 1 ∨ a = 3) (hh3 : vp_in hh 3) : Rr n (g_R_add S a (nI u) hh 0) (g_M_come T a (nI u) hh) := by
  refine z_come h ha ⟨u, hu1, rfl, fun c hc => ?_⟩ hh3
  obtain ⟨⟨v, d, q, hv, hd, hq, e0, -⟩, -⟩ := hc.2.2.2 p hp
  by_cases w : v < 2 ^ 31
  · rw [e, nI_eq (by omega) w] at e0
    omega
  · omega
theorem z_plo {n : Nat} {S T : z_S} (h : Rr n S T) {x v : Int32} {k : Nat} (hk : k < 6) (hx : ¬ x ≤ 0) : rg_M_placeOf_10_t0 T x v (nI k) = if S.1 14 k 0 = x then nI k else v := by
  unfold rg_M_placeOf_10_t0
  obtain ⟨-, -, -, -, -, ⟨c, hc, hc5, hp, -⟩, -⟩ := h
  rw [if_neg hx, nI_clamp (by omega), (hp.2.2.2 k hk).2.1]
theorem z_ploE {n : Nat} {S T : z_S} (h : Rr n S T) {x : Int32} (hx : ¬ x ≤ 0) : f_M_placeOf T x = if S.1 14 5 0 = x then nI 5 else if S.1 14 4 0 = x then nI 4 else if S.1 14 3 0 = x then nI 3 else if S.1 14 2 0 = x then nI 2 else if S.1 14 1 0 = x then nI 1 else if S.1 14 0 0 = x then nI 0 else (-1) := by
  show rg_M_placeOf_10_t0 T x (rg_M_placeOf_10_t0 T x (rg_M_placeOf_10_t0 T x (rg_M_placeOf_10_t0 T x (rg_M_placeOf_10_t0 T x (rg_M_placeOf_10_t0 T x (-1) (nI 0)) (nI 1)) (nI 2)) (nI 3)) (nI 4)) (nI 5) = _
  rw [z_plo h (k := 5) (by decide) hx, z_plo h (k := 4) (by decide) hx, z_plo h (k := 3) (by decide) hx, z_plo h (k := 2) (by decide) hx, z_plo h (k := 1) (by decide) hx, z_plo h (k := 0) (by decide) hx]
theorem z_runE {n : Nat} {S T : z_S} (h : Rr n S T) (x : Int32) : (f_X_runningPoll S x = none ∧ f_M_placeOf T x = -1) ∨ ∃ i u : Nat, i < 6 ∧ 1 ≤ u ∧ u ≤ 512 ∧ x = nI u ∧ S.1 14 i 0 = nI u ∧ f_X_runningPoll S x = some i ∧ f_M_placeOf T x = nI i := by
  have h' := h
  obtain ⟨-, -, -, -, -, ⟨c, hc, hc5, hp, -⟩, -⟩ := h
  by_cases c1 : x < 1
  · refine Or.inl ⟨?_, ?_⟩
    · unfold f_X_runningPoll f_X_isPoll
      rw [if_pos c1, if_pos rfl]
    · have c0 : x ≤ 0 := by
        rw [Int32.lt_iff_toInt_lt] at c1
        rw [Int32.le_iff_toInt_le]
        have w1 : (1 : Int32).toInt = 1 := by decide
        have w0 : (0 : Int32).toInt = 0 := by decide
        omega
      unfold f_M_placeOf rg_M_placeOf_10_t0
      rw [if_pos c0, if_pos c0, if_pos c0, if_pos c0, if_pos c0, if_pos c0]
  have c0 : ¬ x ≤ 0 := by
    rw [Int32.lt_iff_toInt_lt] at c1
    rw [Int32.le_iff_toInt_le]
    have w1 : (1 : Int32).toInt = 1 := by decide
    have w0 : (0 : Int32).toInt = 0 := by decide
    omega
  obtain ⟨u, hu, rfl⟩ := nI_of (x := x) (fun w => c0 (by
    rw [Int32.lt_iff_toInt_lt] at w
    rw [Int32.le_iff_toInt_le]
    omega))
  have hu1 : 1 ≤ u := by
    refine Nat.pos_of_ne_zero (fun w => c0 ?_)
    subst w
    decide
  rw [z_ploE h' c0]
  unfold f_X_runningPoll f_X_isPoll
  rw [if_neg c1, hp.1]
  by_cases c2 : c < u
  · rw [if_pos (nI_lt c2 (by omega)), if_pos rfl]
    have ne : ∀ j, j < 6 → ¬ S.1 14 j 0 = nI u := by
      intro j hj w
      obtain ⟨⟨v, d, q, hv, hd, hq, e0, -⟩, -⟩ := hp.2.2.2 j hj
      rw [e0, nI_eq (by omega) (by omega)] at w
      omega
    rw [if_neg (ne 5 (by decide)), if_neg (ne 4 (by decide)), if_neg (ne 3 (by decide)), if_neg (ne 2 (by decide)), if_neg (ne 1 (by decide)), if_neg (ne 0 (by decide))]
    exact Or.inl ⟨rfl, rfl⟩
  · rw [if_neg (nI_nlt (by omega) (by omega)), if_neg (show ¬ (1 : Int32) = 0 by decide)]
    by_cases c3 : ∃ i, i < 6 ∧ S.1 14 i 0 = nI u
    · obtain ⟨i, hi, e⟩ := c3
      have ne : ∀ j, j < 6 → j ≠ i → ¬ S.1 14 j 0 = nI u := by
        intro j hj hji w
        rcases (hp.2.2.2 j hj).2.2.2.2.2.2 i hi (w.trans e.symm) with w2 | w2
        · rw [w2] at w
          exact nI_ne0 (by omega) (by omega) w.symm
        · exact hji w2
      refine Or.inr ⟨i, u, hi, hu1, by omega, rfl, e, ?_⟩
      rcases (show i = 0 ∨ i = 1 ∨ i = 2 ∨ i = 3 ∨ i = 4 ∨ i = 5 by omega) with rfl | rfl | rfl | rfl | rfl | rfl
      · constructor
        · rw [if_pos e]
        · rw [if_neg (ne 5 (by decide) (by decide)), if_neg (ne 4 (by decide) (by decide)), if_neg (ne 3 (by decide) (by decide)), if_neg (ne 2 (by decide) (by decide)), if_neg (ne 1 (by decide) (by decide)), if_pos e]
      · constructor
        · rw [if_neg (ne 0 (by decide) (by decide)), if_pos e]
        · rw [if_neg (ne 5 (by decide) (by decide)), if_neg (ne 4 (by decide) (by decide)), if_neg (ne 3 (by decide) (by decide)), if_neg (ne 2 (by decide) (by decide)), if_pos e]
      · constructor
        · rw [if_neg (ne 0 (by decide) (by decide)), if_neg (ne 1 (by decide) (by decide)), if_pos e]
        · rw [if_neg (ne 5 (by decide) (by decide)), if_neg (ne 4 (by decide) (by decide)), if_neg (ne 3 (by decide) (by decide)), if_pos e]
      · constructor
        · rw [if_neg (ne 0 (by decide) (by decide)), if_neg (ne 1 (by decide) (by decide)), if_neg (ne 2 (by decide) (by decide)), if_pos e]
        · rw [if_neg (ne 5 (by decide) (by decide)), if_neg (ne 4 (by decide) (by decide)), if_pos e]
      · constructor
        · rw [if_neg (ne 0 (by decide) (by decide)), if_neg (ne 1 (by decide) (by decide)), if_neg (ne 2 (by decide) (by decide)), if_neg (ne 3 (by decide) (by decide)), if_pos e]
        · rw [if_neg (ne 5 (by decide) (by decide)), if_pos e]
      · constructor
        · rw [if_neg (ne 0 (by decide) (by decide)), if_neg (ne 1 (by decide) (by decide)), if_neg (ne 2 (by decide) (by decide)), if_neg (ne 3 (by decide) (by decide)), if_neg (ne 4 (by decide) (by decide)), if_pos e]
        · rw [if_pos e]
    · have ne : ∀ j, j < 6 → ¬ S.1 14 j 0 = nI u := fun j hj w => c3 ⟨j, hj, w⟩
      rw [if_neg (ne 5 (by decide)), if_neg (ne 4 (by decide)), if_neg (ne 3 (by decide)), if_neg (ne 2 (by decide)), if_neg (ne 1 (by decide)), if_neg (ne 0 (by decide)), if_neg (ne 0 (by decide)), if_neg (ne 1 (by decide)), if_neg (ne 2 (by decide)), if_neg (ne 3 (by decide)), if_neg (ne 4 (by decide)), if_neg (ne 5 (by decide))]
      exact Or.inl ⟨rfl, rfl⟩
theorem z_bitsD {b0 b1 b2 : Nat} (h0 : b0 ≤ 1) (h1 : b1 ≤ 1) (h2 : b2 ≤ 1) : (((nI (b0 + 2 * b1 + 4 * b2) >>> (nI 0 &&& 31)) &&& 1 = 0) ↔ b0 = 0) ∧ (((nI (b0 + 2 * b1 + 4 * b2) >>> (nI 1 &&& 31)) &&& 1 = 0) ↔ b1 = 0) ∧ (((nI (b0 + 2 * b1 + 4 * b2) >>> (nI 2 &&& 31)) &&& 1 = 0) ↔ b2 = 0) ∧ (nI (b0 + b1 + b2) = 3 ↔ nI (b0 + 2 * b1 + 4 * b2) = 7) := by
  rcases (show b0 = 0 ∨ b0 = 1 by omega) with rfl | rfl <;> rcases (show b1 = 0 ∨ b1 = 1 by omega) with rfl | rfl <;> rcases (show b2 = 0 ∨ b2 = 1 by omega) with rfl | rfl <;> decide
theorem z_bit0 {x : Int32} : z_bit x = 0 ↔ x = 0 := by
  unfold z_bit
  by_cases h : x = 0
  · rw [if_pos h]; exact ⟨fun _ => h, fun _ => rfl⟩
  · rw [if_neg h]; exact ⟨fun w => absurd w (by decide), fun w => absurd w h⟩
theorem z_cnt3 {f : Nat → Int32} : z_cnt f 3 = z_bit (f 0) + z_bit (f 1) + z_bit (f 2) := by
  show 0 + z_bit (f 0) + z_bit (f 1) + z_bit (f 2) = _
  rw [Nat.zero_add]
theorem z_snd1 {n : Nat} {S T : z_S} (h : Rr n S T) {p u q : Nat} (hp : p < 6) (e : S.1 14 p 0 = nI u) (hu1 : 1 ≤ u) (hu2 : u ≤ 512) (hq : q < 3) {v v5 : Int32} (hb : ((v >>> (nI q &&& 31)) &&& 1 = 0) ↔ S.1 16 p q = 0) : rg_X_sendToAwaited_47_u5 S p v5 (nI q) = rg_M_again_85_u5 v v5 (nI q) ∧ Rr n (rg_X_sendToAwaited_47_S1 S p 1 p (nI q)) (rg_M_again_85_S1 T (nI u) 1 v (nI q)) ∧ (∀ a, a < 3 ∨ 6 < a → (rg_X_sendToAwaited_47_S1 S p 1 p (nI q)).1 a = S.1 a) := by
  unfold rg_X_sendToAwaited_47_u5 rg_M_again_85_u5 rg_X_sendToAwaited_47_S1 rg_M_again_85_S1
  rw [nI_clamp (by omega), e]
  by_cases w : S.1 16 p q = 0
  · rw [if_pos w, if_pos (hb.mpr w), if_pos w, if_pos (hb.mpr w)]
    exact ⟨rfl, z_comeP h hp e hu1 hu2 (by decide) (vp_in_nI hq (by decide)), fun a ha => z_addE _ _ _ _ ha⟩
  · rw [if_neg w, if_neg (fun z => w (hb.mp z)), if_neg w, if_neg (fun z => w (hb.mp z))]
    exact ⟨rfl, h, fun a ha => rfl⟩
theorem z_send1 {n : Nat} {S T : z_S} (h : Rr n S T) {p u : Nat} (hp : p < 6) (e : S.1 14 p 0 = nI u) (hu1 : 1 ≤ u) (hu2 : u ≤ 512) {v : Int32} (hb0 : ((v >>> (nI 0 &&& 31)) &&& 1 = 0) ↔ S.1 16 p 0 = 0) (hb1 : ((v >>> (nI 1 &&& 31)) &&& 1 = 0) ↔ S.1 16 p 1 = 0) (hb2 : ((v >>> (nI 2 &&& 31)) &&& 1 = 0) ↔ S.1 16 p 2 = 0) :
    rg_X_sendToAwaited_47_u5 (rg_X_sendToAwaited_47_S1 (rg_X_sendToAwaited_47_S1 S p 1 p (nI 0)) p 1 p (nI 1)) p (rg_X_sendToAwaited_47_u5 (rg_X_sendToAwaited_47_S1 S p 1 p (nI 0)) p (rg_X_sendToAwaited_47_u5 S p 0 (nI 0)) (nI 1)) (nI 2) = rg_M_again_85_u5 v (rg_M_again_85_u5 v (rg_M_again_85_u5 v 0 (nI 0)) (nI 1)) (nI 2) ∧ Rr n (rg_X_sendToAwaited_47_S1 (rg_X_sendToAwaited_47_S1 (rg_X_sendToAwaited_47_S1 S p 1 p (nI 0)) p 1 p (nI 1)) p 1 p (nI 2)) (rg_M_again_85_S1 (rg_M_again_85_S1 (rg_M_again_85_S1 T (nI u) 1 v (nI 0)) (nI u) 1 v (nI 1)) (nI u) 1 v (nI 2)) ∧ (∀ a, a < 3 ∨ 6 < a → (rg_X_sendToAwaited_47_S1 (rg_X_sendToAwaited_47_S1 (rg_X_sendToAwaited_47_S1 S p 1 p (nI 0)) p 1 p (nI 1)) p 1 p (nI 2)).1 a = S.1 a) := by
  obtain ⟨a1, a2, a3⟩ := z_snd1 h hp e hu1 hu2 (q := 0) (by decide) (v := v) (v5 := 0) hb0
  rw [a1]
  generalize rg_X_sendToAwaited_47_S1 S p 1 p (nI 0) = S1 at *
  generalize rg_M_again_85_S1 T (nI u) 1 v (nI 0) = T1 at *
  obtain ⟨b1, b2, b3⟩ := z_snd1 a2 hp (by rw [a3 14 (by decide)]; exact e) hu1 hu2 (q := 1) (by decide) (v := v) (v5 := rg_M_again_85_u5 v 0 (nI 0)) (by rw [a3 16 (by decide)]; exact hb1)
  rw [b1]
  generalize rg_X_sendToAwaited_47_S1 S1 p 1 p (nI 1) = S2 at *
  generalize rg_M_again_85_S1 T1 (nI u) 1 v (nI 1) = T2 at *
  obtain ⟨d1, d2, d3⟩ := z_snd1 b2 hp (by rw [b3 14 (by decide), a3 14 (by decide)]; exact e) hu1 hu2 (q := 2) (by decide) (v := v) (v5 := rg_M_again_85_u5 v (rg_M_again_85_u5 v 0 (nI 0)) (nI 1)) (by rw [b3 16 (by decide), a3 16 (by decide)]; exact hb2)
  exact ⟨d1, d2, fun a ha => by rw [d3 a ha, b3 a ha, a3 a ha]⟩
theorem z_snd3 {n : Nat} {S T : z_S} (h : Rr n S T) {p u q : Nat} (hp : p < 6) (e : S.1 14 p 0 = nI u) (hu1 : 1 ≤ u) (hu2 : u ≤ 512) (hq : q < 3) {v v5 : Int32} (hb : ((v >>> (nI q &&& 31)) &&& 1 = 0) ↔ S.1 19 p q = 0) : rg_X_sendToAwaited_47_1_u5 S p v5 (nI q) = rg_M_again_85_u5 v v5 (nI q) ∧ Rr n (rg_X_sendToAwaited_47_1_S1 S p 3 p (nI q)) (rg_M_again_85_S1 T (nI u) 3 v (nI q)) ∧ (∀ a, a < 3 ∨ 6 < a → (rg_X_sendToAwaited_47_1_S1 S p 3 p (nI q)).1 a = S.1 a) := by
  unfold rg_X_sendToAwaited_47_1_u5 rg_M_again_85_u5 rg_X_sendToAwaited_47_1_S1 rg_M_again_85_S1
  rw [nI_clamp (by omega), e]
  by_cases w : S.1 19 p q = 0
  · rw [if_pos w, if_pos (hb.mpr w), if_pos w, if_pos (hb.mpr w)]
    exact ⟨rfl, z_comeP h hp e hu1 hu2 (by decide) (vp_in_nI hq (by decide)), fun a ha => z_addE _ _ _ _ ha⟩
  · rw [if_neg w, if_neg (fun z => w (hb.mp z)), if_neg w, if_neg (fun z => w (hb.mp z))]
    exact ⟨rfl, h, fun a ha => rfl⟩
theorem z_send3 {n : Nat} {S T : z_S} (h : Rr n S T) {p u : Nat} (hp : p < 6) (e : S.1 14 p 0 = nI u) (hu1 : 1 ≤ u) (hu2 : u ≤ 512) {v : Int32} (hb0 : ((v >>> (nI 0 &&& 31)) &&& 1 = 0) ↔ S.1 19 p 0 = 0) (hb1 : ((v >>> (nI 1 &&& 31)) &&& 1 = 0) ↔ S.1 19 p 1 = 0) (hb2 : ((v >>> (nI 2 &&& 31)) &&& 1 = 0) ↔ S.1 19 p 2 = 0) :
    rg_X_sendToAwaited_47_1_u5 (rg_X_sendToAwaited_47_1_S1 (rg_X_sendToAwaited_47_1_S1 S p 3 p (nI 0)) p 3 p (nI 1)) p (rg_X_sendToAwaited_47_1_u5 (rg_X_sendToAwaited_47_1_S1 S p 3 p (nI 0)) p (rg_X_sendToAwaited_47_1_u5 S p 0 (nI 0)) (nI 1)) (nI 2) = rg_M_again_85_u5 v (rg_M_again_85_u5 v (rg_M_again_85_u5 v 0 (nI 0)) (nI 1)) (nI 2) ∧ Rr n (rg_X_sendToAwaited_47_1_S1 (rg_X_sendToAwaited_47_1_S1 (rg_X_sendToAwaited_47_1_S1 S p 3 p (nI 0)) p 3 p (nI 1)) p 3 p (nI 2)) (rg_M_again_85_S1 (rg_M_again_85_S1 (rg_M_again_85_S1 T (nI u) 3 v (nI 0)) (nI u) 3 v (nI 1)) (nI u) 3 v (nI 2)) ∧ (∀ a, a < 3 ∨ 6 < a → (rg_X_sendToAwaited_47_1_S1 (rg_X_sendToAwaited_47_1_S1 (rg_X_sendToAwaited_47_1_S1 S p 3 p (nI 0)) p 3 p (nI 1)) p 3 p (nI 2)).1 a = S.1 a) := by
  obtain ⟨a1, a2, a3⟩ := z_snd3 h hp e hu1 hu2 (q := 0) (by decide) (v := v) (v5 := 0) hb0
  rw [a1]
  generalize rg_X_sendToAwaited_47_1_S1 S p 3 p (nI 0) = S1 at *
  generalize rg_M_again_85_S1 T (nI u) 3 v (nI 0) = T1 at *
  obtain ⟨b1, b2, b3⟩ := z_snd3 a2 hp (by rw [a3 14 (by decide)]; exact e) hu1 hu2 (q := 1) (by decide) (v := v) (v5 := rg_M_again_85_u5 v 0 (nI 0)) (by rw [a3 19 (by decide)]; exact hb1)
  rw [b1]
  generalize rg_X_sendToAwaited_47_1_S1 S1 p 3 p (nI 1) = S2 at *
  generalize rg_M_again_85_S1 T1 (nI u) 3 v (nI 1) = T2 at *
  obtain ⟨d1, d2, d3⟩ := z_snd3 b2 hp (by rw [b3 14 (by decide), a3 14 (by decide)]; exact e) hu1 hu2 (q := 2) (by decide) (v := v) (v5 := rg_M_again_85_u5 v (rg_M_again_85_u5 v 0 (nI 0)) (nI 1)) (by rw [b3 19 (by decide), a3 19 (by decide)]; exact hb2)
  exact ⟨d1, d2, fun a ha => by rw [d3 a ha, b3 a ha, a3 a ha]⟩
theorem z_sendA {n : Nat} {S T : z_S} (h : Rr n S T) {p u : Nat} (hp : p < 6) (e : S.1 14 p 0 = nI u) (hu1 : 1 ≤ u) (hu2 : u ≤ 512) : f_X_sendToAwaited S p = (if T.1 31 0 p = 7 then rg_M_again_85_u5 (T.1 32 0 p) (rg_M_again_85_u5 (T.1 32 0 p) (rg_M_again_85_u5 (T.1 32 0 p) 0 0) 1) 2 else rg_M_again_85_u5 (T.1 31 0 p) (rg_M_again_85_u5 (T.1 31 0 p) (rg_M_again_85_u5 (T.1 31 0 p) 0 0) 1) 2) ∧ Rr n (g_X_sendToAwaited S p) (if T.1 31 0 p = 7 then rg_M_again_85_S1 (rg_M_again_85_S1 (rg_M_again_85_S1 T (nI u) 3 (T.1 32 0 p) 0) (nI u) 3 (T.1 32 0 p) 1) (nI u) 3 (T.1 32 0 p) 2 else rg_M_again_85_S1 (rg_M_again_85_S1 (rg_M_again_85_S1 T (nI u) 1 (T.1 31 0 p) 0) (nI u) 1 (T.1 31 0 p) 1) (nI u) 1 (T.1 31 0 p) 2) ∧ (∀ a, a < 3 ∨ 6 < a → (g_X_sendToAwaited S p).1 a = S.1 a) := by
  have h' := h
  obtain ⟨-, -, -, -, -, -, h7, h8, -⟩ := h
  obtain ⟨s1, s2, s3, -⟩ := h7 p hp
  obtain ⟨o1, o2, o3, -⟩ := h8 p hp
  rw [z_cnt3] at s2 o2
  obtain ⟨t0, t1, t2, t3⟩ := z_bitsD (z_bit_le (S.1 16 p 0)) (z_bit_le (S.1 16 p 1)) (z_bit_le (S.1 16 p 2))
  obtain ⟨w0, w1, w2, -⟩ := z_bitsD (z_bit_le (S.1 19 p 0)) (z_bit_le (S.1 19 p 1)) (z_bit_le (S.1 19 p 2))
  rw [← s2, ← s3] at t3
  rw [← s3] at t0 t1 t2
  rw [← o3] at w0 w1 w2
  unfold f_X_sendToAwaited g_X_sendToAwaited f_A_isComplete_15
  by_cases q : S.1 15 p 2 = 3
  · rw [if_pos q, if_pos (t3.mp q), if_pos (t3.mp q), if_neg (show ¬ (1 : Int32) = 0 by decide), if_neg (show ¬ (1 : Int32) = 0 by decide)]
    exact z_send3 h' hp e hu1 hu2 (w0.trans z_bit0) (w1.trans z_bit0) (w2.trans z_bit0)
  · rw [if_neg q, if_neg (fun z => q (t3.mpr z)), if_neg (fun z => q (t3.mpr z)), if_pos rfl, if_pos rfl]
    exact z_send1 h' hp e hu1 hu2 (t0.trans z_bit0) (t1.trans z_bit0) (t2.trans z_bit0)
theorem sm_again {n : Nat} {S T : z_S} (h : Rr n S T) (hn : n < 512) (x0 : Int32) : (f_X_again S x0) = (f_M_again T x0) ∧ Rr (n + 1) (g_X_again S x0) (g_M_again T x0) := by
  obtain ⟨c, hc, hc5, e1, e2, -⟩ := z_pollN h
  unfold f_X_again f_M_again g_X_again g_M_again
  rw [e2]
  by_cases c1 : x0 < 1
  · have c1' : f_X_isPoll S x0 = 0 := by unfold f_X_isPoll; rw [if_pos c1]
    rw [if_pos c1', if_pos c1', if_pos c1, if_pos c1]
    exact ⟨rfl, h.up⟩
  by_cases c2 : x0 ≤ nI c
  · have c2' : ¬ f_X_isPoll S x0 = 0 := by
      unfold f_X_isPoll
      rw [if_neg c1, e1, if_neg (Int32.not_lt.mpr c2)]
      decide
    rw [if_neg c2', if_neg c2', if_neg c1, if_neg c1, if_pos c2, if_pos c2]
    rcases z_runE h x0 with ⟨r1, r2⟩ | ⟨i, u, hi, hu1, hu2, rfl, r0, r1, r2⟩
    · rw [z_opt_n r1, z_opt_n r1, r2, if_neg (by decide), if_neg (by decide)]
      exact ⟨rfl, h.up⟩
    · rw [z_opt_s r1, z_opt_s r1, r2, if_pos (nI_pos' (by omega)), if_pos (nI_pos' (by omega)), nI_clamp (by omega)]
      obtain ⟨a1, a2, -⟩ := z_sendA h hi r0 hu1 hu2
      exact ⟨a1, a2.up⟩
  · have c2' : f_X_isPoll S x0 = 0 := by
      unfold f_X_isPoll
      rw [if_neg c1, e1, if_pos (Int32.not_le.mp c2)]
    rw [if_pos c2', if_pos c2', if_neg c1, if_neg c1, if_neg c2, if_neg c2]
    exact ⟨rfl, h.up⟩
