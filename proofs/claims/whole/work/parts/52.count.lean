def z_sum (g : Nat → Nat) : Nat → Nat
  | 0 => 0
  | n + 1 => z_sum g n + g n
theorem z_sum_congr {f g : Nat → Nat} : ∀ {n : Nat}, (∀ k, k < n → f k = g k) → z_sum f n = z_sum g n
  | 0, _ => rfl
  | n + 1, h => by
    show z_sum f n + f n = z_sum g n + g n
    rw [z_sum_congr (fun k hk => h k (by omega)), h n (by omega)]
theorem z_cnt_sum (f : Nat → Int32) : ∀ n : Nat, z_cnt f n = z_sum (fun k => z_bit (f k)) n
  | 0 => rfl
  | n + 1 => by
    show z_cnt f n + _ = z_sum _ n + _
    rw [z_cnt_sum f n]
theorem z_sum_add (g : Nat → Nat) (m : Nat) : ∀ n : Nat, z_sum g (m + n) = z_sum g m + z_sum (fun k => g (m + k)) n
  | 0 => rfl
  | n + 1 => by
    show z_sum g (m + n) + g (m + n) = z_sum g m + (z_sum (fun k => g (m + k)) n + g (m + n))
    rw [z_sum_add g m n, Nat.add_assoc]
theorem z_sum_le (g : Nat → Nat) (hg : ∀ k, g k ≤ 1) : ∀ n : Nat, z_sum g n ≤ n
  | 0 => Nat.le_refl _
  | n + 1 => by
    show z_sum g n + g n ≤ n + 1
    have := z_sum_le g hg n
    have := hg n
    omega
theorem z_bit_le (x : Int32) : z_bit x ≤ 1 := by
  unfold z_bit
  split <;> omega
theorem z_it_snoc {α : Type} (f : Nat → α → α) : ∀ (n k : Nat) (x : α), z_it f k (n + 1) x = f (k + n) (z_it f k n x)
  | 0, _, _ => rfl
  | n + 1, k, x => by
    show z_it f (k + 1) (n + 1) (f k x) = f (k + (n + 1)) (z_it f (k + 1) n (f k x))
    rw [z_it_snoc f n (k + 1) (f k x)]
    exact congrArg (fun q => f q _) (by omega)
/-- a part's size, by naturals -/
theorem z_sizeN {T : z_S} {d q b : Nat} (hd : d < 6) (hq : q < 8) (hb : T.1 23 0 d = nI b) (hb2 : b ≤ 16) : f_M_sizeOf T (nI d) (nI q) = nI (if q < b then (if b ≤ q + 8 then 1 else 2) else 0) := by
  unfold f_M_sizeOf
  rw [if_neg (nI_pos (by omega)), if_neg (show ¬ (7 : Int32) < nI q from nI_nlt (b := q) (a := 7) (by omega) (by decide)), z_bof hd, nI_clamp (by omega), hb]
  by_cases h : q < b
  · rw [if_pos (nI_lt h (by omega)), if_pos h]
    have e : nI q + 8 = nI (q + 8) := nI_add q 8
    rw [e]
    by_cases h2 : b ≤ q + 8
    · rw [if_pos (nI_le h2 (by omega)), if_pos h2]; rfl
    · rw [if_neg (nI_ge (by omega) (by omega)), if_neg h2]; rfl
  · rw [if_neg (nI_nlt (by omega) (by omega)), if_neg h]; rfl
theorem z_blN {n : Nat} {S T : z_S} (h : Rr n S T) {d : Nat} (hd : d < 6) : ∃ b : Nat, b ≤ 16 ∧ S.1 2 0 d = nI b ∧ T.1 23 0 d = nI b := by
  obtain ⟨e, h1, h2⟩ := h.1 d hd
  obtain ⟨b, hb, e2⟩ := vp_in_of (x := S.1 2 0 d) (n := 17) (vp_in_iff.mpr ⟨h1, by omega⟩) (by decide)
  exact ⟨b, by omega, e2, by rw [← e]; exact e2⟩
/-- which parts count: all, or the done ones -/
theorem z_countN {T : z_S} {x : Int32} {g : Nat → Nat} (hg : ∀ k : Nat, k < 48 → ∀ v : Int32, rg_M_count_4i_u2 T x v k = v + nI (g k)) : f_M_count T x = nI (z_sum g 48) := by
  have key : ∀ n : Nat, n ≤ 48 → z_it (fun (kk9 : Nat) (T9 : Int32) => rg_M_count_4i_u2 T x T9 kk9) 0 n 0 = nI (z_sum g n) := by
    intro n
    induction n with
    | zero => intro _; rfl
    | succ n ih =>
      intro hn
      rw [z_it_snoc, ih (by omega)]
      show rg_M_count_4i_u2 T x (nI (z_sum g n)) (0 + n) = _
      rw [Nat.zero_add, hg n (by omega), nI_add]
      rfl
  exact key 48 (Nat.le_refl _)
theorem z_cntBody {T : z_S} {k b : Nat} (hk : k < 48) (hb : T.1 23 0 (k / 8) = nI b) (hb2 : b ≤ 16) (x v : Int32) : rg_M_count_4i_u2 T x v k = v + nI (if k % 8 < b then (if x = 0 then 1 else z_bit (T.1 40 0 k)) else 0) := by
  unfold rg_M_count_4i_u2
  have e1 : nI k / 8 = nI (k / 8) := pk_div (d := 8) (by omega) (by decide) (by decide)
  have e2 : nI k - nI k / 8 * 8 = nI (k % 8) := pk_rem (d := 8) (by omega) (by decide) (by decide)
  rw [e2, e1, z_sizeN (by omega) (by omega) hb hb2]
  by_cases h : k % 8 < b
  · rw [if_pos h, if_pos h, if_neg]
    · by_cases hx : x = 0
      · rw [if_pos hx, if_pos hx]; rfl
      · rw [if_neg hx, if_neg hx]
        unfold z_bit
        by_cases h3 : T.1 40 0 k = 0
        · rw [if_pos h3, if_pos h3]; rfl
        · rw [if_neg h3, if_neg h3]; rfl
    · split <;> decide
  · rw [if_neg h, if_neg h, if_pos (by decide)]; rfl
theorem z_8 {b : Nat} : z_sum (fun q => if q < b then 1 else 0) 8 = min b 8 := by
  by_cases h : b < 8
  · rcases (show b = 0 ∨ b = 1 ∨ b = 2 ∨ b = 3 ∨ b = 4 ∨ b = 5 ∨ b = 6 ∨ b = 7 by omega) with rfl | rfl | rfl | rfl | rfl | rfl | rfl | rfl <;> rfl
  · rw [Nat.min_eq_right (by omega), z_sum_congr (g := fun _ => 1)]
    · rfl
    · intro k hk
      exact if_pos (by omega)
/-- the number of parts, by naturals -/
def z_np (b : Nat → Nat) : Nat := min (b 0) 8 + min (b 1) 8 + min (b 2) 8 + min (b 3) 8 + min (b 4) 8 + min (b 5) 8
theorem z_npS {b : Nat → Nat} : z_sum (fun k => if k % 8 < b (k / 8) then 1 else 0) 48 = z_np b := by
  have g : ∀ d : Nat, z_sum (fun q => (fun k => if k % 8 < b (k / 8) then 1 else 0) (8 * d + q)) 8 = min (b d) 8 := by
    intro d
    rw [← z_8]
    refine z_sum_congr (fun q hq => ?_)
    show (if (8 * d + q) % 8 < b ((8 * d + q) / 8) then 1 else 0) = _
    rw [show (8 * d + q) % 8 = q by omega, show (8 * d + q) / 8 = d by omega]
  have a1 := z_sum_add (fun k => if k % 8 < b (k / 8) then 1 else 0) 40 8
  have a2 := z_sum_add (fun k => if k % 8 < b (k / 8) then 1 else 0) 32 8
  have a3 := z_sum_add (fun k => if k % 8 < b (k / 8) then 1 else 0) 24 8
  have a4 := z_sum_add (fun k => if k % 8 < b (k / 8) then 1 else 0) 16 8
  have a5 := z_sum_add (fun k => if k % 8 < b (k / 8) then 1 else 0) 8 8
  have a6 := z_sum_add (fun k => if k % 8 < b (k / 8) then 1 else 0) 0 8
  have g0 := g 0
  have g1 := g 1
  have g2 := g 2
  have g3 := g 3
  have g4 := g 4
  have g5 := g 5
  rw [show 40 + 8 = 48 from rfl] at a1
  rw [show 32 + 8 = 40 from rfl] at a2
  rw [show 24 + 8 = 32 from rfl] at a3
  rw [show 16 + 8 = 24 from rfl] at a4
  rw [show 8 + 8 = 16 from rfl] at a5
  rw [show 0 + 8 = 8 from rfl] at a6
  rw [a1, a2, a3, a4, a5, a6]
  unfold z_np
  rw [← g0, ← g1, ← g2, ← g3, ← g4, ← g5]
  show 0 + _ + _ + _ + _ + _ + _ = _
  rw [Nat.zero_add]
theorem z_min8 {b : Nat} (hb : b ≤ 16) : (if (8 : Int32) < nI b then 8 else nI b) = nI (min b 8) := by
  show (if nI 8 < nI b then nI 8 else nI b) = nI (min b 8)
  by_cases h : 8 < b
  · rw [if_pos (nI_lt (a := 8) h (by omega)), Nat.min_eq_right (by omega)]
  · rw [if_neg (nI_nlt (b := b) (a := 8) (by omega) (by decide) : ¬ nI 8 < nI b), Nat.min_eq_left (by omega)]
theorem z_partsN {S : z_S} {b : Nat → Nat} (hb : ∀ d, d < 6 → S.1 2 0 d = nI (b d) ∧ b d ≤ 16) : f_X_parts S = nI (z_np b) := by
  unfold f_X_parts
  rw [(hb 0 (by decide)).1, (hb 1 (by decide)).1, (hb 2 (by decide)).1, (hb 3 (by decide)).1, (hb 4 (by decide)).1, (hb 5 (by decide)).1, z_min8 (hb 0 (by decide)).2, z_min8 (hb 1 (by decide)).2, z_min8 (hb 2 (by decide)).2, z_min8 (hb 3 (by decide)).2, z_min8 (hb 4 (by decide)).2, z_min8 (hb 5 (by decide)).2]
  show nI 0 + _ + _ + _ + _ + _ + _ = _
  rw [nI_add, nI_add, nI_add, nI_add, nI_add, nI_add, Nat.zero_add]
  rfl
theorem z_blF {n : Nat} {S T : z_S} (h : Rr n S T) : ∃ b : Nat → Nat, ∀ d, d < 6 → S.1 2 0 d = nI (b d) ∧ b d ≤ 16 ∧ T.1 23 0 d = nI (b d) := by
  refine ⟨fun d => (S.1 2 0 d).toNatClampNeg, fun d hd => ?_⟩
  obtain ⟨b, hb, e1, e2⟩ := z_blN h hd
  show S.1 2 0 d = nI (S.1 2 0 d).toNatClampNeg ∧ (S.1 2 0 d).toNatClampNeg ≤ 16 ∧ T.1 23 0 d = nI (S.1 2 0 d).toNatClampNeg
  rw [e1, nI_clamp (by omega)]
  exact ⟨rfl, hb, e2⟩
theorem z_cntAll {T : z_S} {b : Nat → Nat} (hb : ∀ d, d < 6 → T.1 23 0 d = nI (b d) ∧ b d ≤ 16) : f_M_count T 0 = nI (z_np b) := by
  rw [z_countN (g := fun k => if k % 8 < b (k / 8) then 1 else 0), z_npS]
  intro k hk v
  rw [z_cntBody hk (hb _ (by omega)).1 (hb _ (by omega)).2, if_pos rfl]
theorem z_cntDone {T : z_S} {b : Nat → Nat} (hb : ∀ d, d < 6 → T.1 23 0 d = nI (b d) ∧ b d ≤ 16) (hd : ∀ k : Nat, k < 48 → z_b01 (T.1 40 0 k) ∧ (T.1 40 0 k = 1 → k % 8 < b (k / 8))) : f_M_count T 1 = nI (z_cnt (T.1 40 0) 48) := by
  rw [z_cnt_sum, z_countN (g := fun k => z_bit (T.1 40 0 k))]
  intro k hk v
  rw [z_cntBody hk (hb _ (by omega)).1 (hb _ (by omega)).2]
  by_cases h : k % 8 < b (k / 8)
  · rw [if_pos h, if_neg (by decide)]
  · rw [if_neg h]
    rcases (hd k hk).1 with e | e
    · show v + nI 0 = v + nI (z_bit _)
      rw [e]; rfl
    · exact absurd ((hd k hk).2 e) h
theorem sm_parts {n : Nat} {S T : z_S} (h : Rr n S T) (hn : n < 512)  : (f_X_parts S) = (f_M_parts T) ∧ Rr (n + 1) S T := by
  refine ⟨?_, h.up⟩
  obtain ⟨b, hb⟩ := z_blF h
  rw [z_partsN (fun d hd => ⟨(hb d hd).1, (hb d hd).2.1⟩)]
  exact (z_cntAll (fun d hd => ⟨(hb d hd).2.2, (hb d hd).2.1⟩)).symm
theorem sm_done {n : Nat} {S T : z_S} (h : Rr n S T) (hn : n < 512)  : (f_X_done S) = (f_M_done T) ∧ Rr (n + 1) S T := by
  refine ⟨?_, h.up⟩
  obtain ⟨b, hb⟩ := z_blF h
  obtain ⟨-, -, -, -, -, -, -, -, ⟨r, -, -, -, hk, e, -⟩, -⟩ := h
  show S.1 10 0 1 = f_M_count T 1
  rw [e, z_cntDone (fun d hd => ⟨(hb d hd).2.2, (hb d hd).2.1⟩)]
  intro k hk2
  obtain ⟨a1, -, -, a4⟩ := hk k hk2
  refine ⟨a1, fun q => ?_⟩
  have a5 := a4 q
  rw [(hb (k / 8) (by omega)).1, nI_toInt (by have := (hb (k / 8) (by omega)).2.1; omega)] at a5
  omega
