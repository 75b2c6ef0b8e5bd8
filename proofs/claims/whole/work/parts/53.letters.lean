/-- one letter on both sides; p is looked up in S -/
def z_Lt (c : Nat) (S : z_S) (a b h : Int32) (v : Int64) (a2 b2 h2 : Int32) (v2 : Int64) (ld : Nat → Int32) : Prop := a2 = a ∧ b2 = b ∧ h2 = h ∧ (∃ u : Nat, 1 ≤ u ∧ u ≤ c ∧ b = nI u) ∧ (a = 1 ∨ a = 2 ∨ a = 3 ∨ a = 4) ∧ (a = 2 → v2 = v) ∧ (a = 4 → ∀ p : Nat, p < 6 → S.1 14 p 0 = b → (∀ q j : Nat, q < z_sz S p → j < 4 → ld (4 * q + j) = z_byte (z_half v q) j) ∧ (z_sz S p = 1 → z_half v 1 = 0))
theorem z_Lt.ld {c : Nat} {S : z_S} {a b h : Int32} {v : Int64} {a2 b2 h2 : Int32} {v2 : Int64} {ld ld2 : Nat → Int32} (H : z_Lt c S a b h v a2 b2 h2 v2 ld) (e : ∀ i, i < 8 → ld2 i = ld i) : z_Lt c S a b h v a2 b2 h2 v2 ld2 := by
  obtain ⟨h1, h2, h3, h4, h5, h6, h7⟩ := H
  refine ⟨h1, h2, h3, h4, h5, h6, fun ha p hp hb => ?_⟩
  obtain ⟨k1, k2⟩ := h7 ha p hp hb
  refine ⟨fun q j hq hj => ?_, k2⟩
  rw [e _ ?_]
  · exact k1 q j hq hj
  · have : z_sz S p ≤ 2 := by unfold z_sz; split <;> omega
    omega
/-- another context: same polls as far as this letter is concerned -/
theorem z_Lt.ctx {c c2 : Nat} {S S2 : z_S} {a b h : Int32} {v : Int64} {a2 b2 h2 : Int32} {v2 : Int64} {ld : Nat → Int32} (H : z_Lt c S a b h v a2 b2 h2 v2 ld) (hc : c ≤ c2) (e : ∀ p u : Nat, p < 6 → 1 ≤ u → u ≤ c → S2.1 14 p 0 = nI u → S.1 14 p 0 = nI u ∧ z_sz S2 p = z_sz S p) : z_Lt c2 S2 a b h v a2 b2 h2 v2 ld := by
  obtain ⟨h1, h2, h3, ⟨u, hu1, hu2, hu⟩, h5, h6, h7⟩ := H
  refine ⟨h1, h2, h3, ⟨u, hu1, by omega, hu⟩, h5, h6, fun ha p hp hb => ?_⟩
  rw [hu] at hb
  obtain ⟨e1, e2⟩ := e p u hp hu1 hu2 hb
  have := h7 ha p hp (by rw [e1, hu])
  rw [e2]
  exact this
/-- the reference's letters, moved about: letter k is now what letter σ k was -/
def z_mM (T T2 : z_S) (σ : Nat → Nat) : Prop := (∀ k, T2.1 35 0 k = T.1 35 0 (σ k)) ∧ (∀ k, T2.1 36 0 k = T.1 36 0 (σ k)) ∧ (∀ k, T2.1 37 0 k = T.1 37 0 (σ k)) ∧ (∀ k, T2.2 38 0 k = T.2 38 0 (σ k)) ∧ (∀ k i, i < 8 → T2.1 39 0 (8 * k + i) = T.1 39 0 (8 * σ k + i)) ∧ (∀ a, a < 35 ∨ 39 < a → T2.1 a = T.1 a) ∧ (∀ a, a ≠ 38 → T2.2 a = T.2 a)
theorem z_mM.tr {T T2 T3 : z_S} {σ τ : Nat → Nat} (h : z_mM T T2 σ) (h2 : z_mM T2 T3 τ) : z_mM T T3 (fun k => σ (τ k)) := by
  obtain ⟨a1, a2, a3, a4, a5, a6, a7⟩ := h
  obtain ⟨b1, b2, b3, b4, b5, b6, b7⟩ := h2
  exact ⟨fun k => (b1 k).trans (a1 _), fun k => (b2 k).trans (a2 _), fun k => (b3 k).trans (a3 _), fun k => (b4 k).trans (a4 _), fun k i hi => (b5 k i hi).trans (a5 _ i hi), fun a ha => (b6 a ha).trans (a6 a ha), fun a ha => (b7 a ha).trans (a7 a ha)⟩
theorem z_mM.to {T T2 : z_S} {σ τ : Nat → Nat} (h : z_mM T T2 σ) (e : ∀ k, σ k = τ k) : z_mM T T2 τ := by
  have : σ = τ := funext e
  exact this ▸ h
theorem z_cl39 {B : z_S} {f t : Nat} (hf : f ≤ 24) (ht : t ≤ 24) : ∀ n : Nat, n ≤ 8 → (∀ m i : Nat, i < 8 → (z_it (fun (kk9 : Nat) (T9 : z_S) => rg_M_copyLetter_50i_S1 T9 (nI f) (nI t) kk9) 0 n B).1 39 0 (8 * m + i) = if m = t ∧ i < n then B.1 39 0 (8 * f + i) else B.1 39 0 (8 * m + i)) ∧ (∀ a, a ≠ 39 → (z_it (fun (kk9 : Nat) (T9 : z_S) => rg_M_copyLetter_50i_S1 T9 (nI f) (nI t) kk9) 0 n B).1 a = B.1 a) ∧ (z_it (fun (kk9 : Nat) (T9 : z_S) => rg_M_copyLetter_50i_S1 T9 (nI f) (nI t) kk9) 0 n B).2 = B.2 := by
  intro n
  induction n with
  | zero =>
    intro _
    refine ⟨fun m i hi => ?_, fun a _ => rfl, rfl⟩
    rw [if_neg (by omega)]
    rfl
  | succ n ih =>
    intro hn
    obtain ⟨i1, i2, i3⟩ := ih (by omega)
    rw [z_it_snoc]
    generalize z_it (fun (kk9 : Nat) (T9 : z_S) => rg_M_copyLetter_50i_S1 T9 (nI f) (nI t) kk9) 0 n B = T at i1 i2 i3 ⊢
    have e : rg_M_copyLetter_50i_S1 T (nI f) (nI t) (0 + n) = z_sI T 39 0 (8 * t + n) (T.1 39 0 (8 * f + n)) := by
      unfold rg_M_copyLetter_50i_S1
      show z_sI T 39 0 (nI 8 * nI t + nI (0 + n)).toNatClampNeg (T.1 39 0 (nI 8 * nI f + nI (0 + n)).toNatClampNeg) = _
      rw [Nat.zero_add, pk_mul, pk_mul, nI_add, nI_add, nI_clamp (by omega), nI_clamp (by omega)]
    show (∀ m i : Nat, i < 8 → (rg_M_copyLetter_50i_S1 T (nI f) (nI t) (0 + n)).1 39 0 (8 * m + i) = _) ∧ (∀ a, a ≠ 39 → (rg_M_copyLetter_50i_S1 T (nI f) (nI t) (0 + n)).1 a = _) ∧ (rg_M_copyLetter_50i_S1 T (nI f) (nI t) (0 + n)).2 = _
    rw [e]
    refine ⟨fun m i hi => ?_, fun a ha => ?_, i3⟩
    · rw [z_rI]
      by_cases h : m = t ∧ i = n
      · obtain ⟨rfl, rfl⟩ := h
        rw [if_pos ⟨rfl, rfl, rfl⟩, if_pos ⟨rfl, by omega⟩, i1 f i hi]
        by_cases h2 : f = m ∧ i < i
        · omega
        · rw [if_neg h2]
      · rw [if_neg (by omega), i1 m i hi]
        by_cases h2 : m = t ∧ i < n
        · rw [if_pos h2, if_pos (by omega)]
        · rw [if_neg h2, if_neg (by omega)]
    · rw [← i2 a ha]
      funext o
      exact z_sI_ne T 39 0 _ _ (fun q => ha q.1)
theorem z_mcl {T : z_S} {f t : Nat} (hf : f ≤ 24) (ht : t ≤ 24) : z_mM T (g_M_copyLetter T (nI f) (nI t)) (fun k => if k = t then f else k) := by
  unfold g_M_copyLetter
  rw [nI_clamp (by omega), nI_clamp (by omega)]
  obtain ⟨i1, i2, i3⟩ := z_cl39 (B := z_sL (z_sI (z_sI (z_sI T 35 0 t (T.1 35 0 f)) 36 0 t (T.1 36 0 f)) 37 0 t (T.1 37 0 f)) 38 0 t (T.2 38 0 f)) hf ht 8 (Nat.le_refl _)
  generalize z_it (fun (kk9 : Nat) (T9 : z_S) => rg_M_copyLetter_50i_S1 T9 (nI f) (nI t) kk9) 0 8 _ = R at i1 i2 i3 ⊢
  refine ⟨fun k => ?_, fun k => ?_, fun k => ?_, fun k => ?_, fun k i hi => ?_, fun a ha => ?_, fun a ha => ?_⟩
  · rw [i2 35 (by decide)]
    show (z_sI T 35 0 t (T.1 35 0 f)).1 35 0 k = T.1 35 0 (if k = t then f else k)
    rw [z_rI]
    by_cases h : k = t
    · rw [if_pos ⟨rfl, rfl, h⟩, if_pos h]
    · rw [if_neg (fun q => h q.2.2), if_neg h]
  · rw [i2 36 (by decide)]
    show (z_sI (z_sI T 35 0 t (T.1 35 0 f)) 36 0 t (T.1 36 0 f)).1 36 0 k = T.1 36 0 (if k = t then f else k)
    rw [z_rI]
    by_cases h : k = t
    · rw [if_pos ⟨rfl, rfl, h⟩, if_pos h]
    · rw [if_neg (fun q => h q.2.2), if_neg h]; rfl
  · rw [i2 37 (by decide)]
    show (z_sI (z_sI (z_sI T 35 0 t (T.1 35 0 f)) 36 0 t (T.1 36 0 f)) 37 0 t (T.1 37 0 f)).1 37 0 k = T.1 37 0 (if k = t then f else k)
    rw [z_rI]
    by_cases h : k = t
    · rw [if_pos ⟨rfl, rfl, h⟩, if_pos h]
    · rw [if_neg (fun q => h q.2.2), if_neg h]; rfl
  · rw [i3]
    show (z_sL (z_sI (z_sI (z_sI T 35 0 t (T.1 35 0 f)) 36 0 t (T.1 36 0 f)) 37 0 t (T.1 37 0 f)) 38 0 t (T.2 38 0 f)).2 38 0 k = T.2 38 0 (if k = t then f else k)
    rw [z_rL]
    by_cases h : k = t
    · rw [if_pos ⟨rfl, rfl, h⟩, if_pos h]
    · rw [if_neg (fun q => h q.2.2), if_neg h]; rfl
  · rw [i1 k i hi]
    show _ = T.1 39 0 (8 * (if k = t then f else k) + i)
    by_cases h : k = t
    · rw [if_pos ⟨h, hi⟩, if_pos h]; rfl
    · rw [if_neg (fun q => h q.1), if_neg h]; rfl
  · rw [i2 a (by omega)]
    funext o
    show (z_sI (z_sI (z_sI T 35 0 t (T.1 35 0 f)) 36 0 t (T.1 36 0 f)) 37 0 t (T.1 37 0 f)).1 a o = _
    rw [z_sI_ne _ _ _ _ _ (fun q => by omega), z_sI_ne _ _ _ _ _ (fun q => by omega), z_sI_ne _ _ _ _ _ (fun q => by omega)]
  · rw [i3]
    funext o
    show (z_sL (z_sI (z_sI (z_sI T 35 0 t (T.1 35 0 f)) 36 0 t (T.1 36 0 f)) 37 0 t (T.1 37 0 f)) 38 0 t (T.2 38 0 f)).2 a o = _
    rw [z_sL_ne _ _ _ _ _ (fun q => ha q.1)]
    rfl
theorem z_mM.rf {T : z_S} : z_mM T T (fun k => k) := ⟨fun _ => rfl, fun _ => rfl, fun _ => rfl, fun _ => rfl, fun _ _ _ => rfl, fun _ _ => rfl, fun _ _ => rfl⟩
theorem z_mlv1 {T : z_S} {k0 : Nat} : ∀ n : Nat, k0 + n ≤ 23 → z_mM T (z_it (fun (kk9 : Nat) (T9 : z_S) => rg_M_leave_9i_S1 T9 kk9) k0 n T) (fun j => if k0 ≤ j ∧ j < k0 + n then j + 1 else j) := by
  intro n
  induction n with
  | zero => intro _; exact z_mM.rf.to (fun k => by rw [if_neg (by omega)])
  | succ n ih =>
    intro hn
    rw [z_it_snoc]
    have h1 := ih (by omega)
    generalize z_it (fun (kk9 : Nat) (T9 : z_S) => rg_M_leave_9i_S1 T9 kk9) k0 n T = R at h1 ⊢
    have e : rg_M_leave_9i_S1 R (k0 + n) = g_M_copyLetter R (nI (k0 + n + 1)) (nI (k0 + n)) := by
      unfold rg_M_leave_9i_S1
      rw [show nI (k0 + n) + 1 = nI (k0 + n + 1) from nI_add (k0 + n) 1]
    show z_mM T (rg_M_leave_9i_S1 R (k0 + n)) _
    rw [e]
    refine (h1.tr (z_mcl (by omega) (by omega))).to (fun j => ?_)
    show (if k0 ≤ (if j = k0 + n then k0 + n + 1 else j) ∧ (if j = k0 + n then k0 + n + 1 else j) < k0 + n then _ else _) = _
    by_cases h : j = k0 + n
    · subst h
      rw [if_pos rfl, if_neg (by omega), if_pos (by omega)]
    · rw [if_neg h]
      by_cases h2 : k0 ≤ j ∧ j < k0 + n
      · rw [if_pos h2, if_pos (by omega)]
      · rw [if_neg h2, if_neg (by omega)]
/-- the letter k0 leaves; it lies at 24 for a while -/
theorem z_mlv {T : z_S} {k0 N : Nat} (hk : k0 ≤ N) (hN : N < 24) (hc : T.1 21 0 14 = nI (N + 1)) : ∃ R : z_S, g_M_leave T (nI k0) k0 N = z_sI R 21 0 14 (nI N) ∧ z_mM T R (fun j => if j = 24 then k0 else if k0 ≤ j ∧ j < N then j + 1 else j) := by
  have h0 := z_mcl (T := T) (f := k0) (t := 24) (by omega) (by omega)
  have h1 := h0.tr (z_mlv1 (T := g_M_copyLetter T (nI k0) (nI 24)) (k0 := k0) (N - k0) (by omega))
  refine ⟨_, ?_, h1.to (fun j => ?_)⟩
  · unfold g_M_leave
    show z_sI (z_it (fun (kk9 : Nat) (T9 : z_S) => rg_M_leave_9i_S1 T9 kk9) k0 (N - k0) (g_M_copyLetter T (nI k0) (nI 24))) 21 0 14 (_ - 1) = _
    have e : (z_it (fun (kk9 : Nat) (T9 : z_S) => rg_M_leave_9i_S1 T9 kk9) k0 (N - k0) (g_M_copyLetter T (nI k0) (nI 24))).1 21 0 14 = nI (N + 1) := by
      rw [h1.2.2.2.2.2.1 21 (by decide)]; exact hc
    show z_sI _ 21 0 14 ((z_it (fun (kk9 : Nat) (T9 : z_S) => rg_M_leave_9i_S1 T9 kk9) k0 (N - k0) (g_M_copyLetter T (nI k0) (nI 24))).1 21 0 14 - 1) = _
    rw [e, z_pred]
  · show (if (if k0 ≤ j ∧ j < k0 + (N - k0) then j + 1 else j) = 24 then k0 else (if k0 ≤ j ∧ j < k0 + (N - k0) then j + 1 else j)) = _
    rw [show k0 + (N - k0) = N by omega]
    by_cases h : k0 ≤ j ∧ j < N
    · rw [if_pos h, if_neg (by omega), if_neg (by omega)]
    · rw [if_neg h]
/-- the class's letters, moved about -/
def z_mX (S S2 : z_S) (σ : Nat → Nat) : Prop := (∀ k, S2.1 4 0 k = S.1 4 0 (σ k)) ∧ (∀ k, S2.1 5 0 k = S.1 5 0 (σ k)) ∧ (∀ k, S2.1 6 0 k = S.1 6 0 (σ k)) ∧ (∀ k, S2.2 7 0 k = S.2 7 0 (σ k)) ∧ (∀ a, a < 4 ∨ 6 < a → S2.1 a = S.1 a) ∧ (∀ a, a ≠ 7 → S2.2 a = S.2 a)
theorem z_xrm {S : z_S} {k0 : Nat} : ∀ n : Nat, z_mX S (z_it (fun (kk9 : Nat) (T9 : z_S) => rg_R_remove_12i_S1 T9 kk9) k0 n S) (fun j => if k0 ≤ j ∧ j < k0 + n then j + 1 else j) := by
  intro n
  induction n with
  | zero =>
    have e : ∀ j : Nat, (if k0 ≤ j ∧ j < k0 + 0 then j + 1 else j) = j := fun j => if_neg (by omega)
    refine ⟨fun k => ?_, fun k => ?_, fun k => ?_, fun k => ?_, fun _ _ => rfl, fun _ _ => rfl⟩ <;> exact (congrArg _ (e k)).symm
  | succ n ih =>
    rw [z_it_snoc]
    generalize z_it (fun (kk9 : Nat) (T9 : z_S) => rg_R_remove_12i_S1 T9 kk9) k0 n S = R at ih ⊢
    obtain ⟨a1, a2, a3, a4, a5, a6⟩ := ih
    have e : rg_R_remove_12i_S1 R (k0 + n) = z_sL (z_sI (z_sI (z_sI R 4 0 (k0 + n) (R.1 4 0 (k0 + n + 1))) 5 0 (k0 + n) (R.1 5 0 (k0 + n + 1))) 6 0 (k0 + n) (R.1 6 0 (k0 + n + 1))) 7 0 (k0 + n) (R.2 7 0 (k0 + n + 1)) := rfl
    show z_mX S (rg_R_remove_12i_S1 R (k0 + n)) _
    rw [e]
    have n1 : ∀ j : Nat, j = k0 + n → (if k0 ≤ j ∧ j < k0 + (n + 1) then j + 1 else j) = (if k0 ≤ k0 + n + 1 ∧ k0 + n + 1 < k0 + n then k0 + n + 1 + 1 else k0 + n + 1) := fun j h => by rw [if_pos (by omega), if_neg (by omega)]; omega
    have n2 : ∀ j : Nat, ¬ j = k0 + n → (if k0 ≤ j ∧ j < k0 + (n + 1) then j + 1 else j) = (if k0 ≤ j ∧ j < k0 + n then j + 1 else j) := fun j h => by
      by_cases h2 : k0 ≤ j ∧ j < k0 + n
      · rw [if_pos h2, if_pos (by omega)]
      · rw [if_neg h2, if_neg (by omega)]
    refine ⟨fun k => ?_, fun k => ?_, fun k => ?_, fun k => ?_, fun a ha => ?_, fun a ha => ?_⟩
    · show (z_sI R 4 0 (k0 + n) (R.1 4 0 (k0 + n + 1))).1 4 0 k = S.1 4 0 (if k0 ≤ k ∧ k < k0 + (n + 1) then k + 1 else k)
      rw [z_rI]
      by_cases h : k = k0 + n
      · rw [if_pos ⟨rfl, rfl, h⟩, n1 k h]; exact a1 _
      · rw [if_neg (fun q => h q.2.2), n2 k h]; exact a1 _
    · show (z_sI (z_sI R 4 0 (k0 + n) (R.1 4 0 (k0 + n + 1))) 5 0 (k0 + n) (R.1 5 0 (k0 + n + 1))).1 5 0 k = S.1 5 0 (if k0 ≤ k ∧ k < k0 + (n + 1) then k + 1 else k)
      rw [z_rI]
      by_cases h : k = k0 + n
      · rw [if_pos ⟨rfl, rfl, h⟩, n1 k h]; exact a2 _
      · rw [if_neg (fun q => h q.2.2), n2 k h]; exact a2 _
    · show (z_sI (z_sI (z_sI R 4 0 (k0 + n) (R.1 4 0 (k0 + n + 1))) 5 0 (k0 + n) (R.1 5 0 (k0 + n + 1))) 6 0 (k0 + n) (R.1 6 0 (k0 + n + 1))).1 6 0 k = S.1 6 0 (if k0 ≤ k ∧ k < k0 + (n + 1) then k + 1 else k)
      rw [z_rI]
      by_cases h : k = k0 + n
      · rw [if_pos ⟨rfl, rfl, h⟩, n1 k h]; exact a3 _
      · rw [if_neg (fun q => h q.2.2), n2 k h]; exact a3 _
    · show (z_sL (z_sI (z_sI (z_sI R 4 0 (k0 + n) (R.1 4 0 (k0 + n + 1))) 5 0 (k0 + n) (R.1 5 0 (k0 + n + 1))) 6 0 (k0 + n) (R.1 6 0 (k0 + n + 1))) 7 0 (k0 + n) (R.2 7 0 (k0 + n + 1))).2 7 0 k = S.2 7 0 (if k0 ≤ k ∧ k < k0 + (n + 1) then k + 1 else k)
      rw [z_rL]
      by_cases h : k = k0 + n
      · rw [if_pos ⟨rfl, rfl, h⟩, n1 k h]; exact a4 _
      · rw [if_neg (fun q => h q.2.2), n2 k h]; exact a4 _
    · rw [← a5 a ha]
      funext o
      show (z_sI (z_sI (z_sI R 4 0 (k0 + n) (R.1 4 0 (k0 + n + 1))) 5 0 (k0 + n) (R.1 5 0 (k0 + n + 1))) 6 0 (k0 + n) (R.1 6 0 (k0 + n + 1))).1 a o = _
      rw [z_sI_ne _ _ _ _ _ (fun q => by omega), z_sI_ne _ _ _ _ _ (fun q => by omega), z_sI_ne _ _ _ _ _ (fun q => by omega)]
    · rw [← a6 a ha]
      funext o
      exact z_sL_ne _ _ _ _ _ (fun q => ha q.1)
