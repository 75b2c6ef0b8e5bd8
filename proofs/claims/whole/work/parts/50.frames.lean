theorem eM_flip {S : z_S} {o : Nat} {x0 x1 x2 : Int32} : z_eM S (g_H_flip S o x0 x1 x2) := z_eM.I (by decide)
theorem eM_mend {S : z_S} {o : Nat} {x0 x1 x2 : Int32} : z_eM S (g_H_mend S o x0 x1 x2) := (z_eM.I (by decide)).tr (z_eM.I (by decide))
theorem eM_receive {S : z_S} {o : Nat} {x0 x2 : Int32} {N : Nat} : z_eM S (g_H_receive S o x0 x2 N) := z_eM.it (f := fun (kk9 : Nat) (T9 : z_S) => rg_H_receive_3i_S1 T9 o x0 x2 kk9) (fun _ _ => eM_flip) N 0 S
theorem eM_take15 {S : z_S} {o : Nat} {x0 : Int32} {x1 : Int64} : z_eM S (g_A_take_15 S o x0 x1) := by
  unfold g_A_take_15
  split
  · exact ((z_eM.I (by decide)).tr (z_eM.L (by decide))).tr (z_eM.I (by decide))
  · exact z_eM.rf
theorem eM_take18 {S : z_S} {o : Nat} {x0 : Int32} {x1 : Int64} : z_eM S (g_A_take_18 S o x0 x1) := by
  unfold g_A_take_18
  split
  · exact ((z_eM.I (by decide)).tr (z_eM.L (by decide))).tr (z_eM.I (by decide))
  · exact z_eM.rf
theorem eM_forget15 {S : z_S} {o : Nat} : z_eM S (g_A_forget_15 S o) := (((z_eM.I (by decide)).tr (z_eM.I (by decide))).tr (z_eM.I (by decide))).tr (z_eM.I (by decide))
theorem eM_forget18 {S : z_S} {o : Nat} : z_eM S (g_A_forget_18 S o) := (((z_eM.I (by decide)).tr (z_eM.I (by decide))).tr (z_eM.I (by decide))).tr (z_eM.I (by decide))
theorem eM_add {S : z_S} {x0 x1 x2 : Int32} {x3 : Int64} : z_eM S (g_R_add S x0 x1 x2 x3) := by
  unfold g_R_add
  split
  · exact ((((z_eM.I (by decide)).tr (z_eM.I (by decide))).tr (z_eM.I (by decide))).tr (z_eM.L (by decide))).tr (z_eM.I (by decide))
  · exact z_eM.rf
theorem eM_remove {S : z_S} {k0 N : Nat} : z_eM S (g_R_remove S k0 N) := (z_eM.I (by decide)).tr (z_eM.it (f := fun (kk9 : Nat) (T9 : z_S) => rg_R_remove_12i_S1 T9 kk9) (fun _ _ => (((z_eM.I (by decide)).tr (z_eM.I (by decide))).tr (z_eM.I (by decide))).tr (z_eM.L (by decide))) (N - k0) k0 _)
theorem eM_finishPart {S : z_S} {x0 x1 x2 : Int32} : z_eM S (g_D_finishPart S x0 x1 x2) := by
  unfold g_D_finishPart
  split
  · split
    · exact z_eM.rf
    · exact (z_eM.I (by decide)).tr (z_eM.I (by decide))
  · exact z_eM.rf
theorem eM_endIf {S : z_S} {x0 : Int32} : z_eM S (g_D_endIfAllDone S x0) := by
  unfold g_D_endIfAllDone
  split
  · exact (z_eM.I (by decide)).tr (z_eM.I (by decide))
  · exact z_eM.rf
theorem eM_begin {S : z_S} {o : Nat} {x0 x1 x2 : Int32} {x3 : Int64} {x4 : Int32} : z_eM S (g_P_begin S o x0 x1 x2 x3 x4) := ((((((z_eM.I (by decide)).tr (z_eM.I (by decide))).tr (z_eM.I (by decide))).tr (z_eM.L (by decide))).tr (z_eM.I (by decide))).tr eM_forget15).tr eM_forget18
theorem eM_sendA {S : z_S} {v1 v4 : Nat} {v3 v6 : Int32} : z_eM S (rg_X_sendToAwaited_47_S1 S v1 v3 v4 v6) := by
  unfold rg_X_sendToAwaited_47_S1
  split
  · exact eM_add
  · exact z_eM.rf
theorem eM_sendB {S : z_S} {v1 v4 : Nat} {v3 v6 : Int32} : z_eM S (rg_X_sendToAwaited_47_1_S1 S v1 v3 v4 v6) := by
  unfold rg_X_sendToAwaited_47_1_S1
  split
  · exact eM_add
  · exact z_eM.rf
theorem eM_send {S : z_S} {x0 : Nat} : z_eM S (g_X_sendToAwaited S x0) := by
  unfold g_X_sendToAwaited
  split
  · exact (eM_sendA.tr eM_sendA).tr eM_sendA
  · exact (eM_sendB.tr eM_sendB).tr eM_sendB
theorem z_if_P {α : Type} {P : α → Prop} {c : Prop} [Decidable c] {a b : α} (ha : P a) (hb : P b) : P (if c then a else b) := by
  by_cases h : c
  · rw [if_pos h]; exact ha
  · rw [if_neg h]; exact hb
theorem eM_finish {S : z_S} {x0 : Nat} {x1 : Int32} : z_eM S (g_X_finish S x0 x1) := by
  unfold g_X_finish
  refine z_if_P (P := z_eM S) (z_if_P (P := z_eM S) ?_ (z_if_P (P := z_eM S) ?_ ?_)) (z_if_P (P := z_eM S) ?_ (z_if_P (P := z_eM S) ?_ ?_))
  · exact (((((z_eM.I (by decide)).tr (z_eM.I (by decide))).tr (z_eM.I (by decide))).tr eM_finishPart).tr eM_endIf)
  · exact (((((z_eM.I (by decide)).tr (z_eM.I (by decide))).tr (z_eM.I (by decide))).tr eM_finishPart).tr eM_endIf)
  · exact (((z_eM.I (by decide)).tr (z_eM.I (by decide))).tr (z_eM.I (by decide)))
  · exact ((((z_eM.I (by decide)).tr (z_eM.I (by decide))).tr eM_finishPart).tr eM_endIf)
  · exact ((((z_eM.I (by decide)).tr (z_eM.I (by decide))).tr eM_finishPart).tr eM_endIf)
  · exact ((z_eM.I (by decide)).tr (z_eM.I (by decide)))
theorem eM_mendB1 {S : z_S} {v1 : Nat} {v2 v3 : Int32} : z_eM S (rg_X_mendBlock_7_S1 S v1 v2 v3) := by
  unfold rg_X_mendBlock_7_S1
  split
  · exact z_eM.rf
  · split
    · exact eM_mend
    · exact z_eM.rf
theorem eM_mendBlock {S : z_S} {x0 : Nat} {x1 : Int32} : z_eM S (g_X_mendBlock S x0 x1) := (eM_mendB1.tr eM_mendB1).tr eM_mendB1
theorem eM_decide {S : z_S} {x0 : Nat} : z_eM S (g_X_decide S x0) := by
  unfold g_X_decide
  repeat' split
  all_goals first | exact z_eM.rf | exact eM_mendBlock.tr eM_mendBlock
theorem eM_takeSum {S : z_S} {x0 : Nat} {x1 : Int32} {x2 : Int64} : z_eM S (g_X_takeSum S x0 x1 x2) := by
  unfold g_X_takeSum
  repeat' split
  · exact eM_take15
  · exact eM_take15
  · exact eM_take15.tr eM_send
  · exact eM_take15.tr eM_finish
theorem eM_takeCopy {S : z_S} {x0 : Nat} {x1 : Int32} {x2 : Int64} : z_eM S (g_X_takeCopy S x0 x1 x2) := by
  unfold g_X_takeCopy
  repeat' split
  · exact z_eM.rf
  · exact eM_take18
  · exact eM_take18
  · exact (eM_take18.tr eM_decide).tr eM_finish
theorem eM_arrive {S : z_S} {x0 : Nat} {x1 x2 : Int32} {x3 : Int64} : z_eM S (g_X_arrive S x0 x1 x2 x3) := by
  unfold g_X_arrive
  repeat' split
  · unfold g_X_answerAsk
    split
    · exact z_eM.rf
    · exact eM_add
  · exact eM_takeSum
  · unfold g_X_answerFetch
    split
    · exact z_eM.rf
    · exact eM_add
  · exact eM_takeCopy
  · exact z_eM.rf
theorem fX_deposit {S : z_S} {x0 : Int32} {x1 : Int32} {x2 : Int32} : z_eM S (g_X_deposit S x0 x1 x2) := by
  unfold g_X_deposit
  repeat' split
  all_goals first | exact z_eM.rf | exact (((z_eM.I (by decide)).tr eM_receive).tr eM_receive).tr eM_receive
theorem fX_damage {S : z_S} {x0 : Int32} {x1 : Int32} {x2 : Int32} {x3 : Int32} : z_eM S (g_X_damage S x0 x1 x2 x3) := by
  unfold g_X_damage
  repeat' split
  all_goals first | exact z_eM.rf | exact eM_flip
theorem z_opt_P {α : Type} {P : α → Prop} {o : Option Nat} {a : α} {b : Nat → α} (ha : P a) (hb : ∀ i, P (b i)) : P (z_opt o a b) := by
  cases o with
  | none => exact ha
  | some i => exact hb i
theorem fX_poll {S : z_S} {x0 : Int32} {x1 : Int32} {x2 : Int64} : z_eM S (g_X_poll S x0 x1 x2) := by
  unfold g_X_poll
  split
  · exact z_eM.rf
  · split
    · exact z_eM.rf
    · split
      · refine z_opt_P z_eM.rf (fun i => ?_)
        split
        · exact (((z_eM.I (by decide)).tr (z_eM.I (by decide))).tr eM_begin).tr eM_send
        · exact z_eM.rf
      · exact z_eM.rf
theorem fX_again {S : z_S} {x0 : Int32} : z_eM S (g_X_again S x0) := by
  unfold g_X_again
  split
  · exact z_eM.rf
  · exact z_opt_P z_eM.rf (fun i => eM_send)
theorem fX_step {S : z_S}  : z_eM S (g_X_step S) := by
  unfold g_X_step
  split
  · exact z_eM.rf
  · exact z_opt_P eM_remove (fun i => eM_remove.tr eM_arrive)
theorem fX_lose {S : z_S} {x0 : Int32} : z_eM S (g_X_lose S x0) := by
  unfold g_X_lose
  split
  · exact z_eM.rf
  · exact eM_remove
theorem fX_twice {S : z_S} {x0 : Int32} : z_eM S (g_X_twice S x0) := by
  unfold g_X_twice
  repeat' split
  all_goals first | exact z_eM.rf | exact eM_add
theorem fX_giveUp {S : z_S} {x0 : Int32} : z_eM S (g_X_giveUp S x0) := by
  unfold g_X_giveUp
  exact z_opt_P z_eM.rf (fun i => eM_finish)
theorem fX_close {S : z_S} {x0 : Int32} : z_eM S (g_X_close S x0) := by
  unfold g_X_close
  repeat' split
  all_goals first | exact z_eM.rf | exact z_eM.I (by decide)
theorem fX_open {S : z_S} {x0 : Int32} : z_eM S (g_X_open S x0) := by
  unfold g_X_open
  repeat' split
  all_goals first | exact z_eM.rf | exact z_eM.I (by decide)
theorem eX_come {S : z_S} {x0 x1 x2 : Int32} : z_eX S (g_M_come S x0 x1 x2) := by
  unfold g_M_come
  split
  · exact (((z_eX.I (by decide)).tr (z_eX.I (by decide))).tr (z_eX.I (by decide))).tr (z_eX.I (by decide))
  · exact (((z_eX.I (by decide)).tr (z_eX.I (by decide))).tr (z_eX.I (by decide))).tr (z_eX.I (by decide))
theorem eX_copyLetter {S : z_S} {x0 x1 : Int32} : z_eX S (g_M_copyLetter S x0 x1) := ((((z_eX.I (by decide)).tr (z_eX.I (by decide))).tr (z_eX.I (by decide))).tr (z_eX.L (by decide))).tr (z_eX.it (f := fun (kk9 : Nat) (T9 : z_S) => rg_M_copyLetter_50i_S1 T9 x0 x1 kk9) (fun _ _ => z_eX.I (by decide)) 8 0 _)
theorem eX_leave {S : z_S} {x0 : Int32} {k0 N : Nat} : z_eX S (g_M_leave S x0 k0 N) := (eX_copyLetter.tr (z_eX.it (f := fun (kk9 : Nat) (T9 : z_S) => rg_M_leave_9i_S1 T9 kk9) (fun _ _ => eX_copyLetter) (N - k0) k0 _)).tr (z_eX.I (by decide))
theorem eX_end {S : z_S} {x0 x1 : Int32} : z_eX S (g_M_end S x0 x1) := by
  unfold g_M_end
  refine z_if_P (P := z_eX S) ?_ (z_if_P (P := z_eX S) (z_if_P (P := z_eX S) ?_ ?_) ?_)
  · exact (((z_eX.I (by decide)).tr (z_eX.I (by decide))).tr (z_eX.I (by decide)))
  · exact (((((z_eX.I (by decide)).tr (z_eX.I (by decide))).tr (z_eX.I (by decide))).tr (z_eX.I (by decide))).tr (z_eX.I (by decide))).tr (z_eX.it (f := fun (kk9 : Nat) (T9 : z_S) => rg_M_end_105i_S1 T9 kk9) (fun _ _ => z_eX.I (by decide)) 48 0 _)
  · exact ((((z_eX.I (by decide)).tr (z_eX.I (by decide))).tr (z_eX.I (by decide))).tr (z_eX.I (by decide)))
  · exact (((z_eX.I (by decide)).tr (z_eX.I (by decide))).tr (z_eX.I (by decide)))
theorem eX_takeSum {S : z_S} {x0 x1 : Int32} {x2 : Int64} : z_eX S (g_M_takeSum S x0 x1 x2) := by
  unfold g_M_takeSum
  refine z_if_P (P := z_eX S) z_eX.rf (z_if_P (P := z_eX S) (z_if_P (P := z_eX S) (z_if_P (P := z_eX S) ?_ ?_) ?_) ?_)
  · exact ((z_eX.I (by decide)).tr (z_eX.L (by decide))).tr eX_end
  · exact ((((z_eX.I (by decide)).tr (z_eX.L (by decide))).tr eX_come).tr eX_come).tr eX_come
  · exact ((((z_eX.I (by decide)).tr (z_eX.L (by decide))).tr eX_come).tr eX_come).tr eX_come
  · exact ((z_eX.I (by decide)).tr (z_eX.L (by decide)))
theorem eX_mend {S : z_S} {x0 x1 x2 : Int32} {q : Nat} : z_eX S (g_M_mend S x0 x1 x2 q) := (z_eX.it (f := fun (kk9 : Nat) (T9 : z_S) => rg_M_mend_6i_S1 T9 x0 x1 x2 kk9) (fun _ _ => z_eX.I (by decide)) 4 (4 * q) _).tr (z_eX.I (by decide))
theorem eX_dec1 {S : z_S} {v1 : Int32} {q : Nat} : z_eX S (rg_M_decide_149_S1 S v1 q) := by
  unfold rg_M_decide_149_S1
  by_cases h : f_M_alike S v1 0 1 q = 0
  · rw [if_pos h]
    by_cases h2 : f_M_alike S v1 0 2 q = 0
    · rw [if_pos h2]; exact eX_mend
    · rw [if_neg h2]; exact eX_mend
  · rw [if_neg h]
    by_cases h2 : f_M_alike S v1 0 2 q = 0
    · rw [if_pos h2]; exact eX_mend
    · rw [if_neg h2]; exact z_eX.rf
theorem eX_dec2 {S : z_S} {v1 v2 : Int32} : z_eX S (rg_M_decide_140_S1 S v1 v2) := by
  unfold rg_M_decide_140_S1
  by_cases h : v2 ≤ 0
  · rw [if_pos h]; exact z_eX.rf
  · rw [if_neg h]
    by_cases h2 : v2 ≤ 1
    · rw [if_pos h2]; exact eX_dec1
    · rw [if_neg h2]; exact eX_dec1.tr eX_dec1
theorem eX_decide {S : z_S} {x0 : Int32} : z_eX S (g_M_decide S x0) := by
  unfold g_M_decide
  generalize rg_M_decide_17_u3 S x0 _ = u
  generalize rg_M_decide_80_u4 S x0 _ = v
  by_cases h : u = 0
  · rw [if_pos h]
    by_cases h2 : v = 0
    · rw [if_pos h2]; exact eX_end
    · rw [if_neg h2]; exact eX_dec2.tr eX_end
  · rw [if_neg h]; exact eX_end
theorem eX_tcp {S : z_S} {x0 x1 v : Int32} {j : Nat} : z_eX S (z_it (fun (kk9 : Nat) (T9 : z_S) => rg_M_takeCopy_40i_S1 T9 x0 x1 kk9) 0 8 (z_sI S 32 0 j v)) := (z_eX.I (by decide)).tr (z_eX.it (f := fun (kk9 : Nat) (T9 : z_S) => rg_M_takeCopy_40i_S1 T9 x0 x1 kk9) (fun _ _ => z_eX.I (by decide)) 8 0 _)
theorem eX_takeCopy {S : z_S} {x0 x1 : Int32} : z_eX S (g_M_takeCopy S x0 x1) := by
  unfold g_M_takeCopy
  by_cases h : S.1 31 0 x0.toNatClampNeg < 7
  · rw [if_pos h]; exact z_eX.rf
  · rw [if_neg h]
    by_cases h2 : ((S.1 32 0 x0.toNatClampNeg) >>> (x1 &&& 31)) &&& 1 = 1
    · rw [if_pos h2]; exact z_eX.rf
    · rw [if_neg h2]
      have hT := @eX_tcp S x0 x1 ((S.1 32 0 x0.toNatClampNeg) ||| ((1 : Int32) <<< (x1 &&& 31))) x0.toNatClampNeg
      generalize z_it (fun (kk9 : Nat) (T9 : z_S) => rg_M_takeCopy_40i_S1 T9 x0 x1 kk9) 0 8 _ = T at hT ⊢
      split
      · exact hT.tr eX_decide
      · exact hT
theorem eX_answer {S : z_S} {x0 x1 x2 : Int32} : z_eX S (g_M_answer S x0 x1 x2) := by
  unfold g_M_answer
  exact (eX_come.tr (z_eX.L (by decide))).tr (z_eX.it (f := fun (kk9 : Nat) (T9 : z_S) => rg_M_answer_74i_S1 T9 x0 x2 (f_M_come S) kk9) (fun _ _ => z_eX.I (by decide)) _ 0 _)
theorem fM_deposit {S : z_S} {x0 : Int32} {x1 : Int32} {x2 : Int32} : z_eX S (g_M_deposit S x0 x1 x2) := by
  have it : ∀ (h : Int32) (n : Nat) (T : z_S), z_eX T (z_it (fun (kk9 : Nat) (T9 : z_S) => rg_M_deposit_80i_S1 T9 x0 x2 h kk9) 0 n T) := fun h n T => z_eX.it (f := fun (kk9 : Nat) (T9 : z_S) => rg_M_deposit_80i_S1 T9 x0 x2 h kk9) (fun _ _ => z_eX.I (by decide)) n 0 T
  unfold g_M_deposit
  repeat' split
  all_goals first | exact z_eX.rf | exact (((z_eX.I (by decide)).tr (it 0 _ _)).tr (it 1 _ _)).tr (it 2 _ _)
theorem fM_damage {S : z_S} {x0 : Int32} {x1 : Int32} {x2 : Int32} {x3 : Int32} : z_eX S (g_M_damage S x0 x1 x2 x3) := by
  unfold g_M_damage
  split
  · exact z_eX.rf
  · exact z_eX.I (by decide)
theorem fM_poll {S : z_S} {x0 : Int32} {x1 : Int32} {x2 : Int64} : z_eX S (g_M_poll S x0 x1 x2) := by
  unfold g_M_poll
  generalize rg_M_poll_44_t0 S _ 0 = t
  repeat' split
  all_goals first
    | exact z_eX.rf
    | exact (((((((((((z_eX.I (by decide)).tr (z_eX.I (by decide))).tr (z_eX.I (by decide))).tr (z_eX.I (by decide))).tr (z_eX.L (by decide))).tr (z_eX.I (by decide))).tr (z_eX.I (by decide))).tr (z_eX.I (by decide))).tr (z_eX.I (by decide))).tr eX_come).tr eX_come).tr eX_come
theorem eX_again1 {S : z_S} {v1 v3 v4 v6 : Int32} : z_eX S (rg_M_again_85_S1 S v1 v3 v4 v6) := by
  unfold rg_M_again_85_S1
  split
  · exact eX_come
  · exact z_eX.rf
theorem fM_again {S : z_S} {x0 : Int32} : z_eX S (g_M_again S x0) := by
  unfold g_M_again
  generalize f_M_placeOf S x0 = t
  repeat' split
  all_goals first | exact z_eX.rf | exact (eX_again1.tr eX_again1).tr eX_again1
theorem fM_step {S : z_S}  : z_eX S (g_M_step S) := by
  unfold g_M_step
  generalize f_M_placeOf S _ = t
  have hT := @eX_leave S 0 0 ((S.1 21 0 14).toNatClampNeg - 1)
  generalize g_M_leave S 0 0 _ = T at hT ⊢
  exact z_if_P (P := z_eX S) z_eX.rf (z_if_P (P := z_eX S) hT (z_if_P (P := z_eX S) (hT.tr eX_takeSum) (z_if_P (P := z_eX S) (hT.tr eX_takeCopy) (z_if_P (P := z_eX S) hT (hT.tr eX_answer)))))
theorem fM_lose {S : z_S} {x0 : Int32} : z_eX S (g_M_lose S x0) := by
  unfold g_M_lose
  split
  · exact z_eX.rf
  · exact eX_leave
theorem fM_twice {S : z_S} {x0 : Int32} : z_eX S (g_M_twice S x0) := by
  unfold g_M_twice
  repeat' split
  all_goals first | exact z_eX.rf | exact eX_copyLetter.tr (z_eX.I (by decide))
theorem fM_giveUp {S : z_S} {x0 : Int32} : z_eX S (g_M_giveUp S x0) := by
  unfold g_M_giveUp
  exact z_if_P (P := z_eX S) eX_end z_eX.rf
theorem fM_close {S : z_S} {x0 : Int32} : z_eX S (g_M_close S x0) := by
  unfold g_M_close
  repeat' split
  all_goals first | exact z_eX.rf | exact z_eX.I (by decide)
theorem fM_open {S : z_S} {x0 : Int32} : z_eX S (g_M_open S x0) := by
  unfold g_M_open
  repeat' split
  all_goals first | exact z_eX.rf | exact z_eX.I (by decide)
