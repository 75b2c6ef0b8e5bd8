section
-- ===== PART A: goes FIRST, ahead of the names: the tables' words, and 'selects' of the private methods out of them =====
/-- a private method of a class that the tables say can be made, by its rows of tables_1 -/
def lw_okq (q : MethodName × Nat) : Prop := (q.1.cls ≠ "java/lang/invoke/MethodHandle" ∧ q.1.cls ≠ "java/lang/invoke/VarHandle") ∧ Cond.instantiable q.1.cls q.2 ∈ tables_1 ∧ Cond.privateMethod q.1 ∈ tables_1 ∧ Cond.instanceMethod q.1 ∈ tables_1
theorem lw_p0 : lw_okq (⟨"PolledHouses", "allHousesOpen", "()Z"⟩, 8) := ⟨⟨by decide +kernel, by decide +kernel⟩, List.mem_of_getElem? (i := 10) (by decide +kernel), List.mem_of_getElem? (i := 172) (by decide +kernel), List.mem_of_getElem? (i := 173) (by decide +kernel)⟩
theorem lw_p1 : lw_okq (⟨"PolledHouses", "isByte", "(II)Z"⟩, 8) := ⟨⟨by decide +kernel, by decide +kernel⟩, List.mem_of_getElem? (i := 10) (by decide +kernel), List.mem_of_getElem? (i := 201) (by decide +kernel), List.mem_of_getElem? (i := 202) (by decide +kernel)⟩
theorem lw_p2 : lw_okq (⟨"PolledHouses", "freePlace", "()LPolledHouses$Poll;"⟩, 8) := ⟨⟨by decide +kernel, by decide +kernel⟩, List.mem_of_getElem? (i := 10) (by decide +kernel), List.mem_of_getElem? (i := 231) (by decide +kernel), List.mem_of_getElem? (i := 232) (by decide +kernel)⟩
theorem lw_p3 : lw_okq (⟨"PolledHouses", "sendToAwaited", "(LPolledHouses$Poll;)I"⟩, 8) := ⟨⟨by decide +kernel, by decide +kernel⟩, List.mem_of_getElem? (i := 10) (by decide +kernel), List.mem_of_getElem? (i := 243) (by decide +kernel), List.mem_of_getElem? (i := 244) (by decide +kernel)⟩
theorem lw_p4 : lw_okq (⟨"PolledHouses", "isPoll", "(I)Z"⟩, 8) := ⟨⟨by decide +kernel, by decide +kernel⟩, List.mem_of_getElem? (i := 10) (by decide +kernel), List.mem_of_getElem? (i := 259) (by decide +kernel), List.mem_of_getElem? (i := 260) (by decide +kernel)⟩
theorem lw_p5 : lw_okq (⟨"PolledHouses", "runningPoll", "(I)LPolledHouses$Poll;"⟩, 8) := ⟨⟨by decide +kernel, by decide +kernel⟩, List.mem_of_getElem? (i := 10) (by decide +kernel), List.mem_of_getElem? (i := 263) (by decide +kernel), List.mem_of_getElem? (i := 264) (by decide +kernel)⟩
theorem lw_p6 : lw_okq (⟨"PolledHouses", "arrive", "(LPolledHouses$Poll;IIJ)V"⟩, 8) := ⟨⟨by decide +kernel, by decide +kernel⟩, List.mem_of_getElem? (i := 10) (by decide +kernel), List.mem_of_getElem? (i := 275) (by decide +kernel), List.mem_of_getElem? (i := 276) (by decide +kernel)⟩
theorem lw_p7 : lw_okq (⟨"PolledHouses", "answerAsk", "(LPolledHouses$Poll;I)V"⟩, 8) := ⟨⟨by decide +kernel, by decide +kernel⟩, List.mem_of_getElem? (i := 10) (by decide +kernel), List.mem_of_getElem? (i := 279) (by decide +kernel), List.mem_of_getElem? (i := 280) (by decide +kernel)⟩
theorem lw_p8 : lw_okq (⟨"PolledHouses", "takeSum", "(LPolledHouses$Poll;IJ)V"⟩, 8) := ⟨⟨by decide +kernel, by decide +kernel⟩, List.mem_of_getElem? (i := 10) (by decide +kernel), List.mem_of_getElem? (i := 283) (by decide +kernel), List.mem_of_getElem? (i := 284) (by decide +kernel)⟩
theorem lw_p9 : lw_okq (⟨"PolledHouses", "finish", "(LPolledHouses$Poll;I)V"⟩, 8) := ⟨⟨by decide +kernel, by decide +kernel⟩, List.mem_of_getElem? (i := 10) (by decide +kernel), List.mem_of_getElem? (i := 295) (by decide +kernel), List.mem_of_getElem? (i := 296) (by decide +kernel)⟩
theorem lw_p10 : lw_okq (⟨"PolledHouses", "answerFetch", "(LPolledHouses$Poll;I)V"⟩, 8) := ⟨⟨by decide +kernel, by decide +kernel⟩, List.mem_of_getElem? (i := 10) (by decide +kernel), List.mem_of_getElem? (i := 314) (by decide +kernel), List.mem_of_getElem? (i := 315) (by decide +kernel)⟩
theorem lw_p11 : lw_okq (⟨"PolledHouses", "takeCopy", "(LPolledHouses$Poll;IJ)V"⟩, 8) := ⟨⟨by decide +kernel, by decide +kernel⟩, List.mem_of_getElem? (i := 10) (by decide +kernel), List.mem_of_getElem? (i := 323) (by decide +kernel), List.mem_of_getElem? (i := 324) (by decide +kernel)⟩
theorem lw_p12 : lw_okq (⟨"PolledHouses", "decide", "(LPolledHouses$Poll;)I"⟩, 8) := ⟨⟨by decide +kernel, by decide +kernel⟩, List.mem_of_getElem? (i := 10) (by decide +kernel), List.mem_of_getElem? (i := 327) (by decide +kernel), List.mem_of_getElem? (i := 328) (by decide +kernel)⟩
theorem lw_p13 : lw_okq (⟨"PolledHouses", "areCopiesCurrent", "(LPolledHouses$Poll;)Z"⟩, 8) := ⟨⟨by decide +kernel, by decide +kernel⟩, List.mem_of_getElem? (i := 10) (by decide +kernel), List.mem_of_getElem? (i := 339) (by decide +kernel), List.mem_of_getElem? (i := 340) (by decide +kernel)⟩
theorem lw_p14 : lw_okq (⟨"PolledHouses", "mendBlock", "(LPolledHouses$Poll;I)V"⟩, 8) := ⟨⟨by decide +kernel, by decide +kernel⟩, List.mem_of_getElem? (i := 10) (by decide +kernel), List.mem_of_getElem? (i := 343) (by decide +kernel), List.mem_of_getElem? (i := 344) (by decide +kernel)⟩
theorem lw_p15 : lw_okq (⟨"PolledHousesModel", "blocksOf", "(I)I"⟩, 24) := ⟨⟨by decide +kernel, by decide +kernel⟩, List.mem_of_getElem? (i := 405) (by decide +kernel), List.mem_of_getElem? (i := 492) (by decide +kernel), List.mem_of_getElem? (i := 493) (by decide +kernel)⟩
def lw_privs_1 : List (MethodName × Nat) := [(⟨"PolledHouses", "allHousesOpen", "()Z"⟩, 8), (⟨"PolledHouses", "isByte", "(II)Z"⟩, 8), (⟨"PolledHouses", "freePlace", "()LPolledHouses$Poll;"⟩, 8), (⟨"PolledHouses", "sendToAwaited", "(LPolledHouses$Poll;)I"⟩, 8), (⟨"PolledHouses", "isPoll", "(I)Z"⟩, 8), (⟨"PolledHouses", "runningPoll", "(I)LPolledHouses$Poll;"⟩, 8), (⟨"PolledHouses", "arrive", "(LPolledHouses$Poll;IIJ)V"⟩, 8), (⟨"PolledHouses", "answerAsk", "(LPolledHouses$Poll;I)V"⟩, 8), (⟨"PolledHouses", "takeSum", "(LPolledHouses$Poll;IJ)V"⟩, 8), (⟨"PolledHouses", "finish", "(LPolledHouses$Poll;I)V"⟩, 8), (⟨"PolledHouses", "answerFetch", "(LPolledHouses$Poll;I)V"⟩, 8), (⟨"PolledHouses", "takeCopy", "(LPolledHouses$Poll;IJ)V"⟩, 8), (⟨"PolledHouses", "decide", "(LPolledHouses$Poll;)I"⟩, 8), (⟨"PolledHouses", "areCopiesCurrent", "(LPolledHouses$Poll;)Z"⟩, 8), (⟨"PolledHouses", "mendBlock", "(LPolledHouses$Poll;I)V"⟩, 8), (⟨"PolledHousesModel", "blocksOf", "(I)I"⟩, 24)]
theorem lw_r1 : ∀ q ∈ lw_privs_1, lw_okq q := List.forall_mem_cons.mpr ⟨lw_p0, List.forall_mem_cons.mpr ⟨lw_p1, List.forall_mem_cons.mpr ⟨lw_p2, List.forall_mem_cons.mpr ⟨lw_p3, List.forall_mem_cons.mpr ⟨lw_p4, List.forall_mem_cons.mpr ⟨lw_p5, List.forall_mem_cons.mpr ⟨lw_p6, List.forall_mem_cons.mpr ⟨lw_p7, List.forall_mem_cons.mpr ⟨lw_p8, List.forall_mem_cons.mpr ⟨lw_p9, List.forall_mem_cons.mpr ⟨lw_p10, List.forall_mem_cons.mpr ⟨lw_p11, List.forall_mem_cons.mpr ⟨lw_p12, List.forall_mem_cons.mpr ⟨lw_p13, List.forall_mem_cons.mpr ⟨lw_p14, List.forall_mem_cons.mpr ⟨lw_p15, fun _ h => absurd h List.not_mem_nil⟩⟩⟩⟩⟩⟩⟩⟩⟩⟩⟩⟩⟩⟩⟩⟩
theorem lw_p16 : lw_okq (⟨"PolledHousesModel", "isByte", "(III)Z"⟩, 24) := ⟨⟨by decide +kernel, by decide +kernel⟩, List.mem_of_getElem? (i := 405) (by decide +kernel), List.mem_of_getElem? (i := 500) (by decide +kernel), List.mem_of_getElem? (i := 501) (by decide +kernel)⟩
theorem lw_p17 : lw_okq (⟨"PolledHousesModel", "sizeOf", "(II)I"⟩, 24) := ⟨⟨by decide +kernel, by decide +kernel⟩, List.mem_of_getElem? (i := 405) (by decide +kernel), List.mem_of_getElem? (i := 515) (by decide +kernel), List.mem_of_getElem? (i := 516) (by decide +kernel)⟩
theorem lw_p18 : lw_okq (⟨"PolledHousesModel", "isLetter", "(I)Z"⟩, 24) := ⟨⟨by decide +kernel, by decide +kernel⟩, List.mem_of_getElem? (i := 405) (by decide +kernel), List.mem_of_getElem? (i := 527) (by decide +kernel), List.mem_of_getElem? (i := 528) (by decide +kernel)⟩
theorem lw_p19 : lw_okq (⟨"PolledHousesModel", "leave", "(I)V"⟩, 24) := ⟨⟨by decide +kernel, by decide +kernel⟩, List.mem_of_getElem? (i := 405) (by decide +kernel), List.mem_of_getElem? (i := 531) (by decide +kernel), List.mem_of_getElem? (i := 532) (by decide +kernel)⟩
theorem lw_p20 : lw_okq (⟨"PolledHousesModel", "copyLetter", "(II)V"⟩, 24) := ⟨⟨by decide +kernel, by decide +kernel⟩, List.mem_of_getElem? (i := 405) (by decide +kernel), List.mem_of_getElem? (i := 535) (by decide +kernel), List.mem_of_getElem? (i := 536) (by decide +kernel)⟩
theorem lw_p21 : lw_okq (⟨"PolledHousesModel", "come", "(III)I"⟩, 24) := ⟨⟨by decide +kernel, by decide +kernel⟩, List.mem_of_getElem? (i := 405) (by decide +kernel), List.mem_of_getElem? (i := 555) (by decide +kernel), List.mem_of_getElem? (i := 556) (by decide +kernel)⟩
theorem lw_p22 : lw_okq (⟨"PolledHousesModel", "placeOf", "(I)I"⟩, 24) := ⟨⟨by decide +kernel, by decide +kernel⟩, List.mem_of_getElem? (i := 405) (by decide +kernel), List.mem_of_getElem? (i := 563) (by decide +kernel), List.mem_of_getElem? (i := 564) (by decide +kernel)⟩
theorem lw_p23 : lw_okq (⟨"PolledHousesModel", "takeSum", "(IIJ)V"⟩, 24) := ⟨⟨by decide +kernel, by decide +kernel⟩, List.mem_of_getElem? (i := 405) (by decide +kernel), List.mem_of_getElem? (i := 571) (by decide +kernel), List.mem_of_getElem? (i := 572) (by decide +kernel)⟩
theorem lw_p24 : lw_okq (⟨"PolledHousesModel", "end", "(II)V"⟩, 24) := ⟨⟨by decide +kernel, by decide +kernel⟩, List.mem_of_getElem? (i := 405) (by decide +kernel), List.mem_of_getElem? (i := 575) (by decide +kernel), List.mem_of_getElem? (i := 576) (by decide +kernel)⟩
theorem lw_p25 : lw_okq (⟨"PolledHousesModel", "count", "(Z)I"⟩, 24) := ⟨⟨by decide +kernel, by decide +kernel⟩, List.mem_of_getElem? (i := 405) (by decide +kernel), List.mem_of_getElem? (i := 579) (by decide +kernel), List.mem_of_getElem? (i := 580) (by decide +kernel)⟩
theorem lw_p26 : lw_okq (⟨"PolledHousesModel", "takeCopy", "(II)V"⟩, 24) := ⟨⟨by decide +kernel, by decide +kernel⟩, List.mem_of_getElem? (i := 405) (by decide +kernel), List.mem_of_getElem? (i := 583) (by decide +kernel), List.mem_of_getElem? (i := 584) (by decide +kernel)⟩
theorem lw_p27 : lw_okq (⟨"PolledHousesModel", "decide", "(I)V"⟩, 24) := ⟨⟨by decide +kernel, by decide +kernel⟩, List.mem_of_getElem? (i := 405) (by decide +kernel), List.mem_of_getElem? (i := 587) (by decide +kernel), List.mem_of_getElem? (i := 588) (by decide +kernel)⟩
theorem lw_p28 : lw_okq (⟨"PolledHousesModel", "alike", "(IIII)Z"⟩, 24) := ⟨⟨by decide +kernel, by decide +kernel⟩, List.mem_of_getElem? (i := 405) (by decide +kernel), List.mem_of_getElem? (i := 591) (by decide +kernel), List.mem_of_getElem? (i := 592) (by decide +kernel)⟩
theorem lw_p29 : lw_okq (⟨"PolledHousesModel", "isAsCopied", "(III)Z"⟩, 24) := ⟨⟨by decide +kernel, by decide +kernel⟩, List.mem_of_getElem? (i := 405) (by decide +kernel), List.mem_of_getElem? (i := 595) (by decide +kernel), List.mem_of_getElem? (i := 596) (by decide +kernel)⟩
theorem lw_p30 : lw_okq (⟨"PolledHousesModel", "byteAt", "(III)I"⟩, 24) := ⟨⟨by decide +kernel, by decide +kernel⟩, List.mem_of_getElem? (i := 405) (by decide +kernel), List.mem_of_getElem? (i := 599) (by decide +kernel), List.mem_of_getElem? (i := 600) (by decide +kernel)⟩
theorem lw_p31 : lw_okq (⟨"PolledHousesModel", "mend", "(IIII)V"⟩, 24) := ⟨⟨by decide +kernel, by decide +kernel⟩, List.mem_of_getElem? (i := 405) (by decide +kernel), List.mem_of_getElem? (i := 603) (by decide +kernel), List.mem_of_getElem? (i := 604) (by decide +kernel)⟩
def lw_privs_2 : List (MethodName × Nat) := [(⟨"PolledHousesModel", "isByte", "(III)Z"⟩, 24), (⟨"PolledHousesModel", "sizeOf", "(II)I"⟩, 24), (⟨"PolledHousesModel", "isLetter", "(I)Z"⟩, 24), (⟨"PolledHousesModel", "leave", "(I)V"⟩, 24), (⟨"PolledHousesModel", "copyLetter", "(II)V"⟩, 24), (⟨"PolledHousesModel", "come", "(III)I"⟩, 24), (⟨"PolledHousesModel", "placeOf", "(I)I"⟩, 24), (⟨"PolledHousesModel", "takeSum", "(IIJ)V"⟩, 24), (⟨"PolledHousesModel", "end", "(II)V"⟩, 24), (⟨"PolledHousesModel", "count", "(Z)I"⟩, 24), (⟨"PolledHousesModel", "takeCopy", "(II)V"⟩, 24), (⟨"PolledHousesModel", "decide", "(I)V"⟩, 24), (⟨"PolledHousesModel", "alike", "(IIII)Z"⟩, 24), (⟨"PolledHousesModel", "isAsCopied", "(III)Z"⟩, 24), (⟨"PolledHousesModel", "byteAt", "(III)I"⟩, 24), (⟨"PolledHousesModel", "mend", "(IIII)V"⟩, 24)]
theorem lw_r2 : ∀ q ∈ lw_privs_2, lw_okq q := List.forall_mem_cons.mpr ⟨lw_p16, List.forall_mem_cons.mpr ⟨lw_p17, List.forall_mem_cons.mpr ⟨lw_p18, List.forall_mem_cons.mpr ⟨lw_p19, List.forall_mem_cons.mpr ⟨lw_p20, List.forall_mem_cons.mpr ⟨lw_p21, List.forall_mem_cons.mpr ⟨lw_p22, List.forall_mem_cons.mpr ⟨lw_p23, List.forall_mem_cons.mpr ⟨lw_p24, List.forall_mem_cons.mpr ⟨lw_p25, List.forall_mem_cons.mpr ⟨lw_p26, List.forall_mem_cons.mpr ⟨lw_p27, List.forall_mem_cons.mpr ⟨lw_p28, List.forall_mem_cons.mpr ⟨lw_p29, List.forall_mem_cons.mpr ⟨lw_p30, List.forall_mem_cons.mpr ⟨lw_p31, fun _ h => absurd h List.not_mem_nil⟩⟩⟩⟩⟩⟩⟩⟩⟩⟩⟩⟩⟩⟩⟩⟩
theorem lw_p32 : lw_okq (⟨"PolledHousesModel", "answer", "(III)V"⟩, 24) := ⟨⟨by decide +kernel, by decide +kernel⟩, List.mem_of_getElem? (i := 405) (by decide +kernel), List.mem_of_getElem? (i := 607) (by decide +kernel), List.mem_of_getElem? (i := 608) (by decide +kernel)⟩
def lw_privs_3 : List (MethodName × Nat) := [(⟨"PolledHousesModel", "answer", "(III)V"⟩, 24)]
theorem lw_r3 : ∀ q ∈ lw_privs_3, lw_okq q := List.forall_mem_cons.mpr ⟨lw_p32, fun _ h => absurd h List.not_mem_nil⟩
def lw_privs : List (MethodName × Nat) := lw_privs_1 ++ (lw_privs_2 ++ (lw_privs_3))
def lw_tbl : List Cond := k2_sels lw_privs ++ tables_1
theorem lw_privs_ok : ∀ q ∈ lw_privs, lw_okq q := by
  show ∀ q ∈ lw_privs_1 ++ (lw_privs_2 ++ (lw_privs_3)), lw_okq q
  exact List.forall_mem_append.mpr ⟨lw_r1, List.forall_mem_append.mpr ⟨lw_r2, lw_r3⟩⟩
end
section
def R_X : String := "PolledHouses"
def F_X : u_T := fun k => match k with
  | 0 => ("PolledHouses", "houses", "[LPolledHouses$House;", true)
  | 1 => ("PolledHouses", "blockCounts", "[I", true)
  | 2 => ("PolledHouses", "row", "LPolledHouses$Row;", true)
  | 3 => ("PolledHouses", "places", "[LPolledHouses$Poll;", true)
  | 4 => ("PolledHouses", "results", "[I", true)
  | 5 => ("PolledHouses", "rounds", "LPolledHouses$Rounds;", true)
  | 6 => ("PolledHouses", "pollCount", "I", false)
  | _ => ("PolledHouses", "disputeCount", "I", false)
def t_X : Nat → FieldType := fun k => match k with
  | 0 => .array (.object "PolledHouses$House")
  | 1 => .array (.int)
  | 2 => .object "PolledHouses$Row"
  | 3 => .array (.object "PolledHouses$Poll")
  | 4 => .array (.int)
  | 5 => .object "PolledHouses$Rounds"
  | 6 => .int
  | _ => .int
theorem n_X : ∀ a, a < 8 → ∀ b, b < 8 → a ≠ b → (F_X a).2.1 ≠ (F_X b).2.1 := by decide +kernel
theorem t_X_ok : ∀ k, k < 8 → parseFieldDescriptor (F_X k).2.2.1 = some (t_X k) := by decide +kernel
def R_H : String := "PolledHouses$House"
def F_H : u_T := fun k => match k with
  | 0 => ("PolledHouses$House", "isOpen", "Z", false)
  | 1 => ("PolledHouses$House", "mendCount", "I", false)
  | _ => ("PolledHouses$House", "words", "[I", true)
def t_H : Nat → FieldType := fun k => match k with
  | 0 => .boolean
  | 1 => .int
  | _ => .array (.int)
theorem n_H : ∀ a, a < 3 → ∀ b, b < 3 → a ≠ b → (F_H a).2.1 ≠ (F_H b).2.1 := by decide +kernel
theorem t_H_ok : ∀ k, k < 3 → parseFieldDescriptor (F_H k).2.2.1 = some (t_H k) := by decide +kernel
def R_A : String := "PolledHouses$Answers"
def F_A : u_T := fun k => match k with
  | 0 => ("PolledHouses$Answers", "isKnown", "[Z", true)
  | 1 => ("PolledHouses$Answers", "values", "[J", true)
  | _ => ("PolledHouses$Answers", "count", "I", false)
def t_A : Nat → FieldType := fun k => match k with
  | 0 => .array (.boolean)
  | 1 => .array (.long)
  | _ => .int
theorem n_A : ∀ a, a < 3 → ∀ b, b < 3 → a ≠ b → (F_A a).2.1 ≠ (F_A b).2.1 := by decide +kernel
theorem t_A_ok : ∀ k, k < 3 → parseFieldDescriptor (F_A k).2.2.1 = some (t_A k) := by decide +kernel
def R_P : String := "PolledHouses$Poll"
def F_P : u_T := fun k => match k with
  | 0 => ("PolledHouses$Poll", "number", "I", false)
  | 1 => ("PolledHouses$Poll", "deposit", "I", false)
  | 2 => ("PolledHouses$Poll", "part", "I", false)
  | 3 => ("PolledHouses$Poll", "nonce", "J", false)
  | 4 => ("PolledHouses$Poll", "startedIn", "I", false)
  | 5 => ("PolledHouses$Poll", "sums", "LPolledHouses$Answers;", true)
  | _ => ("PolledHouses$Poll", "copies", "LPolledHouses$Answers;", true)
def t_P : Nat → FieldType := fun k => match k with
  | 0 => .int
  | 1 => .int
  | 2 => .int
  | 3 => .long
  | 4 => .int
  | 5 => .object "PolledHouses$Answers"
  | _ => .object "PolledHouses$Answers"
theorem n_P : ∀ a, a < 7 → ∀ b, b < 7 → a ≠ b → (F_P a).2.1 ≠ (F_P b).2.1 := by decide +kernel
theorem t_P_ok : ∀ k, k < 7 → parseFieldDescriptor (F_P k).2.2.1 = some (t_P k) := by decide +kernel
def R_R : String := "PolledHouses$Row"
def F_R : u_T := fun k => match k with
  | 0 => ("PolledHouses$Row", "kinds", "[I", true)
  | 1 => ("PolledHouses$Row", "polls", "[I", true)
  | 2 => ("PolledHouses$Row", "houses", "[I", true)
  | 3 => ("PolledHouses$Row", "contents", "[J", true)
  | _ => ("PolledHouses$Row", "count", "I", false)
def t_R : Nat → FieldType := fun k => match k with
  | 0 => .array (.int)
  | 1 => .array (.int)
  | 2 => .array (.int)
  | 3 => .array (.long)
  | _ => .int
theorem n_R : ∀ a, a < 5 → ∀ b, b < 5 → a ≠ b → (F_R a).2.1 ≠ (F_R b).2.1 := by decide +kernel
theorem t_R_ok : ∀ k, k < 5 → parseFieldDescriptor (F_R k).2.2.1 = some (t_R k) := by decide +kernel
def R_D : String := "PolledHouses$Rounds"
def F_D : u_T := fun k => match k with
  | 0 => ("PolledHouses$Rounds", "number", "I", false)
  | 1 => ("PolledHouses$Rounds", "doneCount", "I", false)
  | _ => ("PolledHouses$Rounds", "doneIn", "[I", true)
def t_D : Nat → FieldType := fun k => match k with
  | 0 => .int
  | 1 => .int
  | _ => .array (.int)
theorem n_D : ∀ a, a < 3 → ∀ b, b < 3 → a ≠ b → (F_D a).2.1 ≠ (F_D b).2.1 := by decide +kernel
theorem t_D_ok : ∀ k, k < 3 → parseFieldDescriptor (F_D k).2.2.1 = some (t_D k) := by decide +kernel
def R_M : String := "PolledHousesModel"
def F_M : u_T := fun k => match k with
  | 0 => ("PolledHousesModel", "bytes", "[I", true)
  | 1 => ("PolledHousesModel", "blocks", "[I", true)
  | 2 => ("PolledHousesModel", "open", "[Z", true)
  | 3 => ("PolledHousesModel", "polls", "I", false)
  | 4 => ("PolledHousesModel", "results", "[I", true)
  | 5 => ("PolledHousesModel", "numbers", "[I", true)
  | 6 => ("PolledHousesModel", "deposits", "[I", true)
  | 7 => ("PolledHousesModel", "partsOf", "[I", true)
  | 8 => ("PolledHousesModel", "nonces", "[J", true)
  | 9 => ("PolledHousesModel", "began", "[I", true)
  | 10 => ("PolledHousesModel", "sumBits", "[I", true)
  | 11 => ("PolledHousesModel", "copyBits", "[I", true)
  | 12 => ("PolledHousesModel", "sums", "[J", true)
  | 13 => ("PolledHousesModel", "copies", "[I", true)
  | 14 => ("PolledHousesModel", "many", "I", false)
  | 15 => ("PolledHousesModel", "kinds", "[I", true)
  | 16 => ("PolledHousesModel", "pollOf", "[I", true)
  | 17 => ("PolledHousesModel", "houseOf", "[I", true)
  | 18 => ("PolledHousesModel", "sumOf", "[J", true)
  | 19 => ("PolledHousesModel", "loads", "[I", true)
  | 20 => ("PolledHousesModel", "round", "I", false)
  | 21 => ("PolledHousesModel", "isDone", "[Z", true)
  | 22 => ("PolledHousesModel", "mended", "[I", true)
  | _ => ("PolledHousesModel", "disputed", "I", false)
def t_M : Nat → FieldType := fun k => match k with
  | 0 => .array (.int)
  | 1 => .array (.int)
  | 2 => .array (.boolean)
  | 3 => .int
  | 4 => .array (.int)
  | 5 => .array (.int)
  | 6 => .array (.int)
  | 7 => .array (.int)
  | 8 => .array (.long)
  | 9 => .array (.int)
  | 10 => .array (.int)
  | 11 => .array (.int)
  | 12 => .array (.long)
  | 13 => .array (.int)
  | 14 => .int
  | 15 => .array (.int)
  | 16 => .array (.int)
  | 17 => .array (.int)
  | 18 => .array (.long)
  | 19 => .array (.int)
  | 20 => .int
  | 21 => .array (.boolean)
  | 22 => .array (.int)
  | _ => .int
theorem n_M : ∀ a, a < 24 → ∀ b, b < 24 → a ≠ b → (F_M a).2.1 ≠ (F_M b).2.1 := by decide +kernel
theorem t_M_ok : ∀ k, k < 24 → parseFieldDescriptor (F_M k).2.2.1 = some (t_M k) := by decide +kernel
abbrev z_cl : List vw_C := [(R_X, F_X, 8), (R_H, F_H, 3), (R_A, F_A, 3), (R_P, F_P, 7), (R_R, F_R, 5), (R_D, F_D, 3), (R_M, F_M, 24)]
abbrev b_X_init : ByteArray := prog_1_method_1_code
def y_X_init : MethodName := ⟨R_X, "<init>", "()V"⟩
abbrev b_X_deposit : ByteArray := prog_1_method_2_code
def y_X_deposit : MethodName := ⟨R_X, "deposit", "(III)I"⟩
abbrev b_X_blocks : ByteArray := prog_1_method_3_code
def y_X_blocks : MethodName := ⟨R_X, "blocks", "(I)I"⟩
abbrev b_X_at : ByteArray := prog_1_method_4_code
def y_X_at : MethodName := ⟨R_X, "at", "(III)I"⟩
abbrev b_X_damage : ByteArray := prog_1_method_5_code
def y_X_damage : MethodName := ⟨R_X, "damage", "(IIII)I"⟩
abbrev b_X_sum : ByteArray := prog_1_method_6_code
def y_X_sum : MethodName := ⟨R_X, "sum", "(IIIJ)J"⟩
abbrev b_X_poll : ByteArray := prog_1_method_7_code
def y_X_poll : MethodName := ⟨R_X, "poll", "(IIJ)I"⟩
abbrev b_X_again : ByteArray := prog_1_method_8_code
def y_X_again : MethodName := ⟨R_X, "again", "(I)I"⟩
abbrev b_X_step : ByteArray := prog_1_method_9_code
def y_X_step : MethodName := ⟨R_X, "step", "()I"⟩
abbrev b_X_lose : ByteArray := prog_1_method_10_code
def y_X_lose : MethodName := ⟨R_X, "lose", "(I)I"⟩
abbrev b_X_twice : ByteArray := prog_1_method_11_code
def y_X_twice : MethodName := ⟨R_X, "twice", "(I)I"⟩
abbrev b_X_letters : ByteArray := prog_1_method_12_code
def y_X_letters : MethodName := ⟨R_X, "letters", "()I"⟩
abbrev b_X_letter : ByteArray := prog_1_method_13_code
def y_X_letter : MethodName := ⟨R_X, "letter", "(II)I"⟩
abbrev b_X_giveUp : ByteArray := prog_1_method_14_code
def y_X_giveUp : MethodName := ⟨R_X, "giveUp", "(I)Z"⟩
abbrev b_X_result : ByteArray := prog_1_method_15_code
def y_X_result : MethodName := ⟨R_X, "result", "(I)I"⟩
abbrev b_X_close : ByteArray := prog_1_method_16_code
def y_X_close : MethodName := ⟨R_X, "close", "(I)Z"⟩
abbrev b_X_open : ByteArray := prog_1_method_17_code
def y_X_open : MethodName := ⟨R_X, "open", "(I)Z"⟩
abbrev b_X_round : ByteArray := prog_1_method_18_code
def y_X_round : MethodName := ⟨R_X, "round", "()I"⟩
abbrev b_X_done : ByteArray := prog_1_method_19_code
def y_X_done : MethodName := ⟨R_X, "done", "()I"⟩
abbrev b_X_parts : ByteArray := prog_1_method_20_code
def y_X_parts : MethodName := ⟨R_X, "parts", "()I"⟩
abbrev b_X_mends : ByteArray := prog_1_method_21_code
def y_X_mends : MethodName := ⟨R_X, "mends", "(I)I"⟩
abbrev b_X_disputes : ByteArray := prog_1_method_22_code
def y_X_disputes : MethodName := ⟨R_X, "disputes", "()I"⟩
abbrev b_X_isHouse : ByteArray := prog_1_method_23_code
def y_X_isHouse : MethodName := ⟨R_X, "isHouse", "(I)Z"⟩
abbrev b_X_isDeposit : ByteArray := prog_1_method_24_code
def y_X_isDeposit : MethodName := ⟨R_X, "isDeposit", "(I)Z"⟩
abbrev b_X_isPart : ByteArray := prog_1_method_25_code
def y_X_isPart : MethodName := ⟨R_X, "isPart", "(I)Z"⟩
abbrev b_X_isByte : ByteArray := prog_1_method_26_code
def y_X_isByte : MethodName := ⟨R_X, "isByte", "(II)Z"⟩
abbrev b_X_isPoll : ByteArray := prog_1_method_27_code
def y_X_isPoll : MethodName := ⟨R_X, "isPoll", "(I)Z"⟩
abbrev b_X_allHousesOpen : ByteArray := prog_1_method_28_code
def y_X_allHousesOpen : MethodName := ⟨R_X, "allHousesOpen", "()Z"⟩
abbrev b_X_freePlace : ByteArray := prog_1_method_29_code
def y_X_freePlace : MethodName := ⟨R_X, "freePlace", "()LPolledHouses$Poll;"⟩
abbrev b_X_runningPoll : ByteArray := prog_1_method_30_code
def y_X_runningPoll : MethodName := ⟨R_X, "runningPoll", "(I)LPolledHouses$Poll;"⟩
abbrev b_X_sendToAwaited : ByteArray := prog_1_method_31_code
def y_X_sendToAwaited : MethodName := ⟨R_X, "sendToAwaited", "(LPolledHouses$Poll;)I"⟩
abbrev b_X_arrive : ByteArray := prog_1_method_32_code
def y_X_arrive : MethodName := ⟨R_X, "arrive", "(LPolledHouses$Poll;IIJ)V"⟩
abbrev b_X_answerAsk : ByteArray := prog_1_method_33_code
def y_X_answerAsk : MethodName := ⟨R_X, "answerAsk", "(LPolledHouses$Poll;I)V"⟩
abbrev b_X_answerFetch : ByteArray := prog_1_method_34_code
def y_X_answerFetch : MethodName := ⟨R_X, "answerFetch", "(LPolledHouses$Poll;I)V"⟩
abbrev b_X_takeSum : ByteArray := prog_1_method_35_code
def y_X_takeSum : MethodName := ⟨R_X, "takeSum", "(LPolledHouses$Poll;IJ)V"⟩
abbrev b_X_takeCopy : ByteArray := prog_1_method_36_code
def y_X_takeCopy : MethodName := ⟨R_X, "takeCopy", "(LPolledHouses$Poll;IJ)V"⟩
abbrev b_X_decide : ByteArray := prog_1_method_37_code
def y_X_decide : MethodName := ⟨R_X, "decide", "(LPolledHouses$Poll;)I"⟩
abbrev b_X_areCopiesCurrent : ByteArray := prog_1_method_38_code
def y_X_areCopiesCurrent : MethodName := ⟨R_X, "areCopiesCurrent", "(LPolledHouses$Poll;)Z"⟩
abbrev b_X_mendBlock : ByteArray := prog_1_method_39_code
def y_X_mendBlock : MethodName := ⟨R_X, "mendBlock", "(LPolledHouses$Poll;I)V"⟩
abbrev b_X_finish : ByteArray := prog_1_method_40_code
def y_X_finish : MethodName := ⟨R_X, "finish", "(LPolledHouses$Poll;I)V"⟩
abbrev b_H_init : ByteArray := prog_3_method_1_code
def y_H_init : MethodName := ⟨R_H, "<init>", "()V"⟩
abbrev b_H_receive : ByteArray := prog_3_method_2_code
def y_H_receive : MethodName := ⟨R_H, "receive", "(III)V"⟩
abbrev b_H_byteOf : ByteArray := prog_3_method_3_code
def y_H_byteOf : MethodName := ⟨R_H, "byteOf", "(II)I"⟩
abbrev b_H_flip : ByteArray := prog_3_method_4_code
def y_H_flip : MethodName := ⟨R_H, "flip", "(III)V"⟩
abbrev b_H_mend : ByteArray := prog_3_method_5_code
def y_H_mend : MethodName := ⟨R_H, "mend", "(III)V"⟩
abbrev b_H_bytesOfPart : ByteArray := prog_3_method_6_code
def y_H_bytesOfPart : MethodName := ⟨R_H, "bytesOfPart", "(II)J"⟩
abbrev b_H_sumOfPart : ByteArray := prog_3_method_7_code
def y_H_sumOfPart : MethodName := ⟨R_H, "sumOfPart", "(IIIJ)J"⟩
abbrev b_H_place : ByteArray := prog_3_method_8_code
def y_H_place : MethodName := ⟨R_H, "place", "(II)I"⟩
abbrev b_H_shift : ByteArray := prog_3_method_9_code
def y_H_shift : MethodName := ⟨R_H, "shift", "(I)I"⟩
abbrev b_A_init : ByteArray := prog_2_method_1_code
def y_A_init : MethodName := ⟨R_A, "<init>", "()V"⟩
abbrev b_A_forget : ByteArray := prog_2_method_2_code
def y_A_forget : MethodName := ⟨R_A, "forget", "()V"⟩
abbrev b_A_take : ByteArray := prog_2_method_3_code
def y_A_take : MethodName := ⟨R_A, "take", "(IJ)Z"⟩
abbrev b_A_isComplete : ByteArray := prog_2_method_4_code
def y_A_isComplete : MethodName := ⟨R_A, "isComplete", "()Z"⟩
abbrev b_A_areAlike : ByteArray := prog_2_method_5_code
def y_A_areAlike : MethodName := ⟨R_A, "areAlike", "()Z"⟩
abbrev b_P_init : ByteArray := prog_4_method_1_code
def y_P_init : MethodName := ⟨R_P, "<init>", "()V"⟩
abbrev b_P_begin : ByteArray := prog_4_method_2_code
def y_P_begin : MethodName := ⟨R_P, "begin", "(IIIJI)V"⟩
abbrev b_P_copiedBlock : ByteArray := prog_4_method_3_code
def y_P_copiedBlock : MethodName := ⟨R_P, "copiedBlock", "(II)I"⟩
abbrev b_P_copiesAllDiffer : ByteArray := prog_4_method_4_code
def y_P_copiesAllDiffer : MethodName := ⟨R_P, "copiesAllDiffer", "(I)Z"⟩
abbrev b_R_init : ByteArray := prog_6_method_1_code
def y_R_init : MethodName := ⟨R_R, "<init>", "()V"⟩
abbrev b_R_has : ByteArray := prog_6_method_2_code
def y_R_has : MethodName := ⟨R_R, "has", "(I)Z"⟩
abbrev b_R_add : ByteArray := prog_6_method_3_code
def y_R_add : MethodName := ⟨R_R, "add", "(IIIJ)V"⟩
abbrev b_R_remove : ByteArray := prog_6_method_4_code
def y_R_remove : MethodName := ⟨R_R, "remove", "(I)V"⟩
abbrev b_D_init : ByteArray := prog_5_method_1_code
def y_D_init : MethodName := ⟨R_D, "<init>", "()V"⟩
abbrev b_D_finishPart : ByteArray := prog_5_method_2_code
def y_D_finishPart : MethodName := ⟨R_D, "finishPart", "(III)V"⟩
abbrev b_D_endIfAllDone : ByteArray := prog_5_method_3_code
def y_D_endIfAllDone : MethodName := ⟨R_D, "endIfAllDone", "(I)V"⟩
abbrev b_M_init : ByteArray := prog_8_method_1_code
def y_M_init : MethodName := ⟨R_M, "<init>", "()V"⟩
abbrev b_M_isHouse : ByteArray := prog_8_method_2_code
def y_M_isHouse : MethodName := ⟨R_M, "isHouse", "(I)Z"⟩
abbrev b_M_blocksOf : ByteArray := prog_8_method_3_code
def y_M_blocksOf : MethodName := ⟨R_M, "blocksOf", "(I)I"⟩
abbrev b_M_isByte : ByteArray := prog_8_method_4_code
def y_M_isByte : MethodName := ⟨R_M, "isByte", "(III)Z"⟩
abbrev b_M_deposit : ByteArray := prog_8_method_5_code
def y_M_deposit : MethodName := ⟨R_M, "deposit", "(III)I"⟩
abbrev b_M_blocks : ByteArray := prog_8_method_6_code
def y_M_blocks : MethodName := ⟨R_M, "blocks", "(I)I"⟩
abbrev b_M_at : ByteArray := prog_8_method_7_code
def y_M_at : MethodName := ⟨R_M, "at", "(III)I"⟩
abbrev b_M_damage : ByteArray := prog_8_method_8_code
def y_M_damage : MethodName := ⟨R_M, "damage", "(IIII)I"⟩
abbrev b_M_mix : ByteArray := prog_8_method_9_code
def y_M_mix : MethodName := ⟨R_M, "mix", "(JI)J"⟩
abbrev b_M_sizeOf : ByteArray := prog_8_method_10_code
def y_M_sizeOf : MethodName := ⟨R_M, "sizeOf", "(II)I"⟩
abbrev b_M_sum : ByteArray := prog_8_method_11_code
def y_M_sum : MethodName := ⟨R_M, "sum", "(IIIJ)J"⟩
abbrev b_M_come : ByteArray := prog_8_method_12_code
def y_M_come : MethodName := ⟨R_M, "come", "(III)I"⟩
abbrev b_M_isLetter : ByteArray := prog_8_method_13_code
def y_M_isLetter : MethodName := ⟨R_M, "isLetter", "(I)Z"⟩
abbrev b_M_copyLetter : ByteArray := prog_8_method_14_code
def y_M_copyLetter : MethodName := ⟨R_M, "copyLetter", "(II)V"⟩
abbrev b_M_leave : ByteArray := prog_8_method_15_code
def y_M_leave : MethodName := ⟨R_M, "leave", "(I)V"⟩
abbrev b_M_lose : ByteArray := prog_8_method_16_code
def y_M_lose : MethodName := ⟨R_M, "lose", "(I)I"⟩
abbrev b_M_twice : ByteArray := prog_8_method_17_code
def y_M_twice : MethodName := ⟨R_M, "twice", "(I)I"⟩
abbrev b_M_letters : ByteArray := prog_8_method_18_code
def y_M_letters : MethodName := ⟨R_M, "letters", "()I"⟩
abbrev b_M_letter : ByteArray := prog_8_method_19_code
def y_M_letter : MethodName := ⟨R_M, "letter", "(II)I"⟩
abbrev b_M_placeOf : ByteArray := prog_8_method_20_code
def y_M_placeOf : MethodName := ⟨R_M, "placeOf", "(I)I"⟩
abbrev b_M_poll : ByteArray := prog_8_method_21_code
def y_M_poll : MethodName := ⟨R_M, "poll", "(IIJ)I"⟩
abbrev b_M_again : ByteArray := prog_8_method_22_code
def y_M_again : MethodName := ⟨R_M, "again", "(I)I"⟩
abbrev b_M_count : ByteArray := prog_8_method_23_code
def y_M_count : MethodName := ⟨R_M, "count", "(Z)I"⟩
abbrev b_M_end : ByteArray := prog_8_method_24_code
def y_M_end : MethodName := ⟨R_M, "end", "(II)V"⟩
abbrev b_M_takeSum : ByteArray := prog_8_method_25_code
def y_M_takeSum : MethodName := ⟨R_M, "takeSum", "(IIJ)V"⟩
abbrev b_M_alike : ByteArray := prog_8_method_26_code
def y_M_alike : MethodName := ⟨R_M, "alike", "(IIII)Z"⟩
abbrev b_M_byteAt : ByteArray := prog_8_method_27_code
def y_M_byteAt : MethodName := ⟨R_M, "byteAt", "(III)I"⟩
abbrev b_M_isAsCopied : ByteArray := prog_8_method_28_code
def y_M_isAsCopied : MethodName := ⟨R_M, "isAsCopied", "(III)Z"⟩
abbrev b_M_mend : ByteArray := prog_8_method_29_code
def y_M_mend : MethodName := ⟨R_M, "mend", "(IIII)V"⟩
abbrev b_M_decide : ByteArray := prog_8_method_30_code
def y_M_decide : MethodName := ⟨R_M, "decide", "(I)V"⟩
abbrev b_M_takeCopy : ByteArray := prog_8_method_31_code
def y_M_takeCopy : MethodName := ⟨R_M, "takeCopy", "(II)V"⟩
abbrev b_M_answer : ByteArray := prog_8_method_32_code
def y_M_answer : MethodName := ⟨R_M, "answer", "(III)V"⟩
abbrev b_M_step : ByteArray := prog_8_method_33_code
def y_M_step : MethodName := ⟨R_M, "step", "()I"⟩
abbrev b_M_giveUp : ByteArray := prog_8_method_34_code
def y_M_giveUp : MethodName := ⟨R_M, "giveUp", "(I)Z"⟩
abbrev b_M_result : ByteArray := prog_8_method_35_code
def y_M_result : MethodName := ⟨R_M, "result", "(I)I"⟩
abbrev b_M_close : ByteArray := prog_8_method_36_code
def y_M_close : MethodName := ⟨R_M, "close", "(I)Z"⟩
abbrev b_M_open : ByteArray := prog_8_method_37_code
def y_M_open : MethodName := ⟨R_M, "open", "(I)Z"⟩
abbrev b_M_round : ByteArray := prog_8_method_38_code
def y_M_round : MethodName := ⟨R_M, "round", "()I"⟩
abbrev b_M_done : ByteArray := prog_8_method_39_code
def y_M_done : MethodName := ⟨R_M, "done", "()I"⟩
abbrev b_M_parts : ByteArray := prog_8_method_40_code
def y_M_parts : MethodName := ⟨R_M, "parts", "()I"⟩
abbrev b_M_mends : ByteArray := prog_8_method_41_code
def y_M_mends : MethodName := ⟨R_M, "mends", "(I)I"⟩
abbrev b_M_disputes : ByteArray := prog_8_method_42_code
def y_M_disputes : MethodName := ⟨R_M, "disputes", "()I"⟩
end
section
/-- the words that a call may take along: those of lw_tbl that stay true in every later state -/
def z_okb (w : Cond) : Bool := k2_isCode w || goodWord w
def z_T : List Cond := lw_tbl.filter z_okb
theorem z_inT {w : Cond} (h : w ∈ lw_tbl) (hb : z_okb w = true) : w ∈ z_T := List.mem_filter.mpr ⟨h, hb⟩
theorem z_ok {w : Cond} (h : w ∈ z_T) : (w.onTables && w.keeps) = true ∨ ∃ ty, w = .arrayClass ty := by
  have hb := (List.mem_filter.mp h).2
  rcases Bool.or_eq_true _ _ ▸ hb with hc | hg
  · cases w <;> first | (simp [k2_isCode] at hc; done) | exact Or.inl rfl
  · exact good_of_word hg
abbrev z_ws (y : MethodName) (b : ByteArray) (n : Nat) (ret : Option FieldType) : List Cond := .code y b n ret :: z_T
theorem z_good {y : MethodName} {b : ByteArray} {n : Nat} {ret : Option FieldType} (h : Cond.code y b n ret ∈ z_T) : GoodIn z_T (z_ws y b n ret) := by
  intro w hw
  rcases List.mem_cons.mp hw with rfl | hw
  · exact ⟨h, z_ok h⟩
  · exact ⟨hw, z_ok hw⟩
/-! The world of the class and of the reference: every cell that the two constructors make, at an address 'ad kind index' that never changes; its contents are two functions, ints and longs, of (kind, index, place). -/
abbrev z_S : Type := (Nat → Nat → Nat → Int32) × (Nat → Nat → Nat → Int64)
def z_sI (S : z_S) (a o j : Nat) (v : Int32) : z_S := (fun a' o' j' => cond (Nat.beq a' a) (cond (Nat.beq o' o) (cond (Nat.beq j' j) v (S.1 a' o' j')) (S.1 a' o' j')) (S.1 a' o' j'), S.2)
def z_sL (S : z_S) (a o j : Nat) (v : Int64) : z_S := (S.1, fun a' o' j' => cond (Nat.beq a' a) (cond (Nat.beq o' o) (cond (Nat.beq j' j) v (S.2 a' o' j')) (S.2 a' o' j')) (S.2 a' o' j'))
theorem z_bt {x y : Nat} (h : x = y) : Nat.beq x y = true := by subst h; exact Nat.beq_refl x
theorem z_bf {x y : Nat} (h : ¬ x = y) : Nat.beq x y = false := by
  cases e : Nat.beq x y with
  | false => rfl
  | true => exact absurd (Nat.eq_of_beq_eq_true e) h
theorem z_sI_at (S : z_S) (a o j : Nat) (v : Int32) : (z_sI S a o j v).1 a o = upd (S.1 a o) j v := by
  funext k
  show cond (Nat.beq a a) (cond (Nat.beq o o) (cond (Nat.beq k j) v (S.1 a o k)) (S.1 a o k)) (S.1 a o k) = _
  rw [z_bt rfl, z_bt rfl]
  by_cases h : k = j
  · rw [z_bt h]; simp [upd, h]
  · rw [z_bf h]; simp [upd, h]
theorem z_sI_ne (S : z_S) (a o j : Nat) (v : Int32) {a' o' : Nat} (h : ¬ (a' = a ∧ o' = o)) : (z_sI S a o j v).1 a' o' = S.1 a' o' := by
  funext k
  show cond (Nat.beq a' a) (cond (Nat.beq o' o) (cond (Nat.beq k j) v (S.1 a' o' k)) (S.1 a' o' k)) (S.1 a' o' k) = _
  by_cases h1 : a' = a
  · rw [z_bt h1, z_bf (fun h2 => h ⟨h1, h2⟩)]; rfl
  · rw [z_bf h1]; rfl
theorem z_sL_at (S : z_S) (a o j : Nat) (v : Int64) : (z_sL S a o j v).2 a o = vp_updL (S.2 a o) j v := by
  funext k
  show cond (Nat.beq a a) (cond (Nat.beq o o) (cond (Nat.beq k j) v (S.2 a o k)) (S.2 a o k)) (S.2 a o k) = _
  rw [z_bt rfl, z_bt rfl]
  by_cases h : k = j
  · rw [z_bt h]; simp [vp_updL, h]
  · rw [z_bf h]; simp [vp_updL, h]
theorem z_sL_ne (S : z_S) (a o j : Nat) (v : Int64) {a' o' : Nat} (h : ¬ (a' = a ∧ o' = o)) : (z_sL S a o j v).2 a' o' = S.2 a' o' := by
  funext k
  show cond (Nat.beq a' a) (cond (Nat.beq o' o) (cond (Nat.beq k j) v (S.2 a' o' k)) (S.2 a' o' k)) (S.2 a' o' k) = _
  by_cases h1 : a' = a
  · rw [z_bt h1, z_bf (fun h2 => h ⟨h1, h2⟩)]; rfl
  · rw [z_bf h1]; rfl
def z_c (C : Nat → ClassId) (ad : Nat → Nat → Nat) (f : Nat → Int32) (g : Nat → Int64) (a o : Nat) : va_E := match a with
  | 0 => .inr (0, [.ref (ad 1 0), .ref (ad 2 0), .ref (ad 3 0), .ref (ad 8 0), .ref (ad 9 0), .ref (ad 10 0), .int (f 6), .int (f 7)])
  | 1 => .inl (C 3, 3, .inr (.inr (.inr (.inr (fun j => some (ad 12 j))))))
  | 2 => .inl (C 0, 6, .inl f)
  | 3 => .inr (4, [.ref (ad 4 0), .ref (ad 5 0), .ref (ad 6 0), .ref (ad 7 0), .int (f 4)])
  | 4 => .inl (C 0, 24, .inl f)
  | 5 => .inl (C 0, 24, .inl f)
  | 6 => .inl (C 0, 24, .inl f)
  | 7 => .inl (C 2, 24, .inr (.inl g))
  | 8 => .inl (C 4, 6, .inr (.inr (.inr (.inr (fun j => some (ad 14 j))))))
  | 9 => .inl (C 0, 513, .inl f)
  | 10 => .inr (5, [.int (f 0), .int (f 1), .ref (ad 11 0)])
  | 11 => .inl (C 0, 48, .inl f)
  | 12 => .inr (1, [.int (f 0), .int (f 1), .ref (ad 13 o)])
  | 13 => .inl (C 0, 96, .inl f)
  | 14 => .inr (3, [.int (f 0), .int (f 1), .int (f 2), .long (g 3), .int (f 4), .ref (ad 15 o), .ref (ad 18 o)])
  | 15 => .inr (2, [.ref (ad 16 o), .ref (ad 17 o), .int (f 2)])
  | 16 => .inl (C 1, 3, .inl f)
  | 17 => .inl (C 2, 3, .inr (.inl g))
  | 18 => .inr (2, [.ref (ad 19 o), .ref (ad 20 o), .int (f 2)])
  | 19 => .inl (C 1, 3, .inl f)
  | 20 => .inl (C 2, 3, .inr (.inl g))
  | 21 => .inr (6, [.ref (ad 22 0), .ref (ad 23 0), .ref (ad 24 0), .int (f 3), .ref (ad 25 0), .ref (ad 26 0), .ref (ad 27 0), .ref (ad 28 0), .ref (ad 29 0), .ref (ad 30 0), .ref (ad 31 0), .ref (ad 32 0), .ref (ad 33 0), .ref (ad 34 0), .int (f 14), .ref (ad 35 0), .ref (ad 36 0), .ref (ad 37 0), .ref (ad 38 0), .ref (ad 39 0), .int (f 20), .ref (ad 40 0), .ref (ad 41 0), .int (f 23)])
  | 22 => .inl (C 0, 1152, .inl f)
  | 23 => .inl (C 0, 6, .inl f)
  | 24 => .inl (C 1, 3, .inl f)
  | 25 => .inl (C 0, 600, .inl f)
  | 26 => .inl (C 0, 6, .inl f)
  | 27 => .inl (C 0, 6, .inl f)
  | 28 => .inl (C 0, 6, .inl f)
  | 29 => .inl (C 2, 6, .inr (.inl g))
  | 30 => .inl (C 0, 6, .inl f)
  | 31 => .inl (C 0, 6, .inl f)
  | 32 => .inl (C 0, 6, .inl f)
  | 33 => .inl (C 2, 18, .inr (.inl g))
  | 34 => .inl (C 0, 144, .inl f)
  | 35 => .inl (C 0, 25, .inl f)
  | 36 => .inl (C 0, 25, .inl f)
  | 37 => .inl (C 0, 25, .inl f)
  | 38 => .inl (C 2, 25, .inr (.inl g))
  | 39 => .inl (C 0, 200, .inl f)
  | 40 => .inl (C 1, 48, .inl f)
  | 41 => .inl (C 0, 3, .inl f)
  | _ => .inr (0, [])
theorem z_c0 (C : Nat → ClassId) (ad : Nat → Nat → Nat) (f : Nat → Int32) (g : Nat → Int64) (o : Nat) : z_c C ad f g 0 o = .inr (0, [.ref (ad 1 0), .ref (ad 2 0), .ref (ad 3 0), .ref (ad 8 0), .ref (ad 9 0), .ref (ad 10 0), .int (f 6), .int (f 7)]) := rfl
theorem z_c1 (C : Nat → ClassId) (ad : Nat → Nat → Nat) (f : Nat → Int32) (g : Nat → Int64) (o : Nat) : z_c C ad f g 1 o = .inl (C 3, 3, .inr (.inr (.inr (.inr (fun j => some (ad 12 j)))))) := rfl
theorem z_c2 (C : Nat → ClassId) (ad : Nat → Nat → Nat) (f : Nat → Int32) (g : Nat → Int64) (o : Nat) : z_c C ad f g 2 o = .inl (C 0, 6, .inl f) := rfl
theorem z_c3 (C : Nat → ClassId) (ad : Nat → Nat → Nat) (f : Nat → Int32) (g : Nat → Int64) (o : Nat) : z_c C ad f g 3 o = .inr (4, [.ref (ad 4 0), .ref (ad 5 0), .ref (ad 6 0), .ref (ad 7 0), .int (f 4)]) := rfl
theorem z_c4 (C : Nat → ClassId) (ad : Nat → Nat → Nat) (f : Nat → Int32) (g : Nat → Int64) (o : Nat) : z_c C ad f g 4 o = .inl (C 0, 24, .inl f) := rfl
theorem z_c5 (C : Nat → ClassId) (ad : Nat → Nat → Nat) (f : Nat → Int32) (g : Nat → Int64) (o : Nat) : z_c C ad f g 5 o = .inl (C 0, 24, .inl f) := rfl
theorem z_c6 (C : Nat → ClassId) (ad : Nat → Nat → Nat) (f : Nat → Int32) (g : Nat → Int64) (o : Nat) : z_c C ad f g 6 o = .inl (C 0, 24, .inl f) := rfl
theorem z_c7 (C : Nat → ClassId) (ad : Nat → Nat → Nat) (f : Nat → Int32) (g : Nat → Int64) (o : Nat) : z_c C ad f g 7 o = .inl (C 2, 24, .inr (.inl g)) := rfl
theorem z_c8 (C : Nat → ClassId) (ad : Nat → Nat → Nat) (f : Nat → Int32) (g : Nat → Int64) (o : Nat) : z_c C ad f g 8 o = .inl (C 4, 6, .inr (.inr (.inr (.inr (fun j => some (ad 14 j)))))) := rfl
theorem z_c9 (C : Nat → ClassId) (ad : Nat → Nat → Nat) (f : Nat → Int32) (g : Nat → Int64) (o : Nat) : z_c C ad f g 9 o = .inl (C 0, 513, .inl f) := rfl
theorem z_c10 (C : Nat → ClassId) (ad : Nat → Nat → Nat) (f : Nat → Int32) (g : Nat → Int64) (o : Nat) : z_c C ad f g 10 o = .inr (5, [.int (f 0), .int (f 1), .ref (ad 11 0)]) := rfl
theorem z_c11 (C : Nat → ClassId) (ad : Nat → Nat → Nat) (f : Nat → Int32) (g : Nat → Int64) (o : Nat) : z_c C ad f g 11 o = .inl (C 0, 48, .inl f) := rfl
theorem z_c12 (C : Nat → ClassId) (ad : Nat → Nat → Nat) (f : Nat → Int32) (g : Nat → Int64) (o : Nat) : z_c C ad f g 12 o = .inr (1, [.int (f 0), .int (f 1), .ref (ad 13 o)]) := rfl
theorem z_c13 (C : Nat → ClassId) (ad : Nat → Nat → Nat) (f : Nat → Int32) (g : Nat → Int64) (o : Nat) : z_c C ad f g 13 o = .inl (C 0, 96, .inl f) := rfl
theorem z_c14 (C : Nat → ClassId) (ad : Nat → Nat → Nat) (f : Nat → Int32) (g : Nat → Int64) (o : Nat) : z_c C ad f g 14 o = .inr (3, [.int (f 0), .int (f 1), .int (f 2), .long (g 3), .int (f 4), .ref (ad 15 o), .ref (ad 18 o)]) := rfl
theorem z_c15 (C : Nat → ClassId) (ad : Nat → Nat → Nat) (f : Nat → Int32) (g : Nat → Int64) (o : Nat) : z_c C ad f g 15 o = .inr (2, [.ref (ad 16 o), .ref (ad 17 o), .int (f 2)]) := rfl
theorem z_c16 (C : Nat → ClassId) (ad : Nat → Nat → Nat) (f : Nat → Int32) (g : Nat → Int64) (o : Nat) : z_c C ad f g 16 o = .inl (C 1, 3, .inl f) := rfl
theorem z_c17 (C : Nat → ClassId) (ad : Nat → Nat → Nat) (f : Nat → Int32) (g : Nat → Int64) (o : Nat) : z_c C ad f g 17 o = .inl (C 2, 3, .inr (.inl g)) := rfl
theorem z_c18 (C : Nat → ClassId) (ad : Nat → Nat → Nat) (f : Nat → Int32) (g : Nat → Int64) (o : Nat) : z_c C ad f g 18 o = .inr (2, [.ref (ad 19 o), .ref (ad 20 o), .int (f 2)]) := rfl
theorem z_c19 (C : Nat → ClassId) (ad : Nat → Nat → Nat) (f : Nat → Int32) (g : Nat → Int64) (o : Nat) : z_c C ad f g 19 o = .inl (C 1, 3, .inl f) := rfl
theorem z_c20 (C : Nat → ClassId) (ad : Nat → Nat → Nat) (f : Nat → Int32) (g : Nat → Int64) (o : Nat) : z_c C ad f g 20 o = .inl (C 2, 3, .inr (.inl g)) := rfl
theorem z_c21 (C : Nat → ClassId) (ad : Nat → Nat → Nat) (f : Nat → Int32) (g : Nat → Int64) (o : Nat) : z_c C ad f g 21 o = .inr (6, [.ref (ad 22 0), .ref (ad 23 0), .ref (ad 24 0), .int (f 3), .ref (ad 25 0), .ref (ad 26 0), .ref (ad 27 0), .ref (ad 28 0), .ref (ad 29 0), .ref (ad 30 0), .ref (ad 31 0), .ref (ad 32 0), .ref (ad 33 0), .ref (ad 34 0), .int (f 14), .ref (ad 35 0), .ref (ad 36 0), .ref (ad 37 0), .ref (ad 38 0), .ref (ad 39 0), .int (f 20), .ref (ad 40 0), .ref (ad 41 0), .int (f 23)]) := rfl
theorem z_c22 (C : Nat → ClassId) (ad : Nat → Nat → Nat) (f : Nat → Int32) (g : Nat → Int64) (o : Nat) : z_c C ad f g 22 o = .inl (C 0, 1152, .inl f) := rfl
theorem z_c23 (C : Nat → ClassId) (ad : Nat → Nat → Nat) (f : Nat → Int32) (g : Nat → Int64) (o : Nat) : z_c C ad f g 23 o = .inl (C 0, 6, .inl f) := rfl
theorem z_c24 (C : Nat → ClassId) (ad : Nat → Nat → Nat) (f : Nat → Int32) (g : Nat → Int64) (o : Nat) : z_c C ad f g 24 o = .inl (C 1, 3, .inl f) := rfl
theorem z_c25 (C : Nat → ClassId) (ad : Nat → Nat → Nat) (f : Nat → Int32) (g : Nat → Int64) (o : Nat) : z_c C ad f g 25 o = .inl (C 0, 600, .inl f) := rfl
theorem z_c26 (C : Nat → ClassId) (ad : Nat → Nat → Nat) (f : Nat → Int32) (g : Nat → Int64) (o : Nat) : z_c C ad f g 26 o = .inl (C 0, 6, .inl f) := rfl
theorem z_c27 (C : Nat → ClassId) (ad : Nat → Nat → Nat) (f : Nat → Int32) (g : Nat → Int64) (o : Nat) : z_c C ad f g 27 o = .inl (C 0, 6, .inl f) := rfl
theorem z_c28 (C : Nat → ClassId) (ad : Nat → Nat → Nat) (f : Nat → Int32) (g : Nat → Int64) (o : Nat) : z_c C ad f g 28 o = .inl (C 0, 6, .inl f) := rfl
theorem z_c29 (C : Nat → ClassId) (ad : Nat → Nat → Nat) (f : Nat → Int32) (g : Nat → Int64) (o : Nat) : z_c C ad f g 29 o = .inl (C 2, 6, .inr (.inl g)) := rfl
theorem z_c30 (C : Nat → ClassId) (ad : Nat → Nat → Nat) (f : Nat → Int32) (g : Nat → Int64) (o : Nat) : z_c C ad f g 30 o = .inl (C 0, 6, .inl f) := rfl
theorem z_c31 (C : Nat → ClassId) (ad : Nat → Nat → Nat) (f : Nat → Int32) (g : Nat → Int64) (o : Nat) : z_c C ad f g 31 o = .inl (C 0, 6, .inl f) := rfl
theorem z_c32 (C : Nat → ClassId) (ad : Nat → Nat → Nat) (f : Nat → Int32) (g : Nat → Int64) (o : Nat) : z_c C ad f g 32 o = .inl (C 0, 6, .inl f) := rfl
theorem z_c33 (C : Nat → ClassId) (ad : Nat → Nat → Nat) (f : Nat → Int32) (g : Nat → Int64) (o : Nat) : z_c C ad f g 33 o = .inl (C 2, 18, .inr (.inl g)) := rfl
theorem z_c34 (C : Nat → ClassId) (ad : Nat → Nat → Nat) (f : Nat → Int32) (g : Nat → Int64) (o : Nat) : z_c C ad f g 34 o = .inl (C 0, 144, .inl f) := rfl
theorem z_c35 (C : Nat → ClassId) (ad : Nat → Nat → Nat) (f : Nat → Int32) (g : Nat → Int64) (o : Nat) : z_c C ad f g 35 o = .inl (C 0, 25, .inl f) := rfl
theorem z_c36 (C : Nat → ClassId) (ad : Nat → Nat → Nat) (f : Nat → Int32) (g : Nat → Int64) (o : Nat) : z_c C ad f g 36 o = .inl (C 0, 25, .inl f) := rfl
theorem z_c37 (C : Nat → ClassId) (ad : Nat → Nat → Nat) (f : Nat → Int32) (g : Nat → Int64) (o : Nat) : z_c C ad f g 37 o = .inl (C 0, 25, .inl f) := rfl
theorem z_c38 (C : Nat → ClassId) (ad : Nat → Nat → Nat) (f : Nat → Int32) (g : Nat → Int64) (o : Nat) : z_c C ad f g 38 o = .inl (C 2, 25, .inr (.inl g)) := rfl
theorem z_c39 (C : Nat → ClassId) (ad : Nat → Nat → Nat) (f : Nat → Int32) (g : Nat → Int64) (o : Nat) : z_c C ad f g 39 o = .inl (C 0, 200, .inl f) := rfl
theorem z_c40 (C : Nat → ClassId) (ad : Nat → Nat → Nat) (f : Nat → Int32) (g : Nat → Int64) (o : Nat) : z_c C ad f g 40 o = .inl (C 1, 48, .inl f) := rfl
theorem z_c41 (C : Nat → ClassId) (ad : Nat → Nat → Nat) (f : Nat → Int32) (g : Nat → Int64) (o : Nat) : z_c C ad f g 41 o = .inl (C 0, 3, .inl f) := rfl
def z_n (a : Nat) : Nat := cond (Nat.blt a 12) 1 (cond (Nat.blt a 14) 3 (cond (Nat.blt a 21) 6 (cond (Nat.blt a 42) 1 0)))
def z_A (ad : Nat → Nat → Nat) (q : Nat) : Prop := ∃ a o : Nat, o < z_n a ∧ q = ad a o
def z_J (ad : Nat → Nat → Nat) : Prop := ∀ a o a' o' : Nat, o < z_n a → o' < z_n a' → ad a o = ad a' o' → a = a' ∧ o = o'
def z_W (D : va_G) (C : Nat → ClassId) (ad : Nat → Nat → Nat) (S : z_S) (H : Heap) : Prop := ∀ a o : Nat, o < z_n a → va_at D z_cl (ad a o, z_c C ad (S.1 a o) (S.2 a o) a o) H
def z_G (D : va_G) (C : Nat → ClassId) (ad : Nat → Nat → Nat) (H0 : Heap) (S : z_S) (H : Heap) (locs : List Loc) : Prop := z_W D C ad S H ∧ va_S (z_A ad) H0 H locs
abbrev z_tys (C : Nat → ClassId) : List (ClassId × FieldType) := [(C 0, .int), (C 1, .boolean), (C 2, .long), (C 3, .object R_H), (C 4, .object R_P)]
abbrev z_F (D : va_G) (C : Nat → ClassId) (ad : Nat → Nat → Nat) (p : Program) (m : MethodId) (c : Code) (cc : ByteArray) (nL : Nat) (s : State) (args : Array Value) (own : String) : Prop := CallFix p m c cc nL s args z_T own ∧ va_K D z_cl (z_tys C) s ∧ z_J ad
theorem z_G.to {D : va_G} {C : Nat → ClassId} {ad : Nat → Nat → Nat} {H0 H : Heap} {S S' : z_S} {locs : List Loc} (h : z_G D C ad H0 S H locs) (e : S = S') : z_G D C ad H0 S' H locs := e ▸ h
def z_opt {α : Type} (o : Option Nat) (a : α) (b : Nat → α) : α := match o with
  | none => a
  | some i => b i
theorem z_opt_n {α : Type} {o : Option Nat} {a : α} {b : Nat → α} (h : o = none) : z_opt o a b = a := by subst h; rfl
theorem z_opt_s {α : Type} {o : Option Nat} {a : α} {b : Nat → α} {i : Nat} (h : o = some i) : z_opt o a b = b i := by subst h; rfl
/-- f i, then f (i + 1) .., n times -/
def z_it {α : Type} (f : Nat → α → α) : Nat → Nat → α → α
  | _, 0, x => x
  | k, n + 1, x => z_it f (k + 1) n (f k x)
theorem z_W.one {D : va_G} {C : Nat → ClassId} {ad : Nat → Nat → Nat} {S : z_S} {H : Heap} (h : z_W D C ad S H) {a o : Nat} (ho : o < z_n a) {x : va_E} (hc : z_c C ad (S.1 a o) (S.2 a o) a o = x) : va_P D z_cl [(ad a o, x)] H := by
  intro k q hq
  cases k with
  | zero => cases hq; rw [← hc]; exact h a o ho
  | succ k => cases hq
theorem z_W.put {D : va_G} {C : Nat → ClassId} {ad : Nat → Nat → Nat} {S S' : z_S} {H H1 : Heap} (h : z_W D C ad S H) (hJ : z_J ad) {a o : Nat} (ho : o < z_n a) (h1 : ∀ a' o' : Nat, ¬ (a' = a ∧ o' = o) → S'.1 a' o' = S.1 a' o' ∧ S'.2 a' o' = S.2 a' o') (hn : va_at D z_cl (ad a o, z_c C ad (S'.1 a o) (S'.2 a o) a o) H1) (oq : ∀ q : Nat, q ≠ ad a o → H1[q]? = H[q]?) : z_W D C ad S' H1 := by
  intro a' o' ho'
  by_cases e : a' = a ∧ o' = o
  · obtain ⟨rfl, rfl⟩ := e
    exact hn
  · obtain ⟨e1, e2⟩ := h1 a' o' e
    rw [e1, e2]
    exact (h a' o' ho').kept (oq _ (fun x => e (hJ a' o' a o ho' ho x)))
section ZW
variable {D : va_G} {C : Nat → ClassId} {ad : Nat → Nat → Nat} {S : z_S}
variable {p : Program} {l : Launch} {e : Env} {R : Room} {s : State} {m : MethodId} {args : Array Value} {below : List Frame} {meth : Method} {c : Code} {H H0 : Heap} {locs : List Loc} {cells slots : Nat} {Q : State → Prop}
variable {cc : ByteArray} {nL pc : Nat} {ls : Array Slot} {rest : List Value} {own : String}
theorem z_topi {x y : Int32} (h : x = y) (k : W p l e R s m args below meth c H locs cells slots Q (F0 m pc ls (.int y :: rest))) : W p l e R s m args below meth c H locs cells slots Q (F0 m pc ls (.int x :: rest)) := by subst h; exact k
theorem z_get {Cn : String} {T : u_T} {N ci index a o : Nat} {fs : List Value} (hF : z_F D C ad p m c cc nL s args own) (hG : z_G D C ad H0 S H locs) (ho : o < z_n a) (hc : z_c C ad (S.1 a o) (S.2 a o) a o = .inr (ci, fs)) (hcl : z_cl[ci]? = some (Cn, T, N)) (hin : ∀ w ∈ u_ws Cn T N, w ∈ z_T) (k : Nat) (hk : k < N) (hlink : Cond.fieldLink own index Cn (T k).2.1 (T k).2.2.1 ∈ z_T) (hT : (T k).1 = Cn) {v : Value} (hv : fs[k]? = some v) (hdg : decode cc pc = .ok (.getfield index, 3))
    (kk : W p l e R s m args below meth c H locs cells slots Q (F0 m (pc + 3) ls (v :: rest))) : W p l e R s m args below meth c H locs cells slots Q (F0 m pc ls (.ref (ad a o) :: rest)) :=
  va_get (ref := Cn) hF.1.1 hF.1.2.1 hF.1.2.2.2.2 hin hF.1.2.2.2.1 hF.2.1 (hG.1.one ho hc) 0 rfl hcl k hk (hF.1.2.2.2.2 _ hlink) (fun x h => by rw [hT] at h; exact h) hv hdg kk
/-- a field is written: the new contents S' differ at this cell alone -/
theorem z_put {Cn : String} {T : u_T} {N ci index a o : Nat} {fs : List Value} {S' : z_S} {v : Value} (hF : z_F D C ad p m c cc nL s args own) (hG : z_G D C ad H0 S H locs) (ho : o < z_n a) (hc : z_c C ad (S.1 a o) (S.2 a o) a o = .inr (ci, fs)) (hcl : z_cl[ci]? = some (Cn, T, N)) (hin : ∀ w ∈ u_ws Cn T N, w ∈ z_T) (ty0 : Nat → FieldType) (hty : ∀ k, k < N → parseFieldDescriptor (T k).2.2.1 = some (ty0 k)) (hnm : ∀ a, a < N → ∀ b, b < N → a ≠ b → (T a).2.1 ≠ (T b).2.1) (k : Nat) (hk : k < N) (hlink : Cond.fieldLink own index Cn (T k).2.1 (T k).2.2.1 ∈ z_T) (hT : (T k).1 = Cn) (hfin : (T k).2.2.2 = false) {ty : FieldType} (hd : parseFieldDescriptor (T k).2.2.1 = some ty) (hn : narrow ty v = v) (hfit : fits ty v = true) (hl : k < fs.length)
    (h1 : ∀ a' o' : Nat, ¬ (a' = a ∧ o' = o) → S'.1 a' o' = S.1 a' o' ∧ S'.2 a' o' = S.2 a' o') (hnew : z_c C ad (S'.1 a o) (S'.2 a o) a o = .inr (ci, fs.set k v)) (hdg : decode cc pc = .ok (.putfield index, 3))
    (kk : ∀ (H1 : Heap) (locs1 : List Loc), z_G D C ad H0 S' H1 locs1 → W p l e R s m args below meth c H1 locs1 cells slots Q (F0 m (pc + 3) ls rest)) : W p l e R s m args below meth c H locs cells slots Q (F0 m pc ls (v :: .ref (ad a o) :: rest)) := by
  obtain ⟨⟨hx, hb, hml, hown, hts⟩, hK, hJ⟩ := hF
  have hap := va_apart (own := own) hts hin ty0 hty hnm hK hcl
  obtain ⟨r, hr1, cell, q1, q2, q3, q4⟩ := hG.1.one ho hc 0 _ rfl
  have hr : r = (Cn, T, N) := Option.some.inj (hr1.symm.trans hcl)
  subst hr
  obtain ⟨hS, hfc, kC, hkC, hkind⟩ := hK.1 ci _ hcl
  obtain ⟨cf, kf, fi, f, hi, hsl⟩ := hS k hk
  have hlay := hts _ (hin _ (u_in_lay hk))
  unfold u_lay at hlay
  rw [if_neg (by rw [hfin]; decide)] at hlay
  have hst := (u_facts hfc hkC (u_lays hts hin hk) hi).1
  have h6 := u_store hfc hkC hkind hlay hi hd hn hfit
  refine W.putK hx hb (f := f) ⟨hown, hts _ hlink, ⟨_, _, _, by rw [hT] at hi; exact hi⟩, hst⟩ (by rw [q2]; exact h6) q1 q3 (by rw [hsl]; exact k2_hasslot (q4 k hk)) rfl rfl hdg fun H' e1 e2 e3 => ?_
  rw [hsl] at e1 ⊢
  refine kk H' _ ⟨hG.1.put hJ ho h1 ?_ e3, hG.2.put e2 e3 ⟨a, o, ho, rfl⟩⟩
  rw [hnew]
  exact ⟨_, hcl, t_OB.to (V := updV (vp_V fs) k v) ⟨_, e1, q2, q3, t_set q4 hap hk v⟩ (fun j _ => vp_updV_set hl v j)⟩
theorem z_iald {n a o j : Nat} {i v : Int32} (hF : z_F D C ad p m c cc nL s args own) (hG : z_G D C ad H0 S H locs) (ho : o < z_n a) (hc : z_c C ad (S.1 a o) (S.2 a o) a o = .inl (C 0, n, .inl (S.1 a o))) (hj : i.toNatClampNeg = j) (hin : vp_in i n) (hv : S.1 a o j = v) (hdg : decode cc pc = .ok (.iaload, 1))
    (kk : W p l e R s m args below meth c H locs cells slots Q (F0 m (pc + 1) ls (.int v :: rest))) : W p l e R s m args below meth c H locs cells slots Q (F0 m pc ls (.int i :: .ref (ad a o) :: rest)) := by
  subst hj; subst hv
  exact va_iald hF.1.1 hF.1.2.1 hF.2.1 (hG.1.one ho hc) 0 0 rfl rfl hin hdg kk
theorem z_zald {n a o j : Nat} {i v : Int32} (hF : z_F D C ad p m c cc nL s args own) (hG : z_G D C ad H0 S H locs) (ho : o < z_n a) (hc : z_c C ad (S.1 a o) (S.2 a o) a o = .inl (C 1, n, .inl (S.1 a o))) (hj : i.toNatClampNeg = j) (hin : vp_in i n) (hv : S.1 a o j = v) (hdg : decode cc pc = .ok (.baload, 1))
    (kk : W p l e R s m args below meth c H locs cells slots Q (F0 m (pc + 1) ls (.int v :: rest))) : W p l e R s m args below meth c H locs cells slots Q (F0 m pc ls (.int i :: .ref (ad a o) :: rest)) := by
  subst hj; subst hv
  exact va_zald hF.1.1 hF.1.2.1 hF.2.1 (hG.1.one ho hc) 0 1 rfl rfl hin hdg kk
theorem z_lald {n a o j : Nat} {i : Int32} {v : Int64} (hF : z_F D C ad p m c cc nL s args own) (hG : z_G D C ad H0 S H locs) (ho : o < z_n a) (hc : z_c C ad (S.1 a o) (S.2 a o) a o = .inl (C 2, n, .inr (.inl (S.2 a o)))) (hj : i.toNatClampNeg = j) (hin : vp_in i n) (hv : S.2 a o j = v) (hdg : decode cc pc = .ok (.laload, 1))
    (kk : W p l e R s m args below meth c H locs cells slots Q (F0 m (pc + 1) ls (.long v :: rest))) : W p l e R s m args below meth c H locs cells slots Q (F0 m pc ls (.int i :: .ref (ad a o) :: rest)) := by
  subst hj; subst hv
  exact va_lald hF.1.1 hF.1.2.1 hF.2.1 (hG.1.one ho hc) 0 2 rfl rfl hin hdg kk
theorem z_aald {n a o j t0 : Nat} {i : Int32} {v : Nat} {K : Nat} {Cn : String} {f : Nat → Option Nat} (hF : z_F D C ad p m c cc nL s args own) (hG : z_G D C ad H0 S H locs) (ho : o < z_n a) (hc : z_c C ad (S.1 a o) (S.2 a o) a o = .inl (C K, n, .inr (.inr (.inr (.inr f))))) (ht : (z_tys C)[t0]? = some (C K, .object Cn)) (hj : i.toNatClampNeg = j) (hin : vp_in i n) (hv : f j = some v) (hdg : decode cc pc = .ok (.aaload, 1))
    (kk : W p l e R s m args below meth c H locs cells slots Q (F0 m (pc + 1) ls (.ref v :: rest))) : W p l e R s m args below meth c H locs cells slots Q (F0 m pc ls (.int i :: .ref (ad a o) :: rest)) := by
  subst hj
  refine va_aldq hF.1.1 hF.1.2.1 hF.2.1 (hG.1.one ho hc) 0 t0 rfl ht hin hdg ?_
  rw [hv]
  exact kk
theorem z_iast {n a o j : Nat} {i x : Int32} (hF : z_F D C ad p m c cc nL s args own) (hG : z_G D C ad H0 S H locs) (ho : o < z_n a) (hc : ∀ f g, z_c C ad f g a o = .inl (C 0, n, .inl f)) (hj : i.toNatClampNeg = j) (hin : vp_in i n) (hdg : decode cc pc = .ok (.iastore, 1))
    (kk : ∀ (H1 : Heap) (locs1 : List Loc), z_G D C ad H0 (z_sI S a o j x) H1 locs1 → W p l e R s m args below meth c H1 locs1 cells slots Q (F0 m (pc + 1) ls rest)) : W p l e R s m args below meth c H locs cells slots Q (F0 m pc ls (.int x :: .int i :: .ref (ad a o) :: rest)) := by
  subst hj
  obtain ⟨⟨hx, hb, hml, hown, hts⟩, hK, hJ⟩ := hF
  have h0 := hG.1.one ho (hc _ _) 0 _ rfl
  refine W.iast hx hb h0 ((hK.2 0 _ rfl).1 n (fun j => .int (S.1 a o j))) (fun q => by cases q) (by show ¬ (i < 0 ∨ (arrV _ _ _).slots.size ≤ _); rw [arrV_size]; exact hin) rfl rfl hdg fun H1 e z oq => ?_
  refine kk H1 _ ⟨hG.1.put hJ ho (fun a' o' hne => ⟨z_sI_ne S a o _ x hne, rfl⟩) ?_ oq, hG.2.put z oq ⟨a, o, ho, rfl⟩⟩
  rw [hc, z_sI_at]
  show H1[ad a o]? = some (vp_cell _ _)
  rw [e]
  show some ((vp_cell (C 0) (n, .inl (S.1 a o))).setSlot _ _) = _
  rw [vp_cell_i, vp_cell_i, arrV_store]
  congr 2
  funext q
  by_cases hq : q = i.toNatClampNeg
  · subst hq
    simp [updV, upd]
  · simp [updV, upd, hq]
theorem z_zast {n a o j : Nat} {i x : Int32} (hF : z_F D C ad p m c cc nL s args own) (hG : z_G D C ad H0 S H locs) (ho : o < z_n a) (hc : ∀ f g, z_c C ad f g a o = .inl (C 1, n, .inl f)) (hj : i.toNatClampNeg = j) (hin : vp_in i n) (hn : narrow .boolean (.int x) = .int x) (hdg : decode cc pc = .ok (.bastore, 1))
    (kk : ∀ (H1 : Heap) (locs1 : List Loc), z_G D C ad H0 (z_sI S a o j x) H1 locs1 → W p l e R s m args below meth c H1 locs1 cells slots Q (F0 m (pc + 1) ls rest)) : W p l e R s m args below meth c H locs cells slots Q (F0 m pc ls (.int x :: .int i :: .ref (ad a o) :: rest)) := by
  subst hj
  obtain ⟨⟨hx, hb, hml, hown, hts⟩, hK, hJ⟩ := hF
  have h0 := hG.1.one ho (hc _ _) 0 _ rfl
  refine W.zast hx hb h0 ((hK.2 1 _ rfl).1 n (fun j => .int (S.1 a o j))) (fun q => by cases q) (by show ¬ (i < 0 ∨ (arrV _ _ _).slots.size ≤ _); rw [arrV_size]; exact hin) rfl rfl hdg fun H1 e z oq => ?_
  refine kk H1 _ ⟨hG.1.put hJ ho (fun a' o' hne => ⟨z_sI_ne S a o _ x hne, rfl⟩) ?_ oq, hG.2.put z oq ⟨a, o, ho, rfl⟩⟩
  rw [hc, z_sI_at]
  show H1[ad a o]? = some (vp_cell _ _)
  rw [e, hn]
  show some ((vp_cell (C 1) (n, .inl (S.1 a o))).setSlot _ _) = _
  rw [vp_cell_i, vp_cell_i, arrV_store]
  congr 2
  funext q
  by_cases hq : q = i.toNatClampNeg
  · subst hq
    simp [updV, upd]
  · simp [updV, upd, hq]
theorem z_last {n a o j : Nat} {i : Int32} {x : Int64} (hF : z_F D C ad p m c cc nL s args own) (hG : z_G D C ad H0 S H locs) (ho : o < z_n a) (hc : ∀ f g, z_c C ad f g a o = .inl (C 2, n, .inr (.inl g))) (hj : i.toNatClampNeg = j) (hin : vp_in i n) (hdg : decode cc pc = .ok (.lastore, 1))
    (kk : ∀ (H1 : Heap) (locs1 : List Loc), z_G D C ad H0 (z_sL S a o j x) H1 locs1 → W p l e R s m args below meth c H1 locs1 cells slots Q (F0 m (pc + 1) ls rest)) : W p l e R s m args below meth c H locs cells slots Q (F0 m pc ls (.long x :: .int i :: .ref (ad a o) :: rest)) := by
  subst hj
  obtain ⟨⟨hx, hb, hml, hown, hts⟩, hK, hJ⟩ := hF
  have h0 := hG.1.one ho (hc _ _) 0 _ rfl
  refine W.last hx hb h0 ((hK.2 2 _ rfl).1 n (fun j => .long (S.2 a o j))) (fun q => by cases q) (by show ¬ (i < 0 ∨ (arrV _ _ _).slots.size ≤ _); rw [arrV_size]; exact hin) rfl rfl hdg fun H1 e z oq => ?_
  refine kk H1 _ ⟨hG.1.put hJ ho (fun a' o' hne => ⟨rfl, z_sL_ne S a o _ x hne⟩) ?_ oq, hG.2.put z oq ⟨a, o, ho, rfl⟩⟩
  rw [hc, z_sL_at]
  show H1[ad a o]? = some (vp_cell _ _)
  rw [e]
  show some ((vp_cell (C 2) (n, .inr (.inl (S.2 a o)))).setSlot _ _) = _
  rw [vp_cell_l, vp_cell_l, arrV_store]
  congr 2
  funext q
  by_cases hq : q = i.toNatClampNeg
  · subst hq
    simp [updV, vp_updL]
  · simp [updV, vp_updL, hq]
end ZW
/-! Contracts over the whole world: from contents S a method with arguments av answers r and leaves contents S'. -/
def z_Pre (D : va_G) (C : Nat → ClassId) (ad : Nat → Nat → Nat) (S : z_S) (U : State) : Prop := z_W D C ad S U.heap ∧ va_K D z_cl (z_tys C) U
abbrev z_Qi (D : va_G) (C : Nat → ClassId) (ad : Nat → Nat → Nat) (r : Int32) (S' : z_S) : Array Value → State → Outcome → State → Prop := va_Qi (fun (r' : Int32) (u : z_S) => r' = r ∧ u = S') (fun u t => z_W D C ad u t.heap) (z_A ad)
abbrev z_Ql (D : va_G) (C : Nat → ClassId) (ad : Nat → Nat → Nat) (r : Int64) (S' : z_S) : Array Value → State → Outcome → State → Prop := va_Ql (fun (r' : Int64) (u : z_S) => r' = r ∧ u = S') (fun u t => z_W D C ad u t.heap) (z_A ad)
abbrev z_Qv (D : va_G) (C : Nat → ClassId) (ad : Nat → Nat → Nat) (S' : z_S) : Array Value → State → Outcome → State → Prop := va_Qv (fun (u : z_S) => u = S') (fun u t => z_W D C ad u t.heap) (z_A ad)
abbrev z_Qq (D : va_G) (C : Nat → ClassId) (ad : Nat → Nat → Nat) (r : Option Nat) (S' : z_S) : Array Value → State → Outcome → State → Prop := va_Qq (fun (r' : Option Nat) (u : z_S) => r' = r.map (ad 14) ∧ u = S') (fun u t => z_W D C ad u t.heap) (z_A ad)
abbrev z_M (l : Launch) (y : MethodName) (b : ByteArray) (n : Nat) (ret : Option FieldType) (rm : Room) (D : va_G) (C : Nat → ClassId) (ad : Nat → Nat → Nat) (av : List Value) (S : z_S) (Qc : Array Value → State → Outcome → State → Prop) : Prop := Met l y (z_ws y b n ret) rm (va_Pc av (z_Pre D C ad S)) Qc 0 0 (z_A ad)
theorem z_blind {D : va_G} {C : Nat → ClassId} {ad : Nat → Nat → Nat} {S : z_S} {av : List Value} : FrameBlind (va_Pc av (z_Pre D C ad S)) := fun a U g mk q => by
  obtain ⟨q0, q1, q2⟩ := q
  exact ⟨q0, q1, va_K.moved (u := U) (U := U.calling g mk a) (Vm.Alike.refl U.vm) q2⟩
theorem z_enter {l : Launch} {y : MethodName} {b : ByteArray} {n : Nat} {ret : Option FieldType} {rm : Room} {D : va_G} {C : Nat → ClassId} {ad : Nat → Nat → Nat} {av : List Value} {S : z_S} {Qc : Array Value → State → Outcome → State → Prop} (hy : plainName y.cls = true) (hav : (lg_sl av).length ≤ n) (hJ : z_J ad)
    (body : ∀ (p : Program) (e : Env) (s : State) (m : MethodId) (below : List Frame) (meth : Method) (c : Code) (ls : Array Slot), z_F D C ad p m c b n s av.toArray y.cls → meth.sig.returnType = ret → meth.locks = false → lv_has ls n (lv_args 0 av) → z_G D C ad s.heap S s.heap [] → W p l e rm s m av.toArray below meth c s.heap [] 0 0 (MQ below Qc av.toArray s 0 0 (z_A ad)) (F0 m 0 ls [])) : z_M l y b n ret rm D C ad av S Qc := by
  refine Met.ofW (cc := b) (maxL := n) (ret := ret) hy rfl ?_
  intro p e s m args below meth c s₁ B hml hv
  obtain ⟨rfl, hW, hK⟩ := hv
  have hts := atoms_spec (ws := z_ws y b n ret) B.pre
  have hown : s.vm.findClass y.cls = some m.cls := findClass_of_methodNamed B.named
  rw [lg_entry_eq]
  exact body p e s m below meth c _ ⟨⟨B.exec, B.bytes, hml, hown, fun w hw => hts w (List.mem_cons_of_mem _ hw)⟩, hK, hJ⟩ B.returns B.notSynchronized (lv_entry av hav) ⟨hW, va_S.rf⟩
section ZC
variable {D : va_G} {C : Nat → ClassId} {ad : Nat → Nat → Nat} {S : z_S}
variable {p : Program} {l : Launch} {e : Env} {R : Room} {s : State} {m : MethodId} {args : Array Value} {below : List Frame} {meth : Method} {c : Code} {H H0 : Heap} {locs : List Loc} {cells slots : Nat} {Q : State → Prop}
variable {cc : ByteArray} {nL pc : Nat} {ls : Array Slot} {rest : List Value} {own : String}
theorem z_iret {v r0 : Int32} {S0 : z_S} (hF : z_F D C ad p m c cc nL s args own) (hr : meth.sig.returnType = some .int) (hlk : meth.locks = false) (hG : z_G D C ad s.heap S H locs) (e1 : v = r0) (e2 : S = S0) (hdg : decode cc pc = .ok (.ireturn, 1)) : W p l e R s m args below meth c H locs 0 0 (MQ below (z_Qi D C ad r0 S0) args s 0 0 (z_A ad)) (F0 m pc ls [.int v]) :=
  W.iret hF.1.1 hF.1.2.1 hr (fun t ht _ => ⟨⟨v, S, rfl, ⟨e1, e2⟩, by show z_W D C ad S t.heap; rw [ht]; exact hG.1⟩, hG.2.F ht⟩) hG.2.2.2 hdg hlk
theorem z_zret {v r0 : Int32} {S0 : z_S} (hF : z_F D C ad p m c cc nL s args own) (hr : meth.sig.returnType = some .boolean) (hlk : meth.locks = false) (hn : narrow .boolean (.int v) = .int v) (hG : z_G D C ad s.heap S H locs) (e1 : v = r0) (e2 : S = S0) (hdg : decode cc pc = .ok (.ireturn, 1)) : W p l e R s m args below meth c H locs 0 0 (MQ below (z_Qi D C ad r0 S0) args s 0 0 (z_A ad)) (F0 m pc ls [.int v]) :=
  W.zret hF.1.1 hF.1.2.1 hr hn (fun t ht _ => ⟨⟨v, S, rfl, ⟨e1, e2⟩, by show z_W D C ad S t.heap; rw [ht]; exact hG.1⟩, hG.2.F ht⟩) hG.2.2.2 hdg hlk
theorem z_lret {v r0 : Int64} {S0 : z_S} (hF : z_F D C ad p m c cc nL s args own) (hr : meth.sig.returnType = some .long) (hlk : meth.locks = false) (hG : z_G D C ad s.heap S H locs) (e1 : v = r0) (e2 : S = S0) (hdg : decode cc pc = .ok (.lreturn, 1)) : W p l e R s m args below meth c H locs 0 0 (MQ below (z_Ql D C ad r0 S0) args s 0 0 (z_A ad)) (F0 m pc ls [.long v]) :=
  W.lret hF.1.1 hF.1.2.1 hr (fun t ht _ => ⟨⟨v, S, rfl, ⟨e1, e2⟩, by show z_W D C ad S t.heap; rw [ht]; exact hG.1⟩, hG.2.F ht⟩) hG.2.2.2 hdg hlk
theorem z_vret {S0 : z_S} (hF : z_F D C ad p m c cc nL s args own) (hr : meth.sig.returnType = none) (hlk : meth.locks = false) (hG : z_G D C ad s.heap S H locs) (e2 : S = S0) (hdg : decode cc pc = .ok (.return_, 1)) : W p l e R s m args below meth c H locs 0 0 (MQ below (z_Qv D C ad S0) args s 0 0 (z_A ad)) (F0 m pc ls []) :=
  W.vret hF.1.1 hF.1.2.1 hr (fun t ht _ => ⟨⟨S, rfl, e2, by show z_W D C ad S t.heap; rw [ht]; exact hG.1⟩, hG.2.F ht⟩) hG.2.2.2 hdg hlk
theorem z_qret {v : Value} {r0 : Option Nat} {S0 : z_S} {n : String} (hF : z_F D C ad p m c cc nL s args own) (hr : meth.sig.returnType = some (.object n)) (hlk : meth.locks = false) (hG : z_G D C ad s.heap S H locs) (e1 : v = va_rf (r0.map (ad 14))) (e2 : S = S0) (hdg : decode cc pc = .ok (.areturn, 1)) : W p l e R s m args below meth c H locs 0 0 (MQ below (z_Qq D C ad r0 S0) args s 0 0 (z_A ad)) (F0 m pc ls [v]) :=
  W.aret hF.1.1 hF.1.2.1 hr (Or.inl ⟨n, rfl⟩) (by rw [e1]; exact va_rf_or _) (fun t ht _ => ⟨⟨r0.map (ad 14), S, by rw [e1], ⟨rfl, e2⟩, by show z_W D C ad S t.heap; rw [ht]; exact hG.1⟩, hG.2.F ht⟩) hG.2.2.2 hdg hlk
variable {y : MethodName} {b : ByteArray} {n index : Nat} {ret : Option FieldType} {rm : Room} {Qc : Array Value → State → Outcome → State → Prop} {As : List Value} {st : List Value}
theorem z_runV {a o ci N : Nat} {fs : List Value} {T : u_T} (hF : z_F D C ad p m c cc nL s args own) (hM : z_M l y b n ret rm D C ad (.ref (ad a o) :: As) S Qc) (hG : z_G D C ad H0 S H locs) (ho : o < z_n a) (hc : z_c C ad (S.1 a o) (S.2 a o) a o = .inr (ci, fs)) (hcl : z_cl[ci]? = some (y.cls, T, N)) (hl : Cond.methodLink own index y ∈ z_T) (hi : Cond.instanceMethod y ∈ z_T) (hs : Cond.selects y.cls y y ∈ z_T) (hini : Cond.initialized y.cls ∈ z_T) (hcode : Cond.code y b n ret ∈ z_T) (hd : y.cls ≠ "java/lang/invoke/MethodHandle" ∧ y.cls ≠ "java/lang/invoke/VarHandle" ∧ (parseMethodDescriptor y.desc).map (fun d => d.parameters.length) = some As.length) (hrc : rm.cells = 0) (hrs : rm.slots = 0) (hR : rm.frames + 1 ≤ R.frames ∧ 8 + (n + 11) + rm.locals ≤ R.locals) (hcs : cells ≤ R.cells ∧ slots ≤ R.slots) (hsz : ls.size = nL) (hcat : (rest.map fun v => v.category).sum ≤ 8) (hst : st = As.reverse ++ .ref (ad a o) :: rest) (hdg : decode cc pc = .ok (.invokevirtual index, 3)) : va_Run p l e R s m args below meth c H locs cells slots 0 0 (F0 m pc ls st) rest (Qc (Value.ref (ad a o) :: As).toArray) (z_A ad) :=
  va_runV (Ts := z_T) (C := y.cls) hF.1 hM ⟨callB_of As.length hF.1.2.2.2.2 (z_good hcode) rfl hrc hrs (hF.1.2.2.2.2 _ hini) (hF.1.2.2.2.2 _ hl) hd hR, hF.1.2.2.2.2 _ hi, hF.1.2.2.2.2 _ hs⟩ ⟨z_blind, va_recv hF.2.1 (hG.1.one ho hc) hcl (q0 := 0) rfl, fun U hU hW => ⟨rfl, by rw [hU]; exact hG.1, va_K.moved hW.alike hF.2.1⟩⟩ rfl rfl hsz hst (lv_room hcat) hdg hcs
theorem z_runS (hF : z_F D C ad p m c cc nL s args own) (hM : z_M l y b n ret rm D C ad As S Qc) (hG : z_G D C ad H0 S H locs) (hl : Cond.methodLink own index y ∈ z_T) (hi : Cond.static y ∈ z_T) (hini : Cond.initialized y.cls ∈ z_T) (hcode : Cond.code y b n ret ∈ z_T) (hd : y.cls ≠ "java/lang/invoke/MethodHandle" ∧ y.cls ≠ "java/lang/invoke/VarHandle" ∧ (parseMethodDescriptor y.desc).map (fun d => d.parameters.length) = some As.length) (hrc : rm.cells = 0) (hrs : rm.slots = 0) (hR : rm.frames + 1 ≤ R.frames ∧ 8 + (n + 11) + rm.locals ≤ R.locals) (hcs : cells ≤ R.cells ∧ slots ≤ R.slots) (hsz : ls.size = nL) (hcat : (rest.map fun v => v.category).sum ≤ 8) (hst : st = As.reverse ++ rest) (hdg : decode cc pc = .ok (.invokestatic index, 3)) : va_Run p l e R s m args below meth c H locs cells slots 0 0 (F0 m pc ls st) rest (Qc As.toArray) (z_A ad) :=
  va_runS (Ts := z_T) hF.1 hM ⟨callB_of As.length hF.1.2.2.2.2 (z_good hcode) rfl hrc hrs (hF.1.2.2.2.2 _ hini) (hF.1.2.2.2.2 _ hl) hd hR, hF.1.2.2.2.2 _ hi⟩ ⟨z_blind, fun U hU hW => ⟨rfl, by rw [hU]; exact hG.1, va_K.moved hW.alike hF.2.1⟩⟩ rfl rfl hsz hst (lv_room hcat) hdg hcs
theorem z_ci {r : Int32} {S' : z_S} {a : Array Value} (hr : va_Run p l e R s m args below meth c H locs cells slots 0 0 (F0 m pc ls st) rest (z_Qi D C ad r S' a) (z_A ad)) (hG : z_G D C ad H0 S H locs) (kk : ∀ (H1 : Heap) (locs1 : List Loc), z_G D C ad H0 S' H1 locs1 → W p l e R s m args below meth c H1 locs1 cells slots Q (F0 m (pc + 3) ls (.int r :: rest))) : W p l e R s m args below meth c H locs cells slots Q (F0 m pc ls st) :=
  va_calli hr hG.2 (fun q _ h => h) (fun q h => h) (fun r u t H1 locs1 ht _ hw hB _ _ hS => by
    obtain ⟨rfl, rfl⟩ := hw
    exact kk H1 locs1 ⟨by rw [← ht]; exact hB, hS⟩)
theorem z_cj {r : Int64} {S' : z_S} {a : Array Value} (hr : va_Run p l e R s m args below meth c H locs cells slots 0 0 (F0 m pc ls st) rest (z_Ql D C ad r S' a) (z_A ad)) (hG : z_G D C ad H0 S H locs) (kk : ∀ (H1 : Heap) (locs1 : List Loc), z_G D C ad H0 S' H1 locs1 → W p l e R s m args below meth c H1 locs1 cells slots Q (F0 m (pc + 3) ls (.long r :: rest))) : W p l e R s m args below meth c H locs cells slots Q (F0 m pc ls st) :=
  va_calll hr hG.2 (fun q _ h => h) (fun q h => h) (fun r u t H1 locs1 ht _ hw hB _ _ hS => by
    obtain ⟨rfl, rfl⟩ := hw
    exact kk H1 locs1 ⟨by rw [← ht]; exact hB, hS⟩)
theorem z_cv {S' : z_S} {a : Array Value} (hr : va_Run p l e R s m args below meth c H locs cells slots 0 0 (F0 m pc ls st) rest (z_Qv D C ad S' a) (z_A ad)) (hG : z_G D C ad H0 S H locs) (kk : ∀ (H1 : Heap) (locs1 : List Loc), z_G D C ad H0 S' H1 locs1 → W p l e R s m args below meth c H1 locs1 cells slots Q (F0 m (pc + 3) ls rest)) : W p l e R s m args below meth c H locs cells slots Q (F0 m pc ls st) :=
  va_callv hr hG.2 (fun q _ h => h) (fun q h => h) (fun u t H1 locs1 ht _ hw hB _ _ hS => by
    subst hw
    exact kk H1 locs1 ⟨by rw [← ht]; exact hB, hS⟩)
theorem z_cq {r : Option Nat} {S' : z_S} {a : Array Value} (hr : va_Run p l e R s m args below meth c H locs cells slots 0 0 (F0 m pc ls st) rest (z_Qq D C ad r S' a) (z_A ad)) (hG : z_G D C ad H0 S H locs) (kk : ∀ (H1 : Heap) (locs1 : List Loc), z_G D C ad H0 S' H1 locs1 → W p l e R s m args below meth c H1 locs1 cells slots Q (F0 m (pc + 3) ls (va_rf (r.map (ad 14)) :: rest))) : W p l e R s m args below meth c H locs cells slots Q (F0 m pc ls st) :=
  va_callq hr hG.2 (fun q _ h => h) (fun q h => h) (fun r u t H1 locs1 ht _ hw hB _ _ hS => by
    obtain ⟨rfl, rfl⟩ := hw
    exact kk H1 locs1 ⟨by rw [← ht]; exact hB, hS⟩)
end ZC
theorem z_rI (S : z_S) (a o j : Nat) (v : Int32) (a' o' j' : Nat) : (z_sI S a o j v).1 a' o' j' = if a' = a ∧ o' = o ∧ j' = j then v else S.1 a' o' j' := by
  show cond (Nat.beq a' a) (cond (Nat.beq o' o) (cond (Nat.beq j' j) v (S.1 a' o' j')) (S.1 a' o' j')) (S.1 a' o' j') = _
  by_cases h1 : a' = a
  · by_cases h2 : o' = o
    · by_cases h3 : j' = j
      · rw [z_bt h1, z_bt h2, z_bt h3, if_pos ⟨h1, h2, h3⟩]; rfl
      · rw [z_bt h1, z_bt h2, z_bf h3, if_neg (fun h => h3 h.2.2)]; rfl
    · rw [z_bt h1, z_bf h2, if_neg (fun h => h2 h.2.1)]; rfl
  · rw [z_bf h1, if_neg (fun h => h1 h.1)]; rfl
theorem z_rL (S : z_S) (a o j : Nat) (v : Int64) (a' o' j' : Nat) : (z_sL S a o j v).2 a' o' j' = if a' = a ∧ o' = o ∧ j' = j then v else S.2 a' o' j' := by
  show cond (Nat.beq a' a) (cond (Nat.beq o' o) (cond (Nat.beq j' j) v (S.2 a' o' j')) (S.2 a' o' j')) (S.2 a' o' j') = _
  by_cases h1 : a' = a
  · by_cases h2 : o' = o
    · by_cases h3 : j' = j
      · rw [z_bt h1, z_bt h2, z_bt h3, if_pos ⟨h1, h2, h3⟩]; rfl
      · rw [z_bt h1, z_bt h2, z_bf h3, if_neg (fun h => h3 h.2.2)]; rfl
    · rw [z_bt h1, z_bf h2, if_neg (fun h => h2 h.2.1)]; rfl
  · rw [z_bf h1, if_neg (fun h => h1 h.1)]; rfl
theorem z_rIL (S : z_S) (a o j : Nat) (v : Int32) : (z_sI S a o j v).2 = S.2 := rfl
theorem z_rLI (S : z_S) (a o j : Nat) (v : Int64) : (z_sL S a o j v).1 = S.1 := rfl
theorem z_incN (k : Nat) : nI k + Int32.ofInt 1 = nI (k + 1) := nI_add k 1
theorem z_lt {i : Int32} {n : Nat} (h : vp_in i n) : i.toNatClampNeg < n := Nat.not_le.mp fun q => h (Or.inr q)
theorem z_inb {i : Int32} {n : Nat} (h0 : 0 ≤ i) (h : i < nI n) (hn : n < 2 ^ 31 := by decide) : vp_in i n := by
  rw [vp_in_iff]
  rw [Int32.le_iff_toInt_le, Int32.toInt_zero] at h0
  rw [Int32.lt_iff_toInt_lt, nI_toInt hn] at h
  exact ⟨h0, h⟩
theorem z_pred (N : Nat) : nI (N + 1) - 1 = nI N := by
  rw [nI_succ, Int32.add_sub_cancel]
theorem z_tab1_4 {x : Int32} (h1 : ¬ x = 1) (h2 : ¬ x = 2) (h3 : ¬ x = 3) (h4 : ¬ x = 4) : x.toInt < 1 ∨ 4 < x.toInt := by
  have n1 := lv_neT h1 (a := 1) rfl
  have n2 := lv_neT h2 (a := 2) rfl
  have n3 := lv_neT h3 (a := 3) rfl
  have n4 := lv_neT h4 (a := 4) rfl
  omega
theorem z_tab0_2 {x : Int32} (h1 : ¬ x = 0) (h2 : ¬ x = 1) (h3 : ¬ x = 2) : x.toInt < 0 ∨ 2 < x.toInt := by
  have n1 := lv_neT h1 (a := 0) rfl
  have n2 := lv_neT h2 (a := 1) rfl
  have n3 := lv_neT h3 (a := 2) rfl
  omega
theorem z_pla {d b : Nat} (hd : d < 6) (hb : b < 16) : vp_in (nI d * 16 + nI b) 96 := by
  show vp_in (nI d * nI 16 + nI b) 96
  rw [pk_mul, nI_add]
  exact vp_in_nI (by omega) (by decide)
theorem z_spG {x0 : Int32} {b j : Nat} (hd : vp_in x0 6) (hb : b < 16) (hj : j < 4) : vp_in (x0 * 16 + (nI b * 4 + nI j) / 4) 96 := by
  obtain ⟨d, hd', rfl⟩ := vp_in_of hd (by decide)
  have e : (nI b * 4 + nI j) / 4 = nI b := by
    show (nI b * nI 4 + nI j) / nI 4 = nI b
    rw [pk_mul, nI_add, pk_div (by omega) (by decide) (by decide)]
    exact congrArg nI (by omega)
  rw [e]
  exact z_pla hd' hb
theorem z_spA {x0 x1 : Int32} {j : Nat} (hd : vp_in x0 6) (hp : vp_in x1 8) (hj : j < 4) : vp_in (x0 * 16 + (x1 * 4 + nI j) / 4) 96 := by
  obtain ⟨b, hb, rfl⟩ := vp_in_of hp (by decide)
  exact z_spG hd (by omega) hj
theorem z_spB {x0 x1 : Int32} {j : Nat} (hd : vp_in x0 6) (hp : vp_in x1 8) (hj : j < 4) : vp_in (x0 * 16 + ((x1 + 8) * 4 + nI j) / 4) 96 := by
  obtain ⟨b, hb, rfl⟩ := vp_in_of hp (by decide)
  have e : nI b + 8 = nI (b + 8) := nI_add b 8
  rw [e]
  exact z_spG hd (by omega) hj
theorem z_sp3 {x1 x2 : Int32} (hp : vp_in x1 8) (hq : x2.toInt ≤ 16) : x2 ≤ x1 + 8 + 8 := by
  obtain ⟨b, hb, rfl⟩ := vp_in_of hp (by decide)
  have e : nI b + 8 + 8 = nI (b + 16) := by
    show nI b + nI 8 + nI 8 = _
    rw [nI_add, nI_add]
  rw [e, Int32.le_iff_toInt_le, nI_toInt (by omega)]
  omega
theorem z_spa0 {x0 x1 : Int32} (hd : vp_in x0 6) (hp : vp_in x1 8) : vp_in (x0 * 16 + (x1 * 4 + 0) / 4) 96 := z_spA (j := 0) hd hp (by decide)
theorem z_spa1 {x0 x1 : Int32} (hd : vp_in x0 6) (hp : vp_in x1 8) : vp_in (x0 * 16 + (x1 * 4 + 1) / 4) 96 := z_spA (j := 1) hd hp (by decide)
theorem z_spa2 {x0 x1 : Int32} (hd : vp_in x0 6) (hp : vp_in x1 8) : vp_in (x0 * 16 + (x1 * 4 + 2) / 4) 96 := z_spA (j := 2) hd hp (by decide)
theorem z_spa3 {x0 x1 : Int32} (hd : vp_in x0 6) (hp : vp_in x1 8) : vp_in (x0 * 16 + (x1 * 4 + 3) / 4) 96 := z_spA (j := 3) hd hp (by decide)
theorem z_spb0 {x0 x1 : Int32} (hd : vp_in x0 6) (hp : vp_in x1 8) : vp_in (x0 * 16 + ((x1 + 8) * 4 + 0) / 4) 96 := z_spB (j := 0) hd hp (by decide)
theorem z_spb1 {x0 x1 : Int32} (hd : vp_in x0 6) (hp : vp_in x1 8) : vp_in (x0 * 16 + ((x1 + 8) * 4 + 1) / 4) 96 := z_spB (j := 1) hd hp (by decide)
theorem z_spb2 {x0 x1 : Int32} (hd : vp_in x0 6) (hp : vp_in x1 8) : vp_in (x0 * 16 + ((x1 + 8) * 4 + 2) / 4) 96 := z_spB (j := 2) hd hp (by decide)
theorem z_spb3 {x0 x1 : Int32} (hd : vp_in x0 6) (hp : vp_in x1 8) : vp_in (x0 * 16 + ((x1 + 8) * 4 + 3) / 4) 96 := z_spB (j := 3) hd hp (by decide)
end
