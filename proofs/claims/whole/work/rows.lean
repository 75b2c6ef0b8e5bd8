section
-- ===== PART A: goes FIRST, ahead of the names: the tables' words, and 'selects' of the private methods out of them =====
/-- a private method of a class that the tables say can be made, by its rows of tables_1 -/
def lw_okq (q : MethodName × Nat) : Prop := (q.1.cls ≠ "java/lang/invoke/MethodHandle" ∧ q.1.cls ≠ "java/lang/invoke/VarHandle") ∧ Cond.instantiable q.1.cls q.2 ∈ tables_1 ∧ Cond.privateMethod q.1 ∈ tables_1 ∧ Cond.instanceMethod q.1 ∈ tables_1
theorem lw_p0 : lw_okq (⟨"PolledHouses", "allHousesOpen", "()Z"⟩, 8) := ⟨⟨by decide +kernel, by decide +kernel⟩, List.mem_of_getElem? (i := 10) (by decide +kernel), List.mem_of_getElem? (i := 172) (by decide +kernel), List.mem_of_getElem? (i := 173) (by decide +kernel)⟩
theorem lw_p1 : lw_okq (⟨"PolledHouses", "isByte", "(II)Z"⟩, 8) := ⟨⟨by decide +kernel, by decide +kernel⟩, List.mem_of_getElem? (i := 10) (by decide +kernel), List.mem_of_getElem? (i := 201) (by decide +kernel), List.mem_of_getElem? (i := 202) (by decide +kernel)⟩
theorem lw_p2 : lw_okq (⟨"PolledHouses", "freePlace", "()LPolledHouses$Poll;"⟩, 8) := ⟨⟨by decide +kernel, by decide +kernel⟩, List.mem_of_getElem? (i := 10) (by decide +kernel), List.mem_of_getElem? (i := 231) (by decide +kernel), List.mem_of_getElem? (i := 232) (by decide +kernel)⟩
theorem lw_p3 : lw_okq (⟨"PolledHouses", "sendToAwaited", "(LPolledHouses$Poll;)I"⟩, 8) := ⟨⟨by decide +kernel, by decide +kernel⟩, List.mem_of_getElem? (i := 10) (by decide +kernel), List.mem_of_getElem? (i := 243) (by decide +kernel), List.mem_of_getElem? (i := 244) (by decide +kernel)⟩
theorem lw_p4 : lw_okq (⟨"PolledHouses", "isPoll", "(I)Z"⟩, 8) := ⟨⟨by decide +kernel, by decide +kernel⟩, List.mem_of_getElem? (i := 10) (by decide +kernel), List.mem_of_getElem? (i := 259) (by decide +kernel), List.mem_of_getElem? (i := 260) (by decide +kernel)⟩
theorem lw_p5 : lw_okq (⟨"PolledHouses", "runningPoll", "(I)LPolledHouses$Poll;"⟩, 8) := ⟨⟨by decide +kernel, by decide +kernel⟩, List.mem_of_getElem? (i := 10) (by decide +kernel), List.mem_of_getElem? (i := 263) (by decide +kernel), List.mem_of_getElem? (i := 264) (by decide +kernel)⟩
theorem lw_p6 : lw_okq (⟨"PolledHouses", "arrive", "(LPolledHouses$Poll;IIJ)V"⟩, 8) := ⟨⟨by decide +kernel, by decide +kernel⟩, List.mem_of_getElem? (i := 10) (by decide +kernel), List.mem_of_getElem? (i := 275) (by decide +kernel), List.mem_of_getElem? (i := 276) (by decide +kernel)⟩
theorem lw_p7 : lw_okq (⟨"PolledHouses", "answerAsk", "(LPolledHouses$Poll;I)V"⟩, 8) := ⟨⟨by decide +kernel, by decide +kernel⟩, List.mem_of_getElem? (i := 10) (by decide +kernel), List.mem_of_getElem? (i := 279) (by decide +kernel), List.mem_of_getElem? (i := 280) (by decide +kernel)⟩
theorem lw_p8 : lw_okq (⟨"PolledHouses", "takeSum", "(LPolledHouses$Poll;IJ)V"⟩, 8) := ⟨⟨by decide +kernel, by decide +kernel⟩, List.mem_of_getElem? (i := 10) (by decide +kernel), List.mem_of_getElem? (i := 283) (by decide +kernel), List.mem_of_getElem? (i := 284) (by decide +kernel)⟩
theorem lw_p9 : lw_okq (⟨"PolledHouses", "finish", "(LPolledHouses$Poll;I)V"⟩, 8) := ⟨⟨by decide +kernel, by decide +kernel⟩, List.mem_of_getElem? (i := 10) (by decide +kernel), List.mem_of_getElem? (i := 295) (by decide +kernel), List.mem_of_getElem? (i := 296) (by decide +kernel)⟩
theorem lw_p10 : lw_okq (⟨"PolledHouses", "answerFetch", "(LPolledHouses$Poll;I)V"⟩, 8) := ⟨⟨by decide +kernel, by decide +kernel⟩, List.mem_of_getElem? (i := 10) (by decide +kernel), List.mem_of_getElem? (i := 314) (by decide +kernel), List.mem_of_getElem? (i := 315) (by decide +kernel)⟩
theorem lw_p11 : lw_okq (⟨"PolledHouses", "takeCopy", "(LPolledHouses$Poll;IJ)V"⟩, 8) := ⟨⟨by decide +kernel, by decide +kernel⟩, List.mem_of_getElem? (i := 10) (by decide +kernel), List.mem_of_getElem? (i := 323) (by decide +kernel), List.mem_of_getElem? (i := 324) (by decide +kernel)⟩
theorem lw_p12 : lw_okq (⟨"PolledHouses", "decide", "(LPolledHouses$Poll;)I"⟩, 8) := ⟨⟨by decide +kernel, by decide +kernel⟩, List.mem_of_getElem? (i := 10) (by decide +kernel), List.mem_of_getElem? (i := 327) (by decide +kernel), List.mem_of_getElem? (i := 328) (by decide +kernel)⟩
theorem lw_p13 : lw_okq (⟨"PolledHouses", "areCopiesCurrent", "(LPolledHouses$Poll;)Z"⟩, 8) := ⟨⟨by decide +kernel, by decide +kernel⟩, List.mem_of_getElem? (i := 10) (by decide +kernel), List.mem_of_getElem? (i := 339) (by decide +kernel), List.mem_of_getElem? (i := 340) (by decide +kernel)⟩
theorem lw_p14 : lw_okq (⟨"PolledHouses", "mendBlock", "(LPolledHouses$Poll;I)V"⟩, 8) := ⟨⟨by decide +kernel, by decide +kernel⟩, List.mem_of_getElem? (i := 10) (by decide +kernel), List.mem_of_getElem? (i := 343) (by decide +kernel), List.mem_of_getElem? (i := 344) (by decide +kernel)⟩
theorem lw_p15 : lw_okq (⟨"PolledHousesModel", "blocksOf", "(I)I"⟩, 24) := ⟨⟨by decide +kernel, by decide +kernel⟩, List.mem_of_getElem? (i := 405) (by decide +kernel), List.mem_of_getElem? (i := 492) (by decide +kernel), List.mem_of_getElem? (i := 493) (by decide +kernel)⟩
def lw_privs_1 : List (MethodName × Nat) := [(⟨"PolledHouses", "allHousesOpen", "()Z"⟩, 8), (⟨"PolledHouses", "isByte", "(II)Z"⟩, 8), (⟨"PolledHouses", "freePlace", "()LPolledHouses$Poll;"⟩, 8), (⟨"PolledHouses", "sendToAwaited", "(LPolledHouses$Poll;)I"⟩, 8), (⟨"PolledHouses", "isPoll", "(I)Z"⟩, 8), (⟨"PolledHouses", "runningPoll", "(I)LPolledHouses$Poll;"⟩, 8), (⟨"PolledHouses", "arrive", "(LPolledHouses$Poll;IIJ)V"⟩, 8), (⟨"PolledHouses", "answerAsk", "(LPolledHouses$Poll;I)V"⟩, 8), (⟨"PolledHouses", "takeSum", "(LPolledHouses$Poll;IJ)V"⟩, 8), (⟨"PolledHouses", "finish", "(LPolledHouses$Poll;I)V"⟩, 8), (⟨"PolledHouses", "answerFetch", "(LPolledHouses$Poll;I)V"⟩, 8), (⟨"PolledHouses", "takeCopy", "(LPolledHouses$Poll;IJ)V"⟩, 8), (⟨"PolledHouses", "decide", "(LPolledHouses$Poll;)I"⟩, 8), (⟨"PolledHouses", "areCopiesCurrent", "(LPolledHouses$Poll;)Z"⟩, 8), (⟨"PolledHouses", "mendBlock", "(LPolledHouses$Poll;I)V"⟩, 8), (⟨"PolledHousesModel", "blocksOf", "(I)I"⟩, 24)]
theorem lw_r1 : ∀ q ∈ lw_privs_1, lw_okq q := List.forall_mem_cons.mpr ⟨lw_p0, List.forall_mem_cons.mpr ⟨lw_p1, List.forall_mem_cons.mpr ⟨lw_p2, List.forall_mem_cons.mpr ⟨lw_p3, List.forall_mem_cons.mpr ⟨lw_p4, List.forall_mem_cons.mpr ⟨lw_p5, List.forall_mem_cons.mpr ⟨lw_p6, List.forall_mem_cons.mpr ⟨lw_p7, List.forall_mem_cons.mpr ⟨lw_p8, List.forall_mem_cons.mpr ⟨lw_p9, List.forall_mem_cons.mpr ⟨lw_p10, List.forall_mem_cons.mpr ⟨lw_p11, List.forall_mem_cons.mpr ⟨lw_p12, List.forall_mem_cons.mpr ⟨lw_p13, List.forall_mem_cons.mpr ⟨lw_p14, List.forall_mem_cons.mpr ⟨lw_p15, fun _ h => absurd h List.not_mem_nil⟩⟩⟩⟩⟩⟩⟩⟩⟩⟩⟩⟩⟩⟩⟩⟩
theorem lw_p16 : lw_okq (⟨"PolledHousesModel", "isByte", "(III)Z"⟩, 24) := ⟨⟨by decide +kernel, by decide +kernel⟩, List.mem_of_getElem? (i := 405) (by decide +kernel), List.mem_of_getElem? (i := 500) (by decide +kernel), List.mem_of_getElem? (i := 501) (by decide +kernel)⟩
theorem lw_p17 : lw_okq (⟨"PolledHousesModel", "sizeOf", "(II)I"⟩, 24) := ⟨⟨by decide +kernel, by decide +kernel⟩, List.mem_of_getElem? (i := 405) (by decide +kernel), List.mem_of_getElem? (i := 515) (by decide +kernel), List.mem_of_getElem? (i := 516) (by decide +kernel)⟩
theorem lw_p18 : lw_okq (⟨"PolledHousesModel", "isLetter", "(I)Z"⟩, 24) := ⟨⟨by decide +kernel, by decide +kernel⟩, List.mem_of_getElem? (i := 405) (by decide +kernel), List.mem_of_getElem? (i := 527) (by decide +kernel), List.mem_of_getElem? (i := 528) (by decide +kernel)⟩
theorem lw_p19 : lw_okq (⟨"PolledHousesModel", "leave", "(I)V"⟩, 24) := ⟨⟨by decide +kernel, by decide +kernel⟩, List.mem_of_getElem? (i := 405) (by decide +kernel), List.mem_of_getElem? (i := 531) (by decide +kernel), List.mem_of_getElem? (i := 532) (by decide +kernel)⟩
theorem lw_p20 : lw_okq (⟨"PolledHousesModel", "copyLetter", "(II)V"⟩, 24) := ⟨⟨by decide +kernel, by decide +kernel⟩, List.mem_of_getElem? (i := 405) (by decide +kernel), List.mem_of_getElem? (i := 535) (by decide +kernel), List.mem_of_getElem? (i := 536) (by decide +kernel)⟩
theorem lw_p21 : lw_okq (⟨"PolledHousesModel", "come", "(III)I"⟩, 24) := ⟨⟨by decide +kernel, by decide +kernel⟩, List.mem_of_getElem? (i := 405) (by decide +kernel), List.mem_of_getElem? (i := 555) (by decide +kernel), List.mem_of_getElem? (i := 556) (by decide +kernel)⟩
theorem lw_p22 : lw_okq (⟨"PolledHousesModel", "placeOf", "(I)I"⟩, 24) := ⟨⟨by decide +kernel, by decide +kernel⟩, List.mem_of_getElem? (i := 405) (by decide +kernel), List.mem_of_getElem? (i := 563) (by decide +kernel), List.mem_of_getElem? (i := 564) (by decide +kernel)⟩
theorem lw_p23 : lw_okq (⟨"PolledHousesModel", "takeSum", "(IIJ)V"⟩, 24) := ⟨⟨by decide +kernel, by decide +kernel⟩, List.mem_of_getElem? (i := 405) (by decide +kernel), List.mem_of_getElem? (i := 571) (by decide +kernel), List.mem_of_getElem? (i := 572) (by decide +kernel)⟩
theorem lw_p24 : lw_okq (⟨"PolledHousesModel", "end", "(II)V"⟩, 24) := ⟨⟨by decide +kernel, by decide +kernel⟩, List.mem_of_getElem? (i := 405) (by decide +kernel), List.mem_of_getElem? (i := 575) (by decide +kernel), List.mem_of_getElem? (i := 576) (by decide +kernel)⟩
theorem lw_p25 : lw_okq (⟨"PolledHousesModel", "count", "(Z)I"⟩, 24) := ⟨⟨by decide +kernel, by decide +kernel⟩, List.mem_of_getElem? (i := 405) (by decide +kernel), List.mem_of_getElem? (i := 579) (by decide +kernel), List.mem_of_getElem? (i := 580) (by decide +kernel)⟩
theorem lw_p26 : lw_okq (⟨"PolledHousesModel", "takeCopy", "(II)V"⟩, 24) := ⟨⟨by decide +kernel, by decide +kernel⟩, List.mem_of_getElem? (i := 405) (by decide +kernel), List.mem_of_getElem? (i := 583) (by decide +kernel), List.mem_of_getElem? (i := 584) (by decide +kernel)⟩
theorem lw_p27 : lw_okq (⟨"PolledHousesModel", "decide", "(I)V"⟩, 24) := ⟨⟨by decide +kernel, by decide +kernel⟩, List.mem_of_getElem? (i := 405) (by decide +kernel), List.mem_of_getElem? (i := 587) (by decide +kernel), List.mem_of_getElem? (i := 588) (by decide +kernel)⟩
theorem lw_p28 : lw_okq (⟨"PolledHousesModel", "alike", "(IIII)Z"⟩, 24) := ⟨⟨by decide +kernel, by decide +kernel⟩, List.mem_of_getElem? (i := 405) (by decide +kernel), List.mem_of_getElem? (i := 591) (by decide +kernel), List.mem_of_getElem? (i := 592) (by decide +kernel)⟩
theorem lw_p29 : lw_okq (⟨"PolledHousesModel", "isAsCopied", "(III)Z"⟩, 24) := ⟨⟨by decide +kernel, by decide +kernel⟩, List.mem_of_getElem? (i := 405) (by decide +kernel), List.mem_of_getElem? (i := 595) (by decide +kernel), List.mem_of_getElem? (i := 596) (by decide +kernel)⟩
theorem lw_p30 : lw_okq (⟨"PolledHousesModel", "byteAt", "(III)I"⟩, 24) := ⟨⟨by decide +kernel, by decide +kernel⟩, List.mem_of_getElem? (i := 405) (by decide +kernel), List.mem_of_getElem? (i := 599) (by decide +kernel), List.mem_of_getElem? (i := 600) (by decide +kernel)⟩
theorem lw_p31 : lw_okq (⟨"PolledHousesModel", "mend", "(IIII)V"⟩, 24) := ⟨⟨by decide +kernel, by decide +kernel⟩, List.mem_of_getElem? (i := 405) (by decide +kernel), List.mem_of_getElem? (i := 603) (by decide +kernel), List.mem_of_getElem? (i := 604) (by decide +kernel)⟩
def lw_privs_2 : List (MethodName × Nat) := [(⟨"PolledHousesModel", "isByte", "(III)Z"⟩, 24), (⟨"PolledHousesModel", "sizeOf", "(II)I"⟩, 24), (⟨"PolledHousesModel", "isLetter", "(I)Z"⟩, 24), (⟨"PolledHousesModel", "leave", "(I)V"⟩, 24), (⟨"PolledHousesModel", "copyLetter", "(II)V"⟩, 24), (⟨"PolledHousesModel", "come", "(III)I"⟩, 24), (⟨"PolledHousesModel", "placeOf", "(I)I"⟩, 24), (⟨"PolledHousesModel", "takeSum", "(IIJ)V"⟩, 24), (⟨"PolledHousesModel", "end", "(II)V"⟩, 24), (⟨"PolledHousesModel", "count", "(Z)I"⟩, 24), (⟨"PolledHousesModel", "takeCopy", "(II)V"⟩, 24), (⟨"PolledHousesModel", "decide", "(I)V"⟩, 24), (⟨"PolledHousesModel", "alike", "(IIII)Z"⟩, 24), (⟨"PolledHousesModel", "isAsCopied", "(III)Z"⟩, 24), (⟨"PolledHousesModel", "byteAt", "(III)I"⟩, 24), (⟨"PolledHousesModel", "mend", "(IIII)V"⟩, 24)]
theorem lw_r2 : ∀ q ∈ lw_privs_2, lw_okq q := List.forall_mem_cons.mpr ⟨lw_p16, List.forall_mem_cons.mpr ⟨lw_p17, List.forall_mem_cons.mpr ⟨lw_p18, List.forall_mem_cons.mpr ⟨lw_p19, List.forall_mem_cons.mpr ⟨lw_p20, List.forall_mem_cons.mpr ⟨lw_p21, List.forall_mem_cons.mpr ⟨lw_p22, List.forall_mem_cons.mpr ⟨lw_p23, List.forall_mem_cons.mpr ⟨lw_p24, List.forall_mem_cons.mpr ⟨lw_p25, List.forall_mem_cons.mpr ⟨lw_p26, List.forall_mem_cons.mpr ⟨lw_p27, List.forall_mem_cons.mpr ⟨lw_p28, List.forall_mem_cons.mpr ⟨lw_p29, List.forall_mem_cons.mpr ⟨lw_p30, List.forall_mem_cons.mpr ⟨lw_p31, fun _ h => absurd h List.not_mem_nil⟩⟩⟩⟩⟩⟩⟩⟩⟩⟩⟩⟩⟩⟩⟩⟩
theorem lw_p32 : lw_okq (⟨"PolledHousesModel", "answer", "(III)V"⟩, 24) := ⟨⟨by decide +kernel, by decide +kernel⟩, List.mem_of_getElem? (i := 405) (by decide +kernel), List.mem_of_getElem? (i := 607) (by decide +kernel), List.mem_of_getElem? (i := 608) (by decide +kernel)⟩
def lw_privs_3 : List (MethodName × Nat) := [(⟨"PolledHousesModel", "answer", "(III)V"⟩, 24)]
theorem lw_r3 : ∀ q ∈ lw_privs_3, lw_okq q := List.forall_mem_cons.mpr ⟨lw_p32, fun _ h => absurd h List.not_mem_nil⟩
def lw_privs : List (MethodName × Nat) := lw_privs_1 ++ (lw_privs_2 ++ (lw_privs_3))
def lw_tbl : List Cond := k2_sels lw_privs ++ tables_1
theorem lw_privs_ok : ∀ q ∈ lw_privs, lw_okq q := by
  show ∀ q ∈ lw_privs_1 ++ (lw_privs_2 ++ (lw_privs_3)), lw_okq q
  exact List.forall_mem_append.mpr ⟨lw_r1, List.forall_mem_append.mpr ⟨lw_r2, lw_r3⟩⟩
end
section
def R_X : String := "PolledHouses"
def F_X : u_T := fun k => match k with
  | 0 => ("PolledHouses", "houses", "[LPolledHouses$House;", true)
  | 1 => ("PolledHouses", "blockCounts", "[I", true)
  | 2 => ("PolledHouses", "row", "LPolledHouses$Row;", true)
  | 3 => ("PolledHouses", "places", "[LPolledHouses$Poll;", true)
  | 4 => ("PolledHouses", "results", "[I", true)
  | 5 => ("PolledHouses", "rounds", "LPolledHouses$Rounds;", true)
  | 6 => ("PolledHouses", "pollCount", "I", false)
  | _ => ("PolledHouses", "disputeCount", "I", false)
def t_X : Nat → FieldType := fun k => match k with
  | 0 => .array (.object "PolledHouses$House")
  | 1 => .array (.int)
  | 2 => .object "PolledHouses$Row"
  | 3 => .array (.object "PolledHouses$Poll")
  | 4 => .array (.int)
  | 5 => .object "PolledHouses$Rounds"
  | 6 => .int
  | _ => .int
theorem n_X : ∀ a, a < 8 → ∀ b, b < 8 → a ≠ b → (F_X a).2.1 ≠ (F_X b).2.1 := by decide +kernel
theorem t_X_ok : ∀ k, k < 8 → parseFieldDescriptor (F_X k).2.2.1 = some (t_X k) := by decide +kernel
def R_H : String := "PolledHouses$House"
def F_H : u_T := fun k => match k with
  | 0 => ("PolledHouses$House", "isOpen", "Z", false)
  | 1 => ("PolledHouses$House", "mendCount", "I", false)
  | _ => ("PolledHouses$House", "words", "[I", true)
def t_H : Nat → FieldType := fun k => match k with
  | 0 => .boolean
  | 1 => .int
  | _ => .array (.int)
theorem n_H : ∀ a, a < 3 → ∀ b, b < 3 → a ≠ b → (F_H a).2.1 ≠ (F_H b).2.1 := by decide +kernel
theorem t_H_ok : ∀ k, k < 3 → parseFieldDescriptor (F_H k).2.2.1 = some (t_H k) := by decide +kernel
def R_A : String := "PolledHouses$Answers"
def F_A : u_T := fun k => match k with
  | 0 => ("PolledHouses$Answers", "isKnown", "[Z", true)
  | 1 => ("PolledHouses$Answers", "values", "[J", true)
  | _ => ("PolledHouses$Answers", "count", "I", false)
def t_A : Nat → FieldType := fun k => match k with
  | 0 => .array (.boolean)
  | 1 => .array (.long)
  | _ => .int
theorem n_A : ∀ a, a < 3 → ∀ b, b < 3 → a ≠ b → (F_A a).2.1 ≠ (F_A b).2.1 := by decide +kernel
theorem t_A_ok : ∀ k, k < 3 → parseFieldDescriptor (F_A k).2.2.1 = some (t_A k) := by decide +kernel
def R_P : String := "PolledHouses$Poll"
def F_P : u_T := fun k => match k with
  | 0 => ("PolledHouses$Poll", "number", "I", false)
  | 1 => ("PolledHouses$Poll", "deposit", "I", false)
  | 2 => ("PolledHouses$Poll", "part", "I", false)
  | 3 => ("PolledHouses$Poll", "nonce", "J", false)
  | 4 => ("PolledHouses$Poll", "startedIn", "I", false)
  | 5 => ("PolledHouses$Poll", "sums", "LPolledHouses$Answers;", true)
  | _ => ("PolledHouses$Poll", "copies", "LPolledHouses$Answers;", true)
def t_P : Nat → FieldType := fun k => match k with
  | 0 => .int
  | 1 => .int
  | 2 => .int
  | 3 => .long
  | 4 => .int
  | 5 => .object "PolledHouses$Answers"
  | _ => .object "PolledHouses$Answers"
theorem n_P : ∀ a, a < 7 → ∀ b, b < 7 → a ≠ b → (F_P a).2.1 ≠ (F_P b).2.1 := by decide +kernel
theorem t_P_ok : ∀ k, k < 7 → parseFieldDescriptor (F_P k).2.2.1 = some (t_P k) := by decide +kernel
def R_R : String := "PolledHouses$Row"
def F_R : u_T := fun k => match k with
  | 0 => ("PolledHouses$Row", "kinds", "[I", true)
  | 1 => ("PolledHouses$Row", "polls", "[I", true)
  | 2 => ("PolledHouses$Row", "houses", "[I", true)
  | 3 => ("PolledHouses$Row", "contents", "[J", true)
  | _ => ("PolledHouses$Row", "count", "I", false)
def t_R : Nat → FieldType := fun k => match k with
  | 0 => .array (.int)
  | 1 => .array (.int)
  | 2 => .array (.int)
  | 3 => .array (.long)
  | _ => .int
theorem n_R : ∀ a, a < 5 → ∀ b, b < 5 → a ≠ b → (F_R a).2.1 ≠ (F_R b).2.1 := by decide +kernel
theorem t_R_ok : ∀ k, k < 5 → parseFieldDescriptor (F_R k).2.2.1 = some (t_R k) := by decide +kernel
def R_D : String := "PolledHouses$Rounds"
def F_D : u_T := fun k => match k with
  | 0 => ("PolledHouses$Rounds", "number", "I", false)
  | 1 => ("PolledHouses$Rounds", "doneCount", "I", false)
  | _ => ("PolledHouses$Rounds", "doneIn", "[I", true)
def t_D : Nat → FieldType := fun k => match k with
  | 0 => .int
  | 1 => .int
  | _ => .array (.int)
theorem n_D : ∀ a, a < 3 → ∀ b, b < 3 → a ≠ b → (F_D a).2.1 ≠ (F_D b).2.1 := by decide +kernel
theorem t_D_ok : ∀ k, k < 3 → parseFieldDescriptor (F_D k).2.2.1 = some (t_D k) := by decide +kernel
def R_M : String := "PolledHousesModel"
def F_M : u_T := fun k => match k with
  | 0 => ("PolledHousesModel", "bytes", "[I", true)
  | 1 => ("PolledHousesModel", "blocks", "[I", true)
  | 2 => ("PolledHousesModel", "open", "[Z", true)
  | 3 => ("PolledHousesModel", "polls", "I", false)
  | 4 => ("PolledHousesModel", "results", "[I", true)
  | 5 => ("PolledHousesModel", "numbers", "[I", true)
  | 6 => ("PolledHousesModel", "deposits", "[I", true)
  | 7 => ("PolledHousesModel", "partsOf", "[I", true)
  | 8 => ("PolledHousesModel", "nonces", "[J", true)
  | 9 => ("PolledHousesModel", "began", "[I", true)
  | 10 => ("PolledHousesModel", "sumBits", "[I", true)
  | 11 => ("PolledHousesModel", "copyBits", "[I", true)
  | 12 => ("PolledHousesModel", "sums", "[J", true)
  | 13 => ("PolledHousesModel", "copies", "[I", true)
  | 14 => ("PolledHousesModel", "many", "I", false)
  | 15 => ("PolledHousesModel", "kinds", "[I", true)
  | 16 => ("PolledHousesModel", "pollOf", "[I", true)
  | 17 => ("PolledHousesModel", "houseOf", "[I", true)
  | 18 => ("PolledHousesModel", "sumOf", "[J", true)
  | 19 => ("PolledHousesModel", "loads", "[I", true)
  | 20 => ("PolledHousesModel", "round", "I", false)
  | 21 => ("PolledHousesModel", "isDone", "[Z", true)
  | 22 => ("PolledHousesModel", "mended", "[I", true)
  | _ => ("PolledHousesModel", "disputed", "I", false)
def t_M : Nat → FieldType := fun k => match k with
  | 0 => .array (.int)
  | 1 => .array (.int)
  | 2 => .array (.boolean)
  | 3 => .int
  | 4 => .array (.int)
  | 5 => .array (.int)
  | 6 => .array (.int)
  | 7 => .array (.int)
  | 8 => .array (.long)
  | 9 => .array (.int)
  | 10 => .array (.int)
  | 11 => .array (.int)
  | 12 => .array (.long)
  | 13 => .array (.int)
  | 14 => .int
  | 15 => .array (.int)
  | 16 => .array (.int)
  | 17 => .array (.int)
  | 18 => .array (.long)
  | 19 => .array (.int)
  | 20 => .int
  | 21 => .array (.boolean)
  | 22 => .array (.int)
  | _ => .int
theorem n_M : ∀ a, a < 24 → ∀ b, b < 24 → a ≠ b → (F_M a).2.1 ≠ (F_M b).2.1 := by decide +kernel
theorem t_M_ok : ∀ k, k < 24 → parseFieldDescriptor (F_M k).2.2.1 = some (t_M k) := by decide +kernel
abbrev z_cl : List vw_C := [(R_X, F_X, 8), (R_H, F_H, 3), (R_A, F_A, 3), (R_P, F_P, 7), (R_R, F_R, 5), (R_D, F_D, 3), (R_M, F_M, 24)]
abbrev b_X_init : ByteArray := prog_1_method_1_code
def y_X_init : MethodName := ⟨R_X, "<init>", "()V"⟩
abbrev b_X_deposit : ByteArray := prog_1_method_2_code
def y_X_deposit : MethodName := ⟨R_X, "deposit", "(III)I"⟩
abbrev b_X_blocks : ByteArray := prog_1_method_3_code
def y_X_blocks : MethodName := ⟨R_X, "blocks", "(I)I"⟩
abbrev b_X_at : ByteArray := prog_1_method_4_code
def y_X_at : MethodName := ⟨R_X, "at", "(III)I"⟩
abbrev b_X_damage : ByteArray := prog_1_method_5_code
def y_X_damage : MethodName := ⟨R_X, "damage", "(IIII)I"⟩
abbrev b_X_sum : ByteArray := prog_1_method_6_code
def y_X_sum : MethodName := ⟨R_X, "sum", "(IIIJ)J"⟩
abbrev b_X_poll : ByteArray := prog_1_method_7_code
def y_X_poll : MethodName := ⟨R_X, "poll", "(IIJ)I"⟩
abbrev b_X_again : ByteArray := prog_1_method_8_code
def y_X_again : MethodName := ⟨R_X, "again", "(I)I"⟩
abbrev b_X_step : ByteArray := prog_1_method_9_code
def y_X_step : MethodName := ⟨R_X, "step", "()I"⟩
abbrev b_X_lose : ByteArray := prog_1_method_10_code
def y_X_lose : MethodName := ⟨R_X, "lose", "(I)I"⟩
abbrev b_X_twice : ByteArray := prog_1_method_11_code
def y_X_twice : MethodName := ⟨R_X, "twice", "(I)I"⟩
abbrev b_X_letters : ByteArray := prog_1_method_12_code
def y_X_letters : MethodName := ⟨R_X, "letters", "()I"⟩
abbrev b_X_letter : ByteArray := prog_1_method_13_code
def y_X_letter : MethodName := ⟨R_X, "letter", "(II)I"⟩
abbrev b_X_giveUp : ByteArray := prog_1_method_14_code
def y_X_giveUp : MethodName := ⟨R_X, "giveUp", "(I)Z"⟩
abbrev b_X_result : ByteArray := prog_1_method_15_code
def y_X_result : MethodName := ⟨R_X, "result", "(I)I"⟩
abbrev b_X_close : ByteArray := prog_1_method_16_code
def y_X_close : MethodName := ⟨R_X, "close", "(I)Z"⟩
abbrev b_X_open : ByteArray := prog_1_method_17_code
def y_X_open : MethodName := ⟨R_X, "open", "(I)Z"⟩
abbrev b_X_round : ByteArray := prog_1_method_18_code
def y_X_round : MethodName := ⟨R_X, "round", "()I"⟩
abbrev b_X_done : ByteArray := prog_1_method_19_code
def y_X_done : MethodName := ⟨R_X, "done", "()I"⟩
abbrev b_X_parts : ByteArray := prog_1_method_20_code
def y_X_parts : MethodName := ⟨R_X, "parts", "()I"⟩
abbrev b_X_mends : ByteArray := prog_1_method_21_code
def y_X_mends : MethodName := ⟨R_X, "mends", "(I)I"⟩
abbrev b_X_disputes : ByteArray := prog_1_method_22_code
def y_X_disputes : MethodName := ⟨R_X, "disputes", "()I"⟩
abbrev b_X_isHouse : ByteArray := prog_1_method_23_code
def y_X_isHouse : MethodName := ⟨R_X, "isHouse", "(I)Z"⟩
abbrev b_X_isDeposit : ByteArray := prog_1_method_24_code
def y_X_isDeposit : MethodName := ⟨R_X, "isDeposit", "(I)Z"⟩
abbrev b_X_isPart : ByteArray := prog_1_method_25_code
def y_X_isPart : MethodName := ⟨R_X, "isPart", "(I)Z"⟩
abbrev b_X_isByte : ByteArray := prog_1_method_26_code
def y_X_isByte : MethodName := ⟨R_X, "isByte", "(II)Z"⟩
abbrev b_X_isPoll : ByteArray := prog_1_method_27_code
def y_X_isPoll : MethodName := ⟨R_X, "isPoll", "(I)Z"⟩
abbrev b_X_allHousesOpen : ByteArray := prog_1_method_28_code
def y_X_allHousesOpen : MethodName := ⟨R_X, "allHousesOpen", "()Z"⟩
abbrev b_X_freePlace : ByteArray := prog_1_method_29_code
def y_X_freePlace : MethodName := ⟨R_X, "freePlace", "()LPolledHouses$Poll;"⟩
abbrev b_X_runningPoll : ByteArray := prog_1_method_30_code
def y_X_runningPoll : MethodName := ⟨R_X, "runningPoll", "(I)LPolledHouses$Poll;"⟩
abbrev b_X_sendToAwaited : ByteArray := prog_1_method_31_code
def y_X_sendToAwaited : MethodName := ⟨R_X, "sendToAwaited", "(LPolledHouses$Poll;)I"⟩
abbrev b_X_arrive : ByteArray := prog_1_method_32_code
def y_X_arrive : MethodName := ⟨R_X, "arrive", "(LPolledHouses$Poll;IIJ)V"⟩
abbrev b_X_answerAsk : ByteArray := prog_1_method_33_code
def y_X_answerAsk : MethodName := ⟨R_X, "answerAsk", "(LPolledHouses$Poll;I)V"⟩
abbrev b_X_answerFetch : ByteArray := prog_1_method_34_code
def y_X_answerFetch : MethodName := ⟨R_X, "answerFetch", "(LPolledHouses$Poll;I)V"⟩
abbrev b_X_takeSum : ByteArray := prog_1_method_35_code
def y_X_takeSum : MethodName := ⟨R_X, "takeSum", "(LPolledHouses$Poll;IJ)V"⟩
abbrev b_X_takeCopy : ByteArray := prog_1_method_36_code
def y_X_takeCopy : MethodName := ⟨R_X, "takeCopy", "(LPolledHouses$Poll;IJ)V"⟩
abbrev b_X_decide : ByteArray := prog_1_method_37_code
def y_X_decide : MethodName := ⟨R_X, "decide", "(LPolledHouses$Poll;)I"⟩
abbrev b_X_areCopiesCurrent : ByteArray := prog_1_method_38_code
def y_X_areCopiesCurrent : MethodName := ⟨R_X, "areCopiesCurrent", "(LPolledHouses$Poll;)Z"⟩
abbrev b_X_mendBlock : ByteArray := prog_1_method_39_code
def y_X_mendBlock : MethodName := ⟨R_X, "mendBlock", "(LPolledHouses$Poll;I)V"⟩
abbrev b_X_finish : ByteArray := prog_1_method_40_code
def y_X_finish : MethodName := ⟨R_X, "finish", "(LPolledHouses$Poll;I)V"⟩
abbrev b_H_init : ByteArray := prog_3_method_1_code
def y_H_init : MethodName := ⟨R_H, "<init>", "()V"⟩
abbrev b_H_receive : ByteArray := prog_3_method_2_code
def y_H_receive : MethodName := ⟨R_H, "receive", "(III)V"⟩
abbrev b_H_byteOf : ByteArray := prog_3_method_3_code
def y_H_byteOf : MethodName := ⟨R_H, "byteOf", "(II)I"⟩
abbrev b_H_flip : ByteArray := prog_3_method_4_code
def y_H_flip : MethodName := ⟨R_H, "flip", "(III)V"⟩
abbrev b_H_mend : ByteArray := prog_3_method_5_code
def y_H_mend : MethodName := ⟨R_H, "mend", "(III)V"⟩
abbrev b_H_bytesOfPart : ByteArray := prog_3_method_6_code
def y_H_bytesOfPart : MethodName := ⟨R_H, "bytesOfPart", "(II)J"⟩
abbrev b_H_sumOfPart : ByteArray := prog_3_method_7_code
def y_H_sumOfPart : MethodName := ⟨R_H, "sumOfPart", "(IIIJ)J"⟩
abbrev b_H_place : ByteArray := prog_3_method_8_code
def y_H_place : MethodName := ⟨R_H, "place", "(II)I"⟩
abbrev b_H_shift : ByteArray := prog_3_method_9_code
def y_H_shift : MethodName := ⟨R_H, "shift", "(I)I"⟩
abbrev b_A_init : ByteArray := prog_2_method_1_code
def y_A_init : MethodName := ⟨R_A, "<init>", "()V"⟩
abbrev b_A_forget : ByteArray := prog_2_method_2_code
def y_A_forget : MethodName := ⟨R_A, "forget", "()V"⟩
abbrev b_A_take : ByteArray := prog_2_method_3_code
def y_A_take : MethodName := ⟨R_A, "take", "(IJ)Z"⟩
abbrev b_A_isComplete : ByteArray := prog_2_method_4_code
def y_A_isComplete : MethodName := ⟨R_A, "isComplete", "()Z"⟩
abbrev b_A_areAlike : ByteArray := prog_2_method_5_code
def y_A_areAlike : MethodName := ⟨R_A, "areAlike", "()Z"⟩
abbrev b_P_init : ByteArray := prog_4_method_1_code
def y_P_init : MethodName := ⟨R_P, "<init>", "()V"⟩
abbrev b_P_begin : ByteArray := prog_4_method_2_code
def y_P_begin : MethodName := ⟨R_P, "begin", "(IIIJI)V"⟩
abbrev b_P_copiedBlock : ByteArray := prog_4_method_3_code
def y_P_copiedBlock : MethodName := ⟨R_P, "copiedBlock", "(II)I"⟩
abbrev b_P_copiesAllDiffer : ByteArray := prog_4_method_4_code
def y_P_copiesAllDiffer : MethodName := ⟨R_P, "copiesAllDiffer", "(I)Z"⟩
abbrev b_R_init : ByteArray := prog_6_method_1_code
def y_R_init : MethodName := ⟨R_R, "<init>", "()V"⟩
abbrev b_R_has : ByteArray := prog_6_method_2_code
def y_R_has : MethodName := ⟨R_R, "has", "(I)Z"⟩
abbrev b_R_add : ByteArray := prog_6_method_3_code
def y_R_add : MethodName := ⟨R_R, "add", "(IIIJ)V"⟩
abbrev b_R_remove : ByteArray := prog_6_method_4_code
def y_R_remove : MethodName := ⟨R_R, "remove", "(I)V"⟩
abbrev b_D_init : ByteArray := prog_5_method_1_code
def y_D_init : MethodName := ⟨R_D, "<init>", "()V"⟩
abbrev b_D_finishPart : ByteArray := prog_5_method_2_code
def y_D_finishPart : MethodName := ⟨R_D, "finishPart", "(III)V"⟩
abbrev b_D_endIfAllDone : ByteArray := prog_5_method_3_code
def y_D_endIfAllDone : MethodName := ⟨R_D, "endIfAllDone", "(I)V"⟩
abbrev b_M_init : ByteArray := prog_8_method_1_code
def y_M_init : MethodName := ⟨R_M, "<init>", "()V"⟩
abbrev b_M_isHouse : ByteArray := prog_8_method_2_code
def y_M_isHouse : MethodName := ⟨R_M, "isHouse", "(I)Z"⟩
abbrev b_M_blocksOf : ByteArray := prog_8_method_3_code
def y_M_blocksOf : MethodName := ⟨R_M, "blocksOf", "(I)I"⟩
abbrev b_M_isByte : ByteArray := prog_8_method_4_code
def y_M_isByte : MethodName := ⟨R_M, "isByte", "(III)Z"⟩
abbrev b_M_deposit : ByteArray := prog_8_method_5_code
def y_M_deposit : MethodName := ⟨R_M, "deposit", "(III)I"⟩
abbrev b_M_blocks : ByteArray := prog_8_method_6_code
def y_M_blocks : MethodName := ⟨R_M, "blocks", "(I)I"⟩
abbrev b_M_at : ByteArray := prog_8_method_7_code
def y_M_at : MethodName := ⟨R_M, "at", "(III)I"⟩
abbrev b_M_damage : ByteArray := prog_8_method_8_code
def y_M_damage : MethodName := ⟨R_M, "damage", "(IIII)I"⟩
abbrev b_M_mix : ByteArray := prog_8_method_9_code
def y_M_mix : MethodName := ⟨R_M, "mix", "(JI)J"⟩
abbrev b_M_sizeOf : ByteArray := prog_8_method_10_code
def y_M_sizeOf : MethodName := ⟨R_M, "sizeOf", "(II)I"⟩
abbrev b_M_sum : ByteArray := prog_8_method_11_code
def y_M_sum : MethodName := ⟨R_M, "sum", "(IIIJ)J"⟩
abbrev b_M_come : ByteArray := prog_8_method_12_code
def y_M_come : MethodName := ⟨R_M, "come", "(III)I"⟩
abbrev b_M_isLetter : ByteArray := prog_8_method_13_code
def y_M_isLetter : MethodName := ⟨R_M, "isLetter", "(I)Z"⟩
abbrev b_M_copyLetter : ByteArray := prog_8_method_14_code
def y_M_copyLetter : MethodName := ⟨R_M, "copyLetter", "(II)V"⟩
abbrev b_M_leave : ByteArray := prog_8_method_15_code
def y_M_leave : MethodName := ⟨R_M, "leave", "(I)V"⟩
abbrev b_M_lose : ByteArray := prog_8_method_16_code
def y_M_lose : MethodName := ⟨R_M, "lose", "(I)I"⟩
abbrev b_M_twice : ByteArray := prog_8_method_17_code
def y_M_twice : MethodName := ⟨R_M, "twice", "(I)I"⟩
abbrev b_M_letters : ByteArray := prog_8_method_18_code
def y_M_letters : MethodName := ⟨R_M, "letters", "()I"⟩
abbrev b_M_letter : ByteArray := prog_8_method_19_code
def y_M_letter : MethodName := ⟨R_M, "letter", "(II)I"⟩
abbrev b_M_placeOf : ByteArray := prog_8_method_20_code
def y_M_placeOf : MethodName := ⟨R_M, "placeOf", "(I)I"⟩
abbrev b_M_poll : ByteArray := prog_8_method_21_code
def y_M_poll : MethodName := ⟨R_M, "poll", "(IIJ)I"⟩
abbrev b_M_again : ByteArray := prog_8_method_22_code
def y_M_again : MethodName := ⟨R_M, "again", "(I)I"⟩
abbrev b_M_count : ByteArray := prog_8_method_23_code
def y_M_count : MethodName := ⟨R_M, "count", "(Z)I"⟩
abbrev b_M_end : ByteArray := prog_8_method_24_code
def y_M_end : MethodName := ⟨R_M, "end", "(II)V"⟩
abbrev b_M_takeSum : ByteArray := prog_8_method_25_code
def y_M_takeSum : MethodName := ⟨R_M, "takeSum", "(IIJ)V"⟩
abbrev b_M_alike : ByteArray := prog_8_method_26_code
def y_M_alike : MethodName := ⟨R_M, "alike", "(IIII)Z"⟩
abbrev b_M_byteAt : ByteArray := prog_8_method_27_code
def y_M_byteAt : MethodName := ⟨R_M, "byteAt", "(III)I"⟩
abbrev b_M_isAsCopied : ByteArray := prog_8_method_28_code
def y_M_isAsCopied : MethodName := ⟨R_M, "isAsCopied", "(III)Z"⟩
abbrev b_M_mend : ByteArray := prog_8_method_29_code
def y_M_mend : MethodName := ⟨R_M, "mend", "(IIII)V"⟩
abbrev b_M_decide : ByteArray := prog_8_method_30_code
def y_M_decide : MethodName := ⟨R_M, "decide", "(I)V"⟩
abbrev b_M_takeCopy : ByteArray := prog_8_method_31_code
def y_M_takeCopy : MethodName := ⟨R_M, "takeCopy", "(II)V"⟩
abbrev b_M_answer : ByteArray := prog_8_method_32_code
def y_M_answer : MethodName := ⟨R_M, "answer", "(III)V"⟩
abbrev b_M_step : ByteArray := prog_8_method_33_code
def y_M_step : MethodName := ⟨R_M, "step", "()I"⟩
abbrev b_M_giveUp : ByteArray := prog_8_method_34_code
def y_M_giveUp : MethodName := ⟨R_M, "giveUp", "(I)Z"⟩
abbrev b_M_result : ByteArray := prog_8_method_35_code
def y_M_result : MethodName := ⟨R_M, "result", "(I)I"⟩
abbrev b_M_close : ByteArray := prog_8_method_36_code
def y_M_close : MethodName := ⟨R_M, "close", "(I)Z"⟩
abbrev b_M_open : ByteArray := prog_8_method_37_code
def y_M_open : MethodName := ⟨R_M, "open", "(I)Z"⟩
abbrev b_M_round : ByteArray := prog_8_method_38_code
def y_M_round : MethodName := ⟨R_M, "round", "()I"⟩
abbrev b_M_done : ByteArray := prog_8_method_39_code
def y_M_done : MethodName := ⟨R_M, "done", "()I"⟩
abbrev b_M_parts : ByteArray := prog_8_method_40_code
def y_M_parts : MethodName := ⟨R_M, "parts", "()I"⟩
abbrev b_M_mends : ByteArray := prog_8_method_41_code
def y_M_mends : MethodName := ⟨R_M, "mends", "(I)I"⟩
abbrev b_M_disputes : ByteArray := prog_8_method_42_code
def y_M_disputes : MethodName := ⟨R_M, "disputes", "()I"⟩
end
section
/-- the words that a call may take along: those of lw_tbl that stay true in every later state -/
def z_okb (w : Cond) : Bool := k2_isCode w || goodWord w
def z_T : List Cond := lw_tbl.filter z_okb
theorem z_inT {w : Cond} (h : w ∈ lw_tbl) (hb : z_okb w = true) : w ∈ z_T := List.mem_filter.mpr ⟨h, hb⟩
theorem z_ok {w : Cond} (h : w ∈ z_T) : (w.onTables && w.keeps) = true ∨ ∃ ty, w = .arrayClass ty := by
  have hb := (List.mem_filter.mp h).2
  rcases Bool.or_eq_true _ _ ▸ hb with hc | hg
  · cases w <;> first | (simp [k2_isCode] at hc; done) | exact Or.inl rfl
  · exact good_of_word hg
abbrev z_ws (y : MethodName) (b : ByteArray) (n : Nat) (ret : Option FieldType) : List Cond := .code y b n ret :: z_T
theorem z_good {y : MethodName} {b : ByteArray} {n : Nat} {ret : Option FieldType} (h : Cond.code y b n ret ∈ z_T) : GoodIn z_T (z_ws y b n ret) := by
  intro w hw
  rcases List.mem_cons.mp hw with rfl | hw
  · exact ⟨h, z_ok h⟩
  · exact ⟨hw, z_ok hw⟩
/-! The world of the class and of the reference: every cell that the two constructors make, at an address 'ad kind index' that never changes; its contents are two functions, ints and longs, of (kind, index, place). -/
abbrev z_S : Type := (Nat → Nat → Nat → Int32) × (Nat → Nat → Nat → Int64)
def z_sI (S : z_S) (a o j : Nat) (v : Int32) : z_S := (fun a' o' j' => cond (Nat.beq a' a) (cond (Nat.beq o' o) (cond (Nat.beq j' j) v (S.1 a' o' j')) (S.1 a' o' j')) (S.1 a' o' j'), S.2)
def z_sL (S : z_S) (a o j : Nat) (v : Int64) : z_S := (S.1, fun a' o' j' => cond (Nat.beq a' a) (cond (Nat.beq o' o) (cond (Nat.beq j' j) v (S.2 a' o' j')) (S.2 a' o' j')) (S.2 a' o' j'))
theorem z_bt {x y : Nat} (h : x = y) : Nat.beq x y = true := by subst h; exact Nat.beq_refl x
theorem z_bf {x y : Nat} (h : ¬ x = y) : Nat.beq x y = false := by
  cases e : Nat.beq x y with
  | false => rfl
  | true => exact absurd (Nat.eq_of_beq_eq_true e) h
theorem z_sI_at (S : z_S) (a o j : Nat) (v : Int32) : (z_sI S a o j v).1 a o = upd (S.1 a o) j v := by
  funext k
  show cond (Nat.beq a a) (cond (Nat.beq o o) (cond (Nat.beq k j) v (S.1 a o k)) (S.1 a o k)) (S.1 a o k) = _
  rw [z_bt rfl, z_bt rfl]
  by_cases h : k = j
  · rw [z_bt h]; simp [upd, h]
  · rw [z_bf h]; simp [upd, h]
theorem z_sI_ne (S : z_S) (a o j : Nat) (v : Int32) {a' o' : Nat} (h : ¬ (a' = a ∧ o' = o)) : (z_sI S a o j v).1 a' o' = S.1 a' o' := by
  funext k
  show cond (Nat.beq a' a) (cond (Nat.beq o' o) (cond (Nat.beq k j) v (S.1 a' o' k)) (S.1 a' o' k)) (S.1 a' o' k) = _
  by_cases h1 : a' = a
  · rw [z_bt h1, z_bf (fun h2 => h ⟨h1, h2⟩)]; rfl
  · rw [z_bf h1]; rfl
theorem z_sL_at (S : z_S) (a o j : Nat) (v : Int64) : (z_sL S a o j v).2 a o = vp_updL (S.2 a o) j v := by
  funext k
  show cond (Nat.beq a a) (cond (Nat.beq o o) (cond (Nat.beq k j) v (S.2 a o k)) (S.2 a o k)) (S.2 a o k) = _
  rw [z_bt rfl, z_bt rfl]
  by_cases h : k = j
  · rw [z_bt h]; simp [vp_updL, h]
  · rw [z_bf h]; simp [vp_updL, h]
theorem z_sL_ne (S : z_S) (a o j : Nat) (v : Int64) {a' o' : Nat} (h : ¬ (a' = a ∧ o' = o)) : (z_sL S a o j v).2 a' o' = S.2 a' o' := by
  funext k
  show cond (Nat.beq a' a) (cond (Nat.beq o' o) (cond (Nat.beq k j) v (S.2 a' o' k)) (S.2 a' o' k)) (S.2 a' o' k) = _
  by_cases h1 : a' = a
  · rw [z_bt h1, z_bf (fun h2 => h ⟨h1, h2⟩)]; rfl
  · rw [z_bf h1]; rfl
def z_c (C : Nat → ClassId) (ad : Nat → Nat → Nat) (f : Nat → Int32) (g : Nat → Int64) (a o : Nat) : va_E := match a with
  | 0 => .inr (0, [.ref (ad 1 0), .ref (ad 2 0), .ref (ad 3 0), .ref (ad 8 0), .ref (ad 9 0), .ref (ad 10 0), .int (f 6), .int (f 7)])
  | 1 => .inl (C 3, 3, .inr (.inr (.inr (.inr (fun j => some (ad 12 j))))))
  | 2 => .inl (C 0, 6, .inl f)
  | 3 => .inr (4, [.ref (ad 4 0), .ref (ad 5 0), .ref (ad 6 0), .ref (ad 7 0), .int (f 4)])
  | 4 => .inl (C 0, 24, .inl f)
  | 5 => .inl (C 0, 24, .inl f)
  | 6 => .inl (C 0, 24, .inl f)
  | 7 => .inl (C 2, 24, .inr (.inl g))
  | 8 => .inl (C 4, 6, .inr (.inr (.inr (.inr (fun j => some (ad 14 j))))))
  | 9 => .inl (C 0, 513, .inl f)
  | 10 => .inr (5, [.int (f 0), .int (f 1), .ref (ad 11 0)])
  | 11 => .inl (C 0, 48, .inl f)
  | 12 => .inr (1, [.int (f 0), .int (f 1), .ref (ad 13 o)])
  | 13 => .inl (C 0, 96, .inl f)
  | 14 => .inr (3, [.int (f 0), .int (f 1), .int (f 2), .long (g 3), .int (f 4), .ref (ad 15 o), .ref (ad 18 o)])
  | 15 => .inr (2, [.ref (ad 16 o), .ref (ad 17 o), .int (f 2)])
  | 16 => .inl (C 1, 3, .inl f)
  | 17 => .inl (C 2, 3, .inr (.inl g))
  | 18 => .inr (2, [.ref (ad 19 o), .ref (ad 20 o), .int (f 2)])
  | 19 => .inl (C 1, 3, .inl f)
  | 20 => .inl (C 2, 3, .inr (.inl g))
  | 21 => .inr (6, [.ref (ad 22 0), .ref (ad 23 0), .ref (ad 24 0), .int (f 3), .ref (ad 25 0), .ref (ad 26 0), .ref (ad 27 0), .ref (ad 28 0), .ref (ad 29 0), .ref (ad 30 0), .ref (ad 31 0), .ref (ad 32 0), .ref (ad 33 0), .ref (ad 34 0), .int (f 14), .ref (ad 35 0), .ref (ad 36 0), .ref (ad 37 0), .ref (ad 38 0), .ref (ad 39 0), .int (f 20), .ref (ad 40 0), .ref (ad 41 0), .int (f 23)])
  | 22 => .inl (C 0, 1152, .inl f)
  | 23 => .inl (C 0, 6, .inl f)
  | 24 => .inl (C 1, 3, .inl f)
  | 25 => .inl (C 0, 600, .inl f)
  | 26 => .inl (C 0, 6, .inl f)
  | 27 => .inl (C 0, 6, .inl f)
  | 28 => .inl (C 0, 6, .inl f)
  | 29 => .inl (C 2, 6, .inr (.inl g))
  | 30 => .inl (C 0, 6, .inl f)
  | 31 => .inl (C 0, 6, .inl f)
  | 32 => .inl (C 0, 6, .inl f)
  | 33 => .inl (C 2, 18, .inr (.inl g))
  | 34 => .inl (C 0, 144, .inl f)
  | 35 => .inl (C 0, 25, .inl f)
  | 36 => .inl (C 0, 25, .inl f)
  | 37 => .inl (C 0, 25, .inl f)
  | 38 => .inl (C 2, 25, .inr (.inl g))
  | 39 => .inl (C 0, 200, .inl f)
  | 40 => .inl (C 1, 48, .inl f)
  | 41 => .inl (C 0, 3, .inl f)
  | _ => .inr (0, [])
theorem z_c0 (C : Nat → ClassId) (ad : Nat → Nat → Nat) (f : Nat → Int32) (g : Nat → Int64) (o : Nat) : z_c C ad f g 0 o = .inr (0, [.ref (ad 1 0), .ref (ad 2 0), .ref (ad 3 0), .ref (ad 8 0), .ref (ad 9 0), .ref (ad 10 0), .int (f 6), .int (f 7)]) := rfl
theorem z_c1 (C : Nat → ClassId) (ad : Nat → Nat → Nat) (f : Nat → Int32) (g : Nat → Int64) (o : Nat) : z_c C ad f g 1 o = .inl (C 3, 3, .inr (.inr (.inr (.inr (fun j => some (ad 12 j)))))) := rfl
theorem z_c2 (C : Nat → ClassId) (ad : Nat → Nat → Nat) (f : Nat → Int32) (g : Nat → Int64) (o : Nat) : z_c C ad f g 2 o = .inl (C 0, 6, .inl f) := rfl
theorem z_c3 (C : Nat → ClassId) (ad : Nat → Nat → Nat) (f : Nat → Int32) (g : Nat → Int64) (o : Nat) : z_c C ad f g 3 o = .inr (4, [.ref (ad 4 0), .ref (ad 5 0), .ref (ad 6 0), .ref (ad 7 0), .int (f 4)]) := rfl
theorem z_c4 (C : Nat → ClassId) (ad : Nat → Nat → Nat) (f : Nat → Int32) (g : Nat → Int64) (o : Nat) : z_c C ad f g 4 o = .inl (C 0, 24, .inl f) := rfl
theorem z_c5 (C : Nat → ClassId) (ad : Nat → Nat → Nat) (f : Nat → Int32) (g : Nat → Int64) (o : Nat) : z_c C ad f g 5 o = .inl (C 0, 24, .inl f) := rfl
theorem z_c6 (C : Nat → ClassId) (ad : Nat → Nat → Nat) (f : Nat → Int32) (g : Nat → Int64) (o : Nat) : z_c C ad f g 6 o = .inl (C 0, 24, .inl f) := rfl
theorem z_c7 (C : Nat → ClassId) (ad : Nat → Nat → Nat) (f : Nat → Int32) (g : Nat → Int64) (o : Nat) : z_c C ad f g 7 o = .inl (C 2, 24, .inr (.inl g)) := rfl
theorem z_c8 (C : Nat → ClassId) (ad : Nat → Nat → Nat) (f : Nat → Int32) (g : Nat → Int64) (o : Nat) : z_c C ad f g 8 o = .inl (C 4, 6, .inr (.inr (.inr (.inr (fun j => some (ad 14 j)))))) := rfl
theorem z_c9 (C : Nat → ClassId) (ad : Nat → Nat → Nat) (f : Nat → Int32) (g : Nat → Int64) (o : Nat) : z_c C ad f g 9 o = .inl (C 0, 513, .inl f) := rfl
theorem z_c10 (C : Nat → ClassId) (ad : Nat → Nat → Nat) (f : Nat → Int32) (g : Nat → Int64) (o : Nat) : z_c C ad f g 10 o = .inr (5, [.int (f 0), .int (f 1), .ref (ad 11 0)]) := rfl
theorem z_c11 (C : Nat → ClassId) (ad : Nat → Nat → Nat) (f : Nat → Int32) (g : Nat → Int64) (o : Nat) : z_c C ad f g 11 o = .inl (C 0, 48, .inl f) := rfl
theorem z_c12 (C : Nat → ClassId) (ad : Nat → Nat → Nat) (f : Nat → Int32) (g : Nat → Int64) (o : Nat) : z_c C ad f g 12 o = .inr (1, [.int (f 0), .int (f 1), .ref (ad 13 o)]) := rfl
theorem z_c13 (C : Nat → ClassId) (ad : Nat → Nat → Nat) (f : Nat → Int32) (g : Nat → Int64) (o : Nat) : z_c C ad f g 13 o = .inl (C 0, 96, .inl f) := rfl
theorem z_c14 (C : Nat → ClassId) (ad : Nat → Nat → Nat) (f : Nat → Int32) (g : Nat → Int64) (o : Nat) : z_c C ad f g 14 o = .inr (3, [.int (f 0), .int (f 1), .int (f 2), .long (g 3), .int (f 4), .ref (ad 15 o), .ref (ad 18 o)]) := rfl
theorem z_c15 (C : Nat → ClassId) (ad : Nat → Nat → Nat) (f : Nat → Int32) (g : Nat → Int64) (o : Nat) : z_c C ad f g 15 o = .inr (2, [.ref (ad 16 o), .ref (ad 17 o), .int (f 2)]) := rfl
theorem z_c16 (C : Nat → ClassId) (ad : Nat → Nat → Nat) (f : Nat → Int32) (g : Nat → Int64) (o : Nat) : z_c C ad f g 16 o = .inl (C 1, 3, .inl f) := rfl
theorem z_c17 (C : Nat → ClassId) (ad : Nat → Nat → Nat) (f : Nat → Int32) (g : Nat → Int64) (o : Nat) : z_c C ad f g 17 o = .inl (C 2, 3, .inr (.inl g)) := rfl
theorem z_c18 (C : Nat → ClassId) (ad : Nat → Nat → Nat) (f : Nat → Int32) (g : Nat → Int64) (o : Nat) : z_c C ad f g 18 o = .inr (2, [.ref (ad 19 o), .ref (ad 20 o), .int (f 2)]) := rfl
theorem z_c19 (C : Nat → ClassId) (ad : Nat → Nat → Nat) (f : Nat → Int32) (g : Nat → Int64) (o : Nat) : z_c C ad f g 19 o = .inl (C 1, 3, .inl f) := rfl
theorem z_c20 (C : Nat → ClassId) (ad : Nat → Nat → Nat) (f : Nat → Int32) (g : Nat → Int64) (o : Nat) : z_c C ad f g 20 o = .inl (C 2, 3, .inr (.inl g)) := rfl
theorem z_c21 (C : Nat → ClassId) (ad : Nat → Nat → Nat) (f : Nat → Int32) (g : Nat → Int64) (o : Nat) : z_c C ad f g 21 o = .inr (6, [.ref (ad 22 0), .ref (ad 23 0), .ref (ad 24 0), .int (f 3), .ref (ad 25 0), .ref (ad 26 0), .ref (ad 27 0), .ref (ad 28 0), .ref (ad 29 0), .ref (ad 30 0), .ref (ad 31 0), .ref (ad 32 0), .ref (ad 33 0), .ref (ad 34 0), .int (f 14), .ref (ad 35 0), .ref (ad 36 0), .ref (ad 37 0), .ref (ad 38 0), .ref (ad 39 0), .int (f 20), .ref (ad 40 0), .ref (ad 41 0), .int (f 23)]) := rfl
theorem z_c22 (C : Nat → ClassId) (ad : Nat → Nat → Nat) (f : Nat → Int32) (g : Nat → Int64) (o : Nat) : z_c C ad f g 22 o = .inl (C 0, 1152, .inl f) := rfl
theorem z_c23 (C : Nat → ClassId) (ad : Nat → Nat → Nat) (f : Nat → Int32) (g : Nat → Int64) (o : Nat) : z_c C ad f g 23 o = .inl (C 0, 6, .inl f) := rfl
theorem z_c24 (C : Nat → ClassId) (ad : Nat → Nat → Nat) (f : Nat → Int32) (g : Nat → Int64) (o : Nat) : z_c C ad f g 24 o = .inl (C 1, 3, .inl f) := rfl
theorem z_c25 (C : Nat → ClassId) (ad : Nat → Nat → Nat) (f : Nat → Int32) (g : Nat → Int64) (o : Nat) : z_c C ad f g 25 o = .inl (C 0, 600, .inl f) := rfl
theorem z_c26 (C : Nat → ClassId) (ad : Nat → Nat → Nat) (f : Nat → Int32) (g : Nat → Int64) (o : Nat) : z_c C ad f g 26 o = .inl (C 0, 6, .inl f) := rfl
theorem z_c27 (C : Nat → ClassId) (ad : Nat → Nat → Nat) (f : Nat → Int32) (g : Nat → Int64) (o : Nat) : z_c C ad f g 27 o = .inl (C 0, 6, .inl f) := rfl
theorem z_c28 (C : Nat → ClassId) (ad : Nat → Nat → Nat) (f : Nat → Int32) (g : Nat → Int64) (o : Nat) : z_c C ad f g 28 o = .inl (C 0, 6, .inl f) := rfl
theorem z_c29 (C : Nat → ClassId) (ad : Nat → Nat → Nat) (f : Nat → Int32) (g : Nat → Int64) (o : Nat) : z_c C ad f g 29 o = .inl (C 2, 6, .inr (.inl g)) := rfl
theorem z_c30 (C : Nat → ClassId) (ad : Nat → Nat → Nat) (f : Nat → Int32) (g : Nat → Int64) (o : Nat) : z_c C ad f g 30 o = .inl (C 0, 6, .inl f) := rfl
theorem z_c31 (C : Nat → ClassId) (ad : Nat → Nat → Nat) (f : Nat → Int32) (g : Nat → Int64) (o : Nat) : z_c C ad f g 31 o = .inl (C 0, 6, .inl f) := rfl
theorem z_c32 (C : Nat → ClassId) (ad : Nat → Nat → Nat) (f : Nat → Int32) (g : Nat → Int64) (o : Nat) : z_c C ad f g 32 o = .inl (C 0, 6, .inl f) := rfl
theorem z_c33 (C : Nat → ClassId) (ad : Nat → Nat → Nat) (f : Nat → Int32) (g : Nat → Int64) (o : Nat) : z_c C ad f g 33 o = .inl (C 2, 18, .inr (.inl g)) := rfl
theorem z_c34 (C : Nat → ClassId) (ad : Nat → Nat → Nat) (f : Nat → Int32) (g : Nat → Int64) (o : Nat) : z_c C ad f g 34 o = .inl (C 0, 144, .inl f) := rfl
theorem z_c35 (C : Nat → ClassId) (ad : Nat → Nat → Nat) (f : Nat → Int32) (g : Nat → Int64) (o : Nat) : z_c C ad f g 35 o = .inl (C 0, 25, .inl f) := rfl
theorem z_c36 (C : Nat → ClassId) (ad : Nat → Nat → Nat) (f : Nat → Int32) (g : Nat → Int64) (o : Nat) : z_c C ad f g 36 o = .inl (C 0, 25, .inl f) := rfl
theorem z_c37 (C : Nat → ClassId) (ad : Nat → Nat → Nat) (f : Nat → Int32) (g : Nat → Int64) (o : Nat) : z_c C ad f g 37 o = .inl (C 0, 25, .inl f) := rfl
theorem z_c38 (C : Nat → ClassId) (ad : Nat → Nat → Nat) (f : Nat → Int32) (g : Nat → Int64) (o : Nat) : z_c C ad f g 38 o = .inl (C 2, 25, .inr (.inl g)) := rfl
theorem z_c39 (C : Nat → ClassId) (ad : Nat → Nat → Nat) (f : Nat → Int32) (g : Nat → Int64) (o : Nat) : z_c C ad f g 39 o = .inl (C 0, 200, .inl f) := rfl
theorem z_c40 (C : Nat → ClassId) (ad : Nat → Nat → Nat) (f : Nat → Int32) (g : Nat → Int64) (o : Nat) : z_c C ad f g 40 o = .inl (C 1, 48, .inl f) := rfl
theorem z_c41 (C : Nat → ClassId) (ad : Nat → Nat → Nat) (f : Nat → Int32) (g : Nat → Int64) (o : Nat) : z_c C ad f g 41 o = .inl (C 0, 3, .inl f) := rfl
def z_n (a : Nat) : Nat := cond (Nat.blt a 12) 1 (cond (Nat.blt a 14) 3 (cond (Nat.blt a 21) 6 (cond (Nat.blt a 42) 1 0)))
def z_A (ad : Nat → Nat → Nat) (q : Nat) : Prop := ∃ a o : Nat, o < z_n a ∧ q = ad a o
def z_J (ad : Nat → Nat → Nat) : Prop := ∀ a o a' o' : Nat, o < z_n a → o' < z_n a' → ad a o = ad a' o' → a = a' ∧ o = o'
def z_W (D : va_G) (C : Nat → ClassId) (ad : Nat → Nat → Nat) (S : z_S) (H : Heap) : Prop := ∀ a o : Nat, o < z_n a → va_at D z_cl (ad a o, z_c C ad (S.1 a o) (S.2 a o) a o) H
def z_G (D : va_G) (C : Nat → ClassId) (ad : Nat → Nat → Nat) (H0 : Heap) (S : z_S) (H : Heap) (locs : List Loc) : Prop := z_W D C ad S H ∧ va_S (z_A ad) H0 H locs
abbrev z_tys (C : Nat → ClassId) : List (ClassId × FieldType) := [(C 0, .int), (C 1, .boolean), (C 2, .long), (C 3, .object R_H), (C 4, .object R_P)]
abbrev z_F (D : va_G) (C : Nat → ClassId) (ad : Nat → Nat → Nat) (p : Program) (m : MethodId) (c : Code) (cc : ByteArray) (nL : Nat) (s : State) (args : Array Value) (own : String) : Prop := CallFix p m c cc nL s args z_T own ∧ va_K D z_cl (z_tys C) s ∧ z_J ad
theorem z_G.to {D : va_G} {C : Nat → ClassId} {ad : Nat → Nat → Nat} {H0 H : Heap} {S S' : z_S} {locs : List Loc} (h : z_G D C ad H0 S H locs) (e : S = S') : z_G D C ad H0 S' H locs := e ▸ h
def z_opt {α : Type} (o : Option Nat) (a : α) (b : Nat → α) : α := match o with
  | none => a
  | some i => b i
theorem z_opt_n {α : Type} {o : Option Nat} {a : α} {b : Nat → α} (h : o = none) : z_opt o a b = a := by subst h; rfl
theorem z_opt_s {α : Type} {o : Option Nat} {a : α} {b : Nat → α} {i : Nat} (h : o = some i) : z_opt o a b = b i := by subst h; rfl
/-- f i, then f (i + 1) .., n times -/
def z_it {α : Type} (f : Nat → α → α) : Nat → Nat → α → α
  | _, 0, x => x
  | k, n + 1, x => z_it f (k + 1) n (f k x)
theorem z_W.one {D : va_G} {C : Nat → ClassId} {ad : Nat → Nat → Nat} {S : z_S} {H : Heap} (h : z_W D C ad S H) {a o : Nat} (ho : o < z_n a) {x : va_E} (hc : z_c C ad (S.1 a o) (S.2 a o) a o = x) : va_P D z_cl [(ad a o, x)] H := by
  intro k q hq
  cases k with
  | zero => cases hq; rw [← hc]; exact h a o ho
  | succ k => cases hq
theorem z_W.put {D : va_G} {C : Nat → ClassId} {ad : Nat → Nat → Nat} {S S' : z_S} {H H1 : Heap} (h : z_W D C ad S H) (hJ : z_J ad) {a o : Nat} (ho : o < z_n a) (h1 : ∀ a' o' : Nat, ¬ (a' = a ∧ o' = o) → S'.1 a' o' = S.1 a' o' ∧ S'.2 a' o' = S.2 a' o') (hn : va_at D z_cl (ad a o, z_c C ad (S'.1 a o) (S'.2 a o) a o) H1) (oq : ∀ q : Nat, q ≠ ad a o → H1[q]? = H[q]?) : z_W D C ad S' H1 := by
  intro a' o' ho'
  by_cases e : a' = a ∧ o' = o
  · obtain ⟨rfl, rfl⟩ := e
    exact hn
  · obtain ⟨e1, e2⟩ := h1 a' o' e
    rw [e1, e2]
    exact (h a' o' ho').kept (oq _ (fun x => e (hJ a' o' a o ho' ho x)))
section ZW
variable {D : va_G} {C : Nat → ClassId} {ad : Nat → Nat → Nat} {S : z_S}
variable {p : Program} {l : Launch} {e : Env} {R : Room} {s : State} {m : MethodId} {args : Array Value} {below : List Frame} {meth : Method} {c : Code} {H H0 : Heap} {locs : List Loc} {cells slots : Nat} {Q : State → Prop}
variable {cc : ByteArray} {nL pc : Nat} {ls : Array Slot} {rest : List Value} {own : String}
theorem z_topi {x y : Int32} (h : x = y) (k : W p l e R s m args below meth c H locs cells slots Q (F0 m pc ls (.int y :: rest))) : W p l e R s m args below meth c H locs cells slots Q (F0 m pc ls (.int x :: rest)) := by subst h; exact k
theorem z_get {Cn : String} {T : u_T} {N ci index a o : Nat} {fs : List Value} (hF : z_F D C ad p m c cc nL s args own) (hG : z_G D C ad H0 S H locs) (ho : o < z_n a) (hc : z_c C ad (S.1 a o) (S.2 a o) a o = .inr (ci, fs)) (hcl : z_cl[ci]? = some (Cn, T, N)) (hin : ∀ w ∈ u_ws Cn T N, w ∈ z_T) (k : Nat) (hk : k < N) (hlink : Cond.fieldLink own index Cn (T k).2.1 (T k).2.2.1 ∈ z_T) (hT : (T k).1 = Cn) {v : Value} (hv : fs[k]? = some v) (hdg : decode cc pc = .ok (.getfield index, 3))
    (kk : W p l e R s m args below meth c H locs cells slots Q (F0 m (pc + 3) ls (v :: rest))) : W p l e R s m args below meth c H locs cells slots Q (F0 m pc ls (.ref (ad a o) :: rest)) :=
  va_get (ref := Cn) hF.1.1 hF.1.2.1 hF.1.2.2.2.2 hin hF.1.2.2.2.1 hF.2.1 (hG.1.one ho hc) 0 rfl hcl k hk (hF.1.2.2.2.2 _ hlink) (fun x h => by rw [hT] at h; exact h) hv hdg kk
/-- a field is written: the new contents S' differ at this cell alone -/
theorem z_put {Cn : String} {T : u_T} {N ci index a o : Nat} {fs : List Value} {S' : z_S} {v : Value} (hF : z_F D C ad p m c cc nL s args own) (hG : z_G D C ad H0 S H locs) (ho : o < z_n a) (hc : z_c C ad (S.1 a o) (S.2 a o) a o = .inr (ci, fs)) (hcl : z_cl[ci]? = some (Cn, T, N)) (hin : ∀ w ∈ u_ws Cn T N, w ∈ z_T) (ty0 : Nat → FieldType) (hty : ∀ k, k < N → parseFieldDescriptor (T k).2.2.1 = some (ty0 k)) (hnm : ∀ a, a < N → ∀ b, b < N → a ≠ b → (T a).2.1 ≠ (T b).2.1) (k : Nat) (hk : k < N) (hlink : Cond.fieldLink own index Cn (T k).2.1 (T k).2.2.1 ∈ z_T) (hT : (T k).1 = Cn) (hfin : (T k).2.2.2 = false) {ty : FieldType} (hd : parseFieldDescriptor (T k).2.2.1 = some ty) (hn : narrow ty v = v) (hfit : fits ty v = true) (hl : k < fs.length)
    (h1 : ∀ a' o' : Nat, ¬ (a' = a ∧ o' = o) → S'.1 a' o' = S.1 a' o' ∧ S'.2 a' o' = S.2 a' o') (hnew : z_c C ad (S'.1 a o) (S'.2 a o) a o = .inr (ci, fs.set k v)) (hdg : decode cc pc = .ok (.putfield index, 3))
    (kk : ∀ (H1 : Heap) (locs1 : List Loc), z_G D C ad H0 S' H1 locs1 → W p l e R s m args below meth c H1 locs1 cells slots Q (F0 m (pc + 3) ls rest)) : W p l e R s m args below meth c H locs cells slots Q (F0 m pc ls (v :: .ref (ad a o) :: rest)) := by
  obtain ⟨⟨hx, hb, hml, hown, hts⟩, hK, hJ⟩ := hF
  have hap := va_apart (own := own) hts hin ty0 hty hnm hK hcl
  obtain ⟨r, hr1, cell, q1, q2, q3, q4⟩ := hG.1.one ho hc 0 _ rfl
  have hr : r = (Cn, T, N) := Option.some.inj (hr1.symm.trans hcl)
  subst hr
  obtain ⟨hS, hfc, kC, hkC, hkind⟩ := hK.1 ci _ hcl
  obtain ⟨cf, kf, fi, f, hi, hsl⟩ := hS k hk
  have hlay := hts _ (hin _ (u_in_lay hk))
  unfold u_lay at hlay
  rw [if_neg (by rw [hfin]; decide)] at hlay
  have hst := (u_facts hfc hkC (u_lays hts hin hk) hi).1
  have h6 := u_store hfc hkC hkind hlay hi hd hn hfit
  refine W.putK hx hb (f := f) ⟨hown, hts _ hlink, ⟨_, _, _, by rw [hT] at hi; exact hi⟩, hst⟩ (by rw [q2]; exact h6) q1 q3 (by rw [hsl]; exact k2_hasslot (q4 k hk)) rfl rfl hdg fun H' e1 e2 e3 => ?_
  rw [hsl] at e1 ⊢
  refine kk H' _ ⟨hG.1.put hJ ho h1 ?_ e3, hG.2.put e2 e3 ⟨a, o, ho, rfl⟩⟩
  rw [hnew]
  exact ⟨_, hcl, t_OB.to (V := updV (vp_V fs) k v) ⟨_, e1, q2, q3, t_set q4 hap hk v⟩ (fun j _ => vp_updV_set hl v j)⟩
theorem z_iald {n a o j : Nat} {i v : Int32} (hF : z_F D C ad p m c cc nL s args own) (hG : z_G D C ad H0 S H locs) (ho : o < z_n a) (hc : z_c C ad (S.1 a o) (S.2 a o) a o = .inl (C 0, n, .inl (S.1 a o))) (hj : i.toNatClampNeg = j) (hin : vp_in i n) (hv : S.1 a o j = v) (hdg : decode cc pc = .ok (.iaload, 1))
    (kk : W p l e R s m args below meth c H locs cells slots Q (F0 m (pc + 1) ls (.int v :: rest))) : W p l e R s m args below meth c H locs cells slots Q (F0 m pc ls (.int i :: .ref (ad a o) :: rest)) := by
  subst hj; subst hv
  exact va_iald hF.1.1 hF.1.2.1 hF.2.1 (hG.1.one ho hc) 0 0 rfl rfl hin hdg kk
theorem z_zald {n a o j : Nat} {i v : Int32} (hF : z_F D C ad p m c cc nL s args own) (hG : z_G D C ad H0 S H locs) (ho : o < z_n a) (hc : z_c C ad (S.1 a o) (S.2 a o) a o = .inl (C 1, n, .inl (S.1 a o))) (hj : i.toNatClampNeg = j) (hin : vp_in i n) (hv : S.1 a o j = v) (hdg : decode cc pc = .ok (.baload, 1))
    (kk : W p l e R s m args below meth c H locs cells slots Q (F0 m (pc + 1) ls (.int v :: rest))) : W p l e R s m args below meth c H locs cells slots Q (F0 m pc ls (.int i :: .ref (ad a o) :: rest)) := by
  subst hj; subst hv
  exact va_zald hF.1.1 hF.1.2.1 hF.2.1 (hG.1.one ho hc) 0 1 rfl rfl hin hdg kk
theorem z_lald {n a o j : Nat} {i : Int32} {v : Int64} (hF : z_F D C ad p m c cc nL s args own) (hG : z_G D C ad H0 S H locs) (ho : o < z_n a) (hc : z_c C ad (S.1 a o) (S.2 a o) a o = .inl (C 2, n, .inr (.inl (S.2 a o)))) (hj : i.toNatClampNeg = j) (hin : vp_in i n) (hv : S.2 a o j = v) (hdg : decode cc pc = .ok (.laload, 1))
    (kk : W p l e R s m args below meth c H locs cells slots Q (F0 m (pc + 1) ls (.long v :: rest))) : W p l e R s m args below meth c H locs cells slots Q (F0 m pc ls (.int i :: .ref (ad a o) :: rest)) := by
  subst hj; subst hv
  exact va_lald hF.1.1 hF.1.2.1 hF.2.1 (hG.1.one ho hc) 0 2 rfl rfl hin hdg kk
theorem z_aald {n a o j t0 : Nat} {i : Int32} {v : Nat} {K : Nat} {Cn : String} {f : Nat → Option Nat} (hF : z_F D C ad p m c cc nL s args own) (hG : z_G D C ad H0 S H locs) (ho : o < z_n a) (hc : z_c C ad (S.1 a o) (S.2 a o) a o = .inl (C K, n, .inr (.inr (.inr (.inr f))))) (ht : (z_tys C)[t0]? = some (C K, .object Cn)) (hj : i.toNatClampNeg = j) (hin : vp_in i n) (hv : f j = some v) (hdg : decode cc pc = .ok (.aaload, 1))
    (kk : W p l e R s m args below meth c H locs cells slots Q (F0 m (pc + 1) ls (.ref v :: rest))) : W p l e R s m args below meth c H locs cells slots Q (F0 m pc ls (.int i :: .ref (ad a o) :: rest)) := by
  subst hj
  refine va_aldq hF.1.1 hF.1.2.1 hF.2.1 (hG.1.one ho hc) 0 t0 rfl ht hin hdg ?_
  rw [hv]
  exact kk
theorem z_iast {n a o j : Nat} {i x : Int32} (hF : z_F D C ad p m c cc nL s args own) (hG : z_G D C ad H0 S H locs) (ho : o < z_n a) (hc : ∀ f g, z_c C ad f g a o = .inl (C 0, n, .inl f)) (hj : i.toNatClampNeg = j) (hin : vp_in i n) (hdg : decode cc pc = .ok (.iastore, 1))
    (kk : ∀ (H1 : Heap) (locs1 : List Loc), z_G D C ad H0 (z_sI S a o j x) H1 locs1 → W p l e R s m args below meth c H1 locs1 cells slots Q (F0 m (pc + 1) ls rest)) : W p l e R s m args below meth c H locs cells slots Q (F0 m pc ls (.int x :: .int i :: .ref (ad a o) :: rest)) := by
  subst hj
  obtain ⟨⟨hx, hb, hml, hown, hts⟩, hK, hJ⟩ := hF
  have h0 := hG.1.one ho (hc _ _) 0 _ rfl
  refine W.iast hx hb h0 ((hK.2 0 _ rfl).1 n (fun j => .int (S.1 a o j))) (fun q => by cases q) (by show ¬ (i < 0 ∨ (arrV _ _ _).slots.size ≤ _); rw [arrV_size]; exact hin) rfl rfl hdg fun H1 e z oq => ?_
  refine kk H1 _ ⟨hG.1.put hJ ho (fun a' o' hne => ⟨z_sI_ne S a o _ x hne, rfl⟩) ?_ oq, hG.2.put z oq ⟨a, o, ho, rfl⟩⟩
  rw [hc, z_sI_at]
  show H1[ad a o]? = some (vp_cell _ _)
  rw [e]
  show some ((vp_cell (C 0) (n, .inl (S.1 a o))).setSlot _ _) = _
  rw [vp_cell_i, vp_cell_i, arrV_store]
  congr 2
  funext q
  by_cases hq : q = i.toNatClampNeg
  · subst hq
    simp [updV, upd]
  · simp [updV, upd, hq]
theorem z_zast {n a o j : Nat} {i x : Int32} (hF : z_F D C ad p m c cc nL s args own) (hG : z_G D C ad H0 S H locs) (ho : o < z_n a) (hc : ∀ f g, z_c C ad f g a o = .inl (C 1, n, .inl f)) (hj : i.toNatClampNeg = j) (hin : vp_in i n) (hn : narrow .boolean (.int x) = .int x) (hdg : decode cc pc = .ok (.bastore, 1))
    (kk : ∀ (H1 : Heap) (locs1 : List Loc), z_G D C ad H0 (z_sI S a o j x) H1 locs1 → W p l e R s m args below meth c H1 locs1 cells slots Q (F0 m (pc + 1) ls rest)) : W p l e R s m args below meth c H locs cells slots Q (F0 m pc ls (.int x :: .int i :: .ref (ad a o) :: rest)) := by
  subst hj
  obtain ⟨⟨hx, hb, hml, hown, hts⟩, hK, hJ⟩ := hF
  have h0 := hG.1.one ho (hc _ _) 0 _ rfl
  refine W.zast hx hb h0 ((hK.2 1 _ rfl).1 n (fun j => .int (S.1 a o j))) (fun q => by cases q) (by show ¬ (i < 0 ∨ (arrV _ _ _).slots.size ≤ _); rw [arrV_size]; exact hin) rfl rfl hdg fun H1 e z oq => ?_
  refine kk H1 _ ⟨hG.1.put hJ ho (fun a' o' hne => ⟨z_sI_ne S a o _ x hne, rfl⟩) ?_ oq, hG.2.put z oq ⟨a, o, ho, rfl⟩⟩
  rw [hc, z_sI_at]
  show H1[ad a o]? = some (vp_cell _ _)
  rw [e, hn]
  show some ((vp_cell (C 1) (n, .inl (S.1 a o))).setSlot _ _) = _
  rw [vp_cell_i, vp_cell_i, arrV_store]
  congr 2
  funext q
  by_cases hq : q = i.toNatClampNeg
  · subst hq
    simp [updV, upd]
  · simp [updV, upd, hq]
theorem z_last {n a o j : Nat} {i : Int32} {x : Int64} (hF : z_F D C ad p m c cc nL s args own) (hG : z_G D C ad H0 S H locs) (ho : o < z_n a) (hc : ∀ f g, z_c C ad f g a o = .inl (C 2, n, .inr (.inl g))) (hj : i.toNatClampNeg = j) (hin : vp_in i n) (hdg : decode cc pc = .ok (.lastore, 1))
    (kk : ∀ (H1 : Heap) (locs1 : List Loc), z_G D C ad H0 (z_sL S a o j x) H1 locs1 → W p l e R s m args below meth c H1 locs1 cells slots Q (F0 m (pc + 1) ls rest)) : W p l e R s m args below meth c H locs cells slots Q (F0 m pc ls (.long x :: .int i :: .ref (ad a o) :: rest)) := by
  subst hj
  obtain ⟨⟨hx, hb, hml, hown, hts⟩, hK, hJ⟩ := hF
  have h0 := hG.1.one ho (hc _ _) 0 _ rfl
  refine W.last hx hb h0 ((hK.2 2 _ rfl).1 n (fun j => .long (S.2 a o j))) (fun q => by cases q) (by show ¬ (i < 0 ∨ (arrV _ _ _).slots.size ≤ _); rw [arrV_size]; exact hin) rfl rfl hdg fun H1 e z oq => ?_
  refine kk H1 _ ⟨hG.1.put hJ ho (fun a' o' hne => ⟨rfl, z_sL_ne S a o _ x hne⟩) ?_ oq, hG.2.put z oq ⟨a, o, ho, rfl⟩⟩
  rw [hc, z_sL_at]
  show H1[ad a o]? = some (vp_cell _ _)
  rw [e]
  show some ((vp_cell (C 2) (n, .inr (.inl (S.2 a o)))).setSlot _ _) = _
  rw [vp_cell_l, vp_cell_l, arrV_store]
  congr 2
  funext q
  by_cases hq : q = i.toNatClampNeg
  · subst hq
    simp [updV, vp_updL]
  · simp [updV, vp_updL, hq]
end ZW
/-! Contracts over the whole world: from contents S a method with arguments av answers r and leaves contents S'. -/
def z_Pre (D : va_G) (C : Nat → ClassId) (ad : Nat → Nat → Nat) (S : z_S) (U : State) : Prop := z_W D C ad S U.heap ∧ va_K D z_cl (z_tys C) U
abbrev z_Qi (D : va_G) (C : Nat → ClassId) (ad : Nat → Nat → Nat) (r : Int32) (S' : z_S) : Array Value → State → Outcome → State → Prop := va_Qi (fun (r' : Int32) (u : z_S) => r' = r ∧ u = S') (fun u t => z_W D C ad u t.heap) (z_A ad)
abbrev z_Ql (D : va_G) (C : Nat → ClassId) (ad : Nat → Nat → Nat) (r : Int64) (S' : z_S) : Array Value → State → Outcome → State → Prop := va_Ql (fun (r' : Int64) (u : z_S) => r' = r ∧ u = S') (fun u t => z_W D C ad u t.heap) (z_A ad)
abbrev z_Qv (D : va_G) (C : Nat → ClassId) (ad : Nat → Nat → Nat) (S' : z_S) : Array Value → State → Outcome → State → Prop := va_Qv (fun (u : z_S) => u = S') (fun u t => z_W D C ad u t.heap) (z_A ad)
abbrev z_Qq (D : va_G) (C : Nat → ClassId) (ad : Nat → Nat → Nat) (r : Option Nat) (S' : z_S) : Array Value → State → Outcome → State → Prop := va_Qq (fun (r' : Option Nat) (u : z_S) => r' = r.map (ad 14) ∧ u = S') (fun u t => z_W D C ad u t.heap) (z_A ad)
abbrev z_M (l : Launch) (y : MethodName) (b : ByteArray) (n : Nat) (ret : Option FieldType) (rm : Room) (D : va_G) (C : Nat → ClassId) (ad : Nat → Nat → Nat) (av : List Value) (S : z_S) (Qc : Array Value → State → Outcome → State → Prop) : Prop := Met l y (z_ws y b n ret) rm (va_Pc av (z_Pre D C ad S)) Qc 0 0 (z_A ad)
theorem z_blind {D : va_G} {C : Nat → ClassId} {ad : Nat → Nat → Nat} {S : z_S} {av : List Value} : FrameBlind (va_Pc av (z_Pre D C ad S)) := fun a U g mk q => by
  obtain ⟨q0, q1, q2⟩ := q
  exact ⟨q0, q1, va_K.moved (u := U) (U := U.calling g mk a) (Vm.Alike.refl U.vm) q2⟩
theorem z_enter {l : Launch} {y : MethodName} {b : ByteArray} {n : Nat} {ret : Option FieldType} {rm : Room} {D : va_G} {C : Nat → ClassId} {ad : Nat → Nat → Nat} {av : List Value} {S : z_S} {Qc : Array Value → State → Outcome → State → Prop} (hy : plainName y.cls = true) (hav : (lg_sl av).length ≤ n) (hJ : z_J ad)
    (body : ∀ (p : Program) (e : Env) (s : State) (m : MethodId) (below : List Frame) (meth : Method) (c : Code) (ls : Array Slot), z_F D C ad p m c b n s av.toArray y.cls → meth.sig.returnType = ret → meth.locks = false → lv_has ls n (lv_args 0 av) → z_G D C ad s.heap S s.heap [] → W p l e rm s m av.toArray below meth c s.heap [] 0 0 (MQ below Qc av.toArray s 0 0 (z_A ad)) (F0 m 0 ls [])) : z_M l y b n ret rm D C ad av S Qc := by
  refine Met.ofW (cc := b) (maxL := n) (ret := ret) hy rfl ?_
  intro p e s m args below meth c s₁ B hml hv
  obtain ⟨rfl, hW, hK⟩ := hv
  have hts := atoms_spec (ws := z_ws y b n ret) B.pre
  have hown : s.vm.findClass y.cls = some m.cls := findClass_of_methodNamed B.named
  rw [lg_entry_eq]
  exact body p e s m below meth c _ ⟨⟨B.exec, B.bytes, hml, hown, fun w hw => hts w (List.mem_cons_of_mem _ hw)⟩, hK, hJ⟩ B.returns B.notSynchronized (lv_entry av hav) ⟨hW, va_S.rf⟩
section ZC
variable {D : va_G} {C : Nat → ClassId} {ad : Nat → Nat → Nat} {S : z_S}
variable {p : Program} {l : Launch} {e : Env} {R : Room} {s : State} {m : MethodId} {args : Array Value} {below : List Frame} {meth : Method} {c : Code} {H H0 : Heap} {locs : List Loc} {cells slots : Nat} {Q : State → Prop}
variable {cc : ByteArray} {nL pc : Nat} {ls : Array Slot} {rest : List Value} {own : String}
theorem z_iret {v r0 : Int32} {S0 : z_S} (hF : z_F D C ad p m c cc nL s args own) (hr : meth.sig.returnType = some .int) (hlk : meth.locks = false) (hG : z_G D C ad s.heap S H locs) (e1 : v = r0) (e2 : S = S0) (hdg : decode cc pc = .ok (.ireturn, 1)) : W p l e R s m args below meth c H locs 0 0 (MQ below (z_Qi D C ad r0 S0) args s 0 0 (z_A ad)) (F0 m pc ls [.int v]) :=
  W.iret hF.1.1 hF.1.2.1 hr (fun t ht _ => ⟨⟨v, S, rfl, ⟨e1, e2⟩, by show z_W D C ad S t.heap; rw [ht]; exact hG.1⟩, hG.2.F ht⟩) hG.2.2.2 hdg hlk
theorem z_zret {v r0 : Int32} {S0 : z_S} (hF : z_F D C ad p m c cc nL s args own) (hr : meth.sig.returnType = some .boolean) (hlk : meth.locks = false) (hn : narrow .boolean (.int v) = .int v) (hG : z_G D C ad s.heap S H locs) (e1 : v = r0) (e2 : S = S0) (hdg : decode cc pc = .ok (.ireturn, 1)) : W p l e R s m args below meth c H locs 0 0 (MQ below (z_Qi D C ad r0 S0) args s 0 0 (z_A ad)) (F0 m pc ls [.int v]) :=
  W.zret hF.1.1 hF.1.2.1 hr hn (fun t ht _ => ⟨⟨v, S, rfl, ⟨e1, e2⟩, by show z_W D C ad S t.heap; rw [ht]; exact hG.1⟩, hG.2.F ht⟩) hG.2.2.2 hdg hlk
theorem z_lret {v r0 : Int64} {S0 : z_S} (hF : z_F D C ad p m c cc nL s args own) (hr : meth.sig.returnType = some .long) (hlk : meth.locks = false) (hG : z_G D C ad s.heap S H locs) (e1 : v = r0) (e2 : S = S0) (hdg : decode cc pc = .ok (.lreturn, 1)) : W p l e R s m args below meth c H locs 0 0 (MQ below (z_Ql D C ad r0 S0) args s 0 0 (z_A ad)) (F0 m pc ls [.long v]) :=
  W.lret hF.1.1 hF.1.2.1 hr (fun t ht _ => ⟨⟨v, S, rfl, ⟨e1, e2⟩, by show z_W D C ad S t.heap; rw [ht]; exact hG.1⟩, hG.2.F ht⟩) hG.2.2.2 hdg hlk
theorem z_vret {S0 : z_S} (hF : z_F D C ad p m c cc nL s args own) (hr : meth.sig.returnType = none) (hlk : meth.locks = false) (hG : z_G D C ad s.heap S H locs) (e2 : S = S0) (hdg : decode cc pc = .ok (.return_, 1)) : W p l e R s m args below meth c H locs 0 0 (MQ below (z_Qv D C ad S0) args s 0 0 (z_A ad)) (F0 m pc ls []) :=
  W.vret hF.1.1 hF.1.2.1 hr (fun t ht _ => ⟨⟨S, rfl, e2, by show z_W D C ad S t.heap; rw [ht]; exact hG.1⟩, hG.2.F ht⟩) hG.2.2.2 hdg hlk
theorem z_qret {v : Value} {r0 : Option Nat} {S0 : z_S} {n : String} (hF : z_F D C ad p m c cc nL s args own) (hr : meth.sig.returnType = some (.object n)) (hlk : meth.locks = false) (hG : z_G D C ad s.heap S H locs) (e1 : v = va_rf (r0.map (ad 14))) (e2 : S = S0) (hdg : decode cc pc = .ok (.areturn, 1)) : W p l e R s m args below meth c H locs 0 0 (MQ below (z_Qq D C ad r0 S0) args s 0 0 (z_A ad)) (F0 m pc ls [v]) :=
  W.aret hF.1.1 hF.1.2.1 hr (Or.inl ⟨n, rfl⟩) (by rw [e1]; exact va_rf_or _) (fun t ht _ => ⟨⟨r0.map (ad 14), S, by rw [e1], ⟨rfl, e2⟩, by show z_W D C ad S t.heap; rw [ht]; exact hG.1⟩, hG.2.F ht⟩) hG.2.2.2 hdg hlk
variable {y : MethodName} {b : ByteArray} {n index : Nat} {ret : Option FieldType} {rm : Room} {Qc : Array Value → State → Outcome → State → Prop} {As : List Value} {st : List Value}
theorem z_runV {a o ci N : Nat} {fs : List Value} {T : u_T} (hF : z_F D C ad p m c cc nL s args own) (hM : z_M l y b n ret rm D C ad (.ref (ad a o) :: As) S Qc) (hG : z_G D C ad H0 S H locs) (ho : o < z_n a) (hc : z_c C ad (S.1 a o) (S.2 a o) a o = .inr (ci, fs)) (hcl : z_cl[ci]? = some (y.cls, T, N)) (hl : Cond.methodLink own index y ∈ z_T) (hi : Cond.instanceMethod y ∈ z_T) (hs : Cond.selects y.cls y y ∈ z_T) (hini : Cond.initialized y.cls ∈ z_T) (hcode : Cond.code y b n ret ∈ z_T) (hd : y.cls ≠ "java/lang/invoke/MethodHandle" ∧ y.cls ≠ "java/lang/invoke/VarHandle" ∧ (parseMethodDescriptor y.desc).map (fun d => d.parameters.length) = some As.length) (hrc : rm.cells = 0) (hrs : rm.slots = 0) (hR : rm.frames + 1 ≤ R.frames ∧ 8 + (n + 11) + rm.locals ≤ R.locals) (hcs : cells ≤ R.cells ∧ slots ≤ R.slots) (hsz : ls.size = nL) (hcat : (rest.map fun v => v.category).sum ≤ 8) (hst : st = As.reverse ++ .ref (ad a o) :: rest) (hdg : decode cc pc = .ok (.invokevirtual index, 3)) : va_Run p l e R s m args below meth c H locs cells slots 0 0 (F0 m pc ls st) rest (Qc (Value.ref (ad a o) :: As).toArray) (z_A ad) :=
  va_runV (Ts := z_T) (C := y.cls) hF.1 hM ⟨callB_of As.length hF.1.2.2.2.2 (z_good hcode) rfl hrc hrs (hF.1.2.2.2.2 _ hini) (hF.1.2.2.2.2 _ hl) hd hR, hF.1.2.2.2.2 _ hi, hF.1.2.2.2.2 _ hs⟩ ⟨z_blind, va_recv hF.2.1 (hG.1.one ho hc) hcl (q0 := 0) rfl, fun U hU hW => ⟨rfl, by rw [hU]; exact hG.1, va_K.moved hW.alike hF.2.1⟩⟩ rfl rfl hsz hst (lv_room hcat) hdg hcs
theorem z_runS (hF : z_F D C ad p m c cc nL s args own) (hM : z_M l y b n ret rm D C ad As S Qc) (hG : z_G D C ad H0 S H locs) (hl : Cond.methodLink own index y ∈ z_T) (hi : Cond.static y ∈ z_T) (hini : Cond.initialized y.cls ∈ z_T) (hcode : Cond.code y b n ret ∈ z_T) (hd : y.cls ≠ "java/lang/invoke/MethodHandle" ∧ y.cls ≠ "java/lang/invoke/VarHandle" ∧ (parseMethodDescriptor y.desc).map (fun d => d.parameters.length) = some As.length) (hrc : rm.cells = 0) (hrs : rm.slots = 0) (hR : rm.frames + 1 ≤ R.frames ∧ 8 + (n + 11) + rm.locals ≤ R.locals) (hcs : cells ≤ R.cells ∧ slots ≤ R.slots) (hsz : ls.size = nL) (hcat : (rest.map fun v => v.category).sum ≤ 8) (hst : st = As.reverse ++ rest) (hdg : decode cc pc = .ok (.invokestatic index, 3)) : va_Run p l e R s m args below meth c H locs cells slots 0 0 (F0 m pc ls st) rest (Qc As.toArray) (z_A ad) :=
  va_runS (Ts := z_T) hF.1 hM ⟨callB_of As.length hF.1.2.2.2.2 (z_good hcode) rfl hrc hrs (hF.1.2.2.2.2 _ hini) (hF.1.2.2.2.2 _ hl) hd hR, hF.1.2.2.2.2 _ hi⟩ ⟨z_blind, fun U hU hW => ⟨rfl, by rw [hU]; exact hG.1, va_K.moved hW.alike hF.2.1⟩⟩ rfl rfl hsz hst (lv_room hcat) hdg hcs
theorem z_ci {r : Int32} {S' : z_S} {a : Array Value} (hr : va_Run p l e R s m args below meth c H locs cells slots 0 0 (F0 m pc ls st) rest (z_Qi D C ad r S' a) (z_A ad)) (hG : z_G D C ad H0 S H locs) (kk : ∀ (H1 : Heap) (locs1 : List Loc), z_G D C ad H0 S' H1 locs1 → W p l e R s m args below meth c H1 locs1 cells slots Q (F0 m (pc + 3) ls (.int r :: rest))) : W p l e R s m args below meth c H locs cells slots Q (F0 m pc ls st) :=
  va_calli hr hG.2 (fun q _ h => h) (fun q h => h) (fun r u t H1 locs1 ht _ hw hB _ _ hS => by
    obtain ⟨rfl, rfl⟩ := hw
    exact kk H1 locs1 ⟨by rw [← ht]; exact hB, hS⟩)
theorem z_cj {r : Int64} {S' : z_S} {a : Array Value} (hr : va_Run p l e R s m args below meth c H locs cells slots 0 0 (F0 m pc ls st) rest (z_Ql D C ad r S' a) (z_A ad)) (hG : z_G D C ad H0 S H locs) (kk : ∀ (H1 : Heap) (locs1 : List Loc), z_G D C ad H0 S' H1 locs1 → W p l e R s m args below meth c H1 locs1 cells slots Q (F0 m (pc + 3) ls (.long r :: rest))) : W p l e R s m args below meth c H locs cells slots Q (F0 m pc ls st) :=
  va_calll hr hG.2 (fun q _ h => h) (fun q h => h) (fun r u t H1 locs1 ht _ hw hB _ _ hS => by
    obtain ⟨rfl, rfl⟩ := hw
    exact kk H1 locs1 ⟨by rw [← ht]; exact hB, hS⟩)
theorem z_cv {S' : z_S} {a : Array Value} (hr : va_Run p l e R s m args below meth c H locs cells slots 0 0 (F0 m pc ls st) rest (z_Qv D C ad S' a) (z_A ad)) (hG : z_G D C ad H0 S H locs) (kk : ∀ (H1 : Heap) (locs1 : List Loc), z_G D C ad H0 S' H1 locs1 → W p l e R s m args below meth c H1 locs1 cells slots Q (F0 m (pc + 3) ls rest)) : W p l e R s m args below meth c H locs cells slots Q (F0 m pc ls st) :=
  va_callv hr hG.2 (fun q _ h => h) (fun q h => h) (fun u t H1 locs1 ht _ hw hB _ _ hS => by
    subst hw
    exact kk H1 locs1 ⟨by rw [← ht]; exact hB, hS⟩)
theorem z_cq {r : Option Nat} {S' : z_S} {a : Array Value} (hr : va_Run p l e R s m args below meth c H locs cells slots 0 0 (F0 m pc ls st) rest (z_Qq D C ad r S' a) (z_A ad)) (hG : z_G D C ad H0 S H locs) (kk : ∀ (H1 : Heap) (locs1 : List Loc), z_G D C ad H0 S' H1 locs1 → W p l e R s m args below meth c H1 locs1 cells slots Q (F0 m (pc + 3) ls (va_rf (r.map (ad 14)) :: rest))) : W p l e R s m args below meth c H locs cells slots Q (F0 m pc ls st) :=
  va_callq hr hG.2 (fun q _ h => h) (fun q h => h) (fun r u t H1 locs1 ht _ hw hB _ _ hS => by
    obtain ⟨rfl, rfl⟩ := hw
    exact kk H1 locs1 ⟨by rw [← ht]; exact hB, hS⟩)
end ZC
theorem z_rI (S : z_S) (a o j : Nat) (v : Int32) (a' o' j' : Nat) : (z_sI S a o j v).1 a' o' j' = if a' = a ∧ o' = o ∧ j' = j then v else S.1 a' o' j' := by
  show cond (Nat.beq a' a) (cond (Nat.beq o' o) (cond (Nat.beq j' j) v (S.1 a' o' j')) (S.1 a' o' j')) (S.1 a' o' j') = _
  by_cases h1 : a' = a
  · by_cases h2 : o' = o
    · by_cases h3 : j' = j
      · rw [z_bt h1, z_bt h2, z_bt h3, if_pos ⟨h1, h2, h3⟩]; rfl
      · rw [z_bt h1, z_bt h2, z_bf h3, if_neg (fun h => h3 h.2.2)]; rfl
    · rw [z_bt h1, z_bf h2, if_neg (fun h => h2 h.2.1)]; rfl
  · rw [z_bf h1, if_neg (fun h => h1 h.1)]; rfl
theorem z_rL (S : z_S) (a o j : Nat) (v : Int64) (a' o' j' : Nat) : (z_sL S a o j v).2 a' o' j' = if a' = a ∧ o' = o ∧ j' = j then v else S.2 a' o' j' := by
  show cond (Nat.beq a' a) (cond (Nat.beq o' o) (cond (Nat.beq j' j) v (S.2 a' o' j')) (S.2 a' o' j')) (S.2 a' o' j') = _
  by_cases h1 : a' = a
  · by_cases h2 : o' = o
    · by_cases h3 : j' = j
      · rw [z_bt h1, z_bt h2, z_bt h3, if_pos ⟨h1, h2, h3⟩]; rfl
      · rw [z_bt h1, z_bt h2, z_bf h3, if_neg (fun h => h3 h.2.2)]; rfl
    · rw [z_bt h1, z_bf h2, if_neg (fun h => h2 h.2.1)]; rfl
  · rw [z_bf h1, if_neg (fun h => h1 h.1)]; rfl
theorem z_rIL (S : z_S) (a o j : Nat) (v : Int32) : (z_sI S a o j v).2 = S.2 := rfl
theorem z_rLI (S : z_S) (a o j : Nat) (v : Int64) : (z_sL S a o j v).1 = S.1 := rfl
theorem z_incN (k : Nat) : nI k + Int32.ofInt 1 = nI (k + 1) := nI_add k 1
theorem z_lt {i : Int32} {n : Nat} (h : vp_in i n) : i.toNatClampNeg < n := Nat.not_le.mp fun q => h (Or.inr q)
theorem z_inb {i : Int32} {n : Nat} (h0 : 0 ≤ i) (h : i < nI n) (hn : n < 2 ^ 31 := by decide) : vp_in i n := by
  rw [vp_in_iff]
  rw [Int32.le_iff_toInt_le, Int32.toInt_zero] at h0
  rw [Int32.lt_iff_toInt_lt, nI_toInt hn] at h
  exact ⟨h0, h⟩
theorem z_pred (N : Nat) : nI (N + 1) - 1 = nI N := by
  rw [nI_succ, Int32.add_sub_cancel]
theorem z_tab1_4 {x : Int32} (h1 : ¬ x = 1) (h2 : ¬ x = 2) (h3 : ¬ x = 3) (h4 : ¬ x = 4) : x.toInt < 1 ∨ 4 < x.toInt := by
  have n1 := lv_neT h1 (a := 1) rfl
  have n2 := lv_neT h2 (a := 2) rfl
  have n3 := lv_neT h3 (a := 3) rfl
  have n4 := lv_neT h4 (a := 4) rfl
  omega
theorem z_tab0_2 {x : Int32} (h1 : ¬ x = 0) (h2 : ¬ x = 1) (h3 : ¬ x = 2) : x.toInt < 0 ∨ 2 < x.toInt := by
  have n1 := lv_neT h1 (a := 0) rfl
  have n2 := lv_neT h2 (a := 1) rfl
  have n3 := lv_neT h3 (a := 2) rfl
  omega
theorem z_pla {d b : Nat} (hd : d < 6) (hb : b < 16) : vp_in (nI d * 16 + nI b) 96 := by
  show vp_in (nI d * nI 16 + nI b) 96
  rw [pk_mul, nI_add]
  exact vp_in_nI (by omega) (by decide)
theorem z_spG {x0 : Int32} {b j : Nat} (hd : vp_in x0 6) (hb : b < 16) (hj : j < 4) : vp_in (x0 * 16 + (nI b * 4 + nI j) / 4) 96 := by
  obtain ⟨d, hd', rfl⟩ := vp_in_of hd (by decide)
  have e : (nI b * 4 + nI j) / 4 = nI b := by
    show (nI b * nI 4 + nI j) / nI 4 = nI b
    rw [pk_mul, nI_add, pk_div (by omega) (by decide) (by decide)]
    exact congrArg nI (by omega)
  rw [e]
  exact z_pla hd' hb
theorem z_spA {x0 x1 : Int32} {j : Nat} (hd : vp_in x0 6) (hp : vp_in x1 8) (hj : j < 4) : vp_in (x0 * 16 + (x1 * 4 + nI j) / 4) 96 := by
  obtain ⟨b, hb, rfl⟩ := vp_in_of hp (by decide)
  exact z_spG hd (by omega) hj
theorem z_spB {x0 x1 : Int32} {j : Nat} (hd : vp_in x0 6) (hp : vp_in x1 8) (hj : j < 4) : vp_in (x0 * 16 + ((x1 + 8) * 4 + nI j) / 4) 96 := by
  obtain ⟨b, hb, rfl⟩ := vp_in_of hp (by decide)
  have e : nI b + 8 = nI (b + 8) := nI_add b 8
  rw [e]
  exact z_spG hd (by omega) hj
theorem z_sp3 {x1 x2 : Int32} (hp : vp_in x1 8) (hq : x2.toInt ≤ 16) : x2 ≤ x1 + 8 + 8 := by
  obtain ⟨b, hb, rfl⟩ := vp_in_of hp (by decide)
  have e : nI b + 8 + 8 = nI (b + 16) := by
    show nI b + nI 8 + nI 8 = _
    rw [nI_add, nI_add]
  rw [e, Int32.le_iff_toInt_le, nI_toInt (by omega)]
  omega
theorem z_spa0 {x0 x1 : Int32} (hd : vp_in x0 6) (hp : vp_in x1 8) : vp_in (x0 * 16 + (x1 * 4 + 0) / 4) 96 := z_spA (j := 0) hd hp (by decide)
theorem z_spa1 {x0 x1 : Int32} (hd : vp_in x0 6) (hp : vp_in x1 8) : vp_in (x0 * 16 + (x1 * 4 + 1) / 4) 96 := z_spA (j := 1) hd hp (by decide)
theorem z_spa2 {x0 x1 : Int32} (hd : vp_in x0 6) (hp : vp_in x1 8) : vp_in (x0 * 16 + (x1 * 4 + 2) / 4) 96 := z_spA (j := 2) hd hp (by decide)
theorem z_spa3 {x0 x1 : Int32} (hd : vp_in x0 6) (hp : vp_in x1 8) : vp_in (x0 * 16 + (x1 * 4 + 3) / 4) 96 := z_spA (j := 3) hd hp (by decide)
theorem z_spb0 {x0 x1 : Int32} (hd : vp_in x0 6) (hp : vp_in x1 8) : vp_in (x0 * 16 + ((x1 + 8) * 4 + 0) / 4) 96 := z_spB (j := 0) hd hp (by decide)
theorem z_spb1 {x0 x1 : Int32} (hd : vp_in x0 6) (hp : vp_in x1 8) : vp_in (x0 * 16 + ((x1 + 8) * 4 + 1) / 4) 96 := z_spB (j := 1) hd hp (by decide)
theorem z_spb2 {x0 x1 : Int32} (hd : vp_in x0 6) (hp : vp_in x1 8) : vp_in (x0 * 16 + ((x1 + 8) * 4 + 2) / 4) 96 := z_spB (j := 2) hd hp (by decide)
theorem z_spb3 {x0 x1 : Int32} (hd : vp_in x0 6) (hp : vp_in x1 8) : vp_in (x0 * 16 + ((x1 + 8) * 4 + 3) / 4) 96 := z_spB (j := 3) hd hp (by decide)
end
section
theorem z_intb {w : Cond} {i : Nat} (h : tables_1[i]? = some w) : w ∈ lw_tbl := List.mem_append_right _ (List.mem_of_getElem? h)
theorem z_insel {w : Cond} {i : Nat} (h : (k2_sels lw_privs)[i]? = some w) : w ∈ lw_tbl := List.mem_append_left _ (List.mem_of_getElem? h)
theorem wly_X_0 : Cond.laysFinal R_X R_X "houses" "[LPolledHouses$House;" ∈ z_T := z_inT (z_intb (i := 147) (by decide +kernel)) rfl
theorem wly_X_1 : Cond.laysFinal R_X R_X "blockCounts" "[I" ∈ z_T := z_inT (z_intb (i := 149) (by decide +kernel)) rfl
theorem wly_X_2 : Cond.laysFinal R_X R_X "row" "LPolledHouses$Row;" ∈ z_T := z_inT (z_intb (i := 151) (by decide +kernel)) rfl
theorem wly_X_3 : Cond.laysFinal R_X R_X "places" "[LPolledHouses$Poll;" ∈ z_T := z_inT (z_intb (i := 153) (by decide +kernel)) rfl
theorem wly_X_4 : Cond.laysFinal R_X R_X "results" "[I" ∈ z_T := z_inT (z_intb (i := 155) (by decide +kernel)) rfl
theorem wly_X_5 : Cond.laysFinal R_X R_X "rounds" "LPolledHouses$Rounds;" ∈ z_T := z_inT (z_intb (i := 157) (by decide +kernel)) rfl
theorem wly_X_6 : Cond.lays R_X R_X "pollCount" "I" ∈ z_T := z_inT (z_intb (i := 159) (by decide +kernel)) rfl
theorem wly_X_7 : Cond.lays R_X R_X "disputeCount" "I" ∈ z_T := z_inT (z_intb (i := 161) (by decide +kernel)) rfl
theorem wl_X : ∀ w ∈ u_ws R_X F_X 8, w ∈ z_T := by
  intro w hw
  obtain ⟨k, hk, rfl⟩ := List.mem_map.mp hw
  have hk := List.mem_range.mp hk
  rcases (show k = 0 ∨ k = 1 ∨ k = 2 ∨ k = 3 ∨ k = 4 ∨ k = 5 ∨ k = 6 ∨ k = 7 by omega) with rfl | rfl | rfl | rfl | rfl | rfl | rfl | rfl
  · exact wly_X_0
  · exact wly_X_1
  · exact wly_X_2
  · exact wly_X_3
  · exact wly_X_4
  · exact wly_X_5
  · exact wly_X_6
  · exact wly_X_7
theorem wly_H_0 : Cond.lays R_H R_H "isOpen" "Z" ∈ z_T := z_inT (z_intb (i := 78) (by decide +kernel)) rfl
theorem wly_H_1 : Cond.lays R_H R_H "mendCount" "I" ∈ z_T := z_inT (z_intb (i := 80) (by decide +kernel)) rfl
theorem wly_H_2 : Cond.laysFinal R_H R_H "words" "[I" ∈ z_T := z_inT (z_intb (i := 82) (by decide +kernel)) rfl
theorem wl_H : ∀ w ∈ u_ws R_H F_H 3, w ∈ z_T := by
  intro w hw
  obtain ⟨k, hk, rfl⟩ := List.mem_map.mp hw
  have hk := List.mem_range.mp hk
  rcases (show k = 0 ∨ k = 1 ∨ k = 2 by omega) with rfl | rfl | rfl
  · exact wly_H_0
  · exact wly_H_1
  · exact wly_H_2
theorem wly_A_0 : Cond.laysFinal R_A R_A "isKnown" "[Z" ∈ z_T := z_inT (z_intb (i := 102) (by decide +kernel)) rfl
theorem wly_A_1 : Cond.laysFinal R_A R_A "values" "[J" ∈ z_T := z_inT (z_intb (i := 104) (by decide +kernel)) rfl
theorem wly_A_2 : Cond.lays R_A R_A "count" "I" ∈ z_T := z_inT (z_intb (i := 106) (by decide +kernel)) rfl
theorem wl_A : ∀ w ∈ u_ws R_A F_A 3, w ∈ z_T := by
  intro w hw
  obtain ⟨k, hk, rfl⟩ := List.mem_map.mp hw
  have hk := List.mem_range.mp hk
  rcases (show k = 0 ∨ k = 1 ∨ k = 2 by omega) with rfl | rfl | rfl
  · exact wly_A_0
  · exact wly_A_1
  · exact wly_A_2
theorem wly_P_0 : Cond.lays R_P R_P "number" "I" ∈ z_T := z_inT (z_intb (i := 124) (by decide +kernel)) rfl
theorem wly_P_1 : Cond.lays R_P R_P "deposit" "I" ∈ z_T := z_inT (z_intb (i := 126) (by decide +kernel)) rfl
theorem wly_P_2 : Cond.lays R_P R_P "part" "I" ∈ z_T := z_inT (z_intb (i := 128) (by decide +kernel)) rfl
theorem wly_P_3 : Cond.lays R_P R_P "nonce" "J" ∈ z_T := z_inT (z_intb (i := 130) (by decide +kernel)) rfl
theorem wly_P_4 : Cond.lays R_P R_P "startedIn" "I" ∈ z_T := z_inT (z_intb (i := 132) (by decide +kernel)) rfl
theorem wly_P_5 : Cond.laysFinal R_P R_P "sums" "LPolledHouses$Answers;" ∈ z_T := z_inT (z_intb (i := 134) (by decide +kernel)) rfl
theorem wly_P_6 : Cond.laysFinal R_P R_P "copies" "LPolledHouses$Answers;" ∈ z_T := z_inT (z_intb (i := 136) (by decide +kernel)) rfl
theorem wl_P : ∀ w ∈ u_ws R_P F_P 7, w ∈ z_T := by
  intro w hw
  obtain ⟨k, hk, rfl⟩ := List.mem_map.mp hw
  have hk := List.mem_range.mp hk
  rcases (show k = 0 ∨ k = 1 ∨ k = 2 ∨ k = 3 ∨ k = 4 ∨ k = 5 ∨ k = 6 by omega) with rfl | rfl | rfl | rfl | rfl | rfl | rfl
  · exact wly_P_0
  · exact wly_P_1
  · exact wly_P_2
  · exact wly_P_3
  · exact wly_P_4
  · exact wly_P_5
  · exact wly_P_6
theorem wly_R_0 : Cond.laysFinal R_R R_R "kinds" "[I" ∈ z_T := z_inT (z_intb (i := 35) (by decide +kernel)) rfl
theorem wly_R_1 : Cond.laysFinal R_R R_R "polls" "[I" ∈ z_T := z_inT (z_intb (i := 37) (by decide +kernel)) rfl
theorem wly_R_2 : Cond.laysFinal R_R R_R "houses" "[I" ∈ z_T := z_inT (z_intb (i := 39) (by decide +kernel)) rfl
theorem wly_R_3 : Cond.laysFinal R_R R_R "contents" "[J" ∈ z_T := z_inT (z_intb (i := 41) (by decide +kernel)) rfl
theorem wly_R_4 : Cond.lays R_R R_R "count" "I" ∈ z_T := z_inT (z_intb (i := 43) (by decide +kernel)) rfl
theorem wl_R : ∀ w ∈ u_ws R_R F_R 5, w ∈ z_T := by
  intro w hw
  obtain ⟨k, hk, rfl⟩ := List.mem_map.mp hw
  have hk := List.mem_range.mp hk
  rcases (show k = 0 ∨ k = 1 ∨ k = 2 ∨ k = 3 ∨ k = 4 by omega) with rfl | rfl | rfl | rfl | rfl
  · exact wly_R_0
  · exact wly_R_1
  · exact wly_R_2
  · exact wly_R_3
  · exact wly_R_4
theorem wly_D_0 : Cond.lays R_D R_D "number" "I" ∈ z_T := z_inT (z_intb (i := 61) (by decide +kernel)) rfl
theorem wly_D_1 : Cond.lays R_D R_D "doneCount" "I" ∈ z_T := z_inT (z_intb (i := 63) (by decide +kernel)) rfl
theorem wly_D_2 : Cond.laysFinal R_D R_D "doneIn" "[I" ∈ z_T := z_inT (z_intb (i := 65) (by decide +kernel)) rfl
theorem wl_D : ∀ w ∈ u_ws R_D F_D 3, w ∈ z_T := by
  intro w hw
  obtain ⟨k, hk, rfl⟩ := List.mem_map.mp hw
  have hk := List.mem_range.mp hk
  rcases (show k = 0 ∨ k = 1 ∨ k = 2 by omega) with rfl | rfl | rfl
  · exact wly_D_0
  · exact wly_D_1
  · exact wly_D_2
theorem wly_M_0 : Cond.laysFinal R_M R_M "bytes" "[I" ∈ z_T := z_inT (z_intb (i := 434) (by decide +kernel)) rfl
theorem wly_M_1 : Cond.laysFinal R_M R_M "blocks" "[I" ∈ z_T := z_inT (z_intb (i := 436) (by decide +kernel)) rfl
theorem wly_M_2 : Cond.laysFinal R_M R_M "open" "[Z" ∈ z_T := z_inT (z_intb (i := 438) (by decide +kernel)) rfl
theorem wly_M_3 : Cond.lays R_M R_M "polls" "I" ∈ z_T := z_inT (z_intb (i := 440) (by decide +kernel)) rfl
theorem wly_M_4 : Cond.laysFinal R_M R_M "results" "[I" ∈ z_T := z_inT (z_intb (i := 442) (by decide +kernel)) rfl
theorem wly_M_5 : Cond.laysFinal R_M R_M "numbers" "[I" ∈ z_T := z_inT (z_intb (i := 444) (by decide +kernel)) rfl
theorem wly_M_6 : Cond.laysFinal R_M R_M "deposits" "[I" ∈ z_T := z_inT (z_intb (i := 446) (by decide +kernel)) rfl
theorem wly_M_7 : Cond.laysFinal R_M R_M "partsOf" "[I" ∈ z_T := z_inT (z_intb (i := 448) (by decide +kernel)) rfl
theorem wly_M_8 : Cond.laysFinal R_M R_M "nonces" "[J" ∈ z_T := z_inT (z_intb (i := 450) (by decide +kernel)) rfl
theorem wly_M_9 : Cond.laysFinal R_M R_M "began" "[I" ∈ z_T := z_inT (z_intb (i := 452) (by decide +kernel)) rfl
theorem wly_M_10 : Cond.laysFinal R_M R_M "sumBits" "[I" ∈ z_T := z_inT (z_intb (i := 454) (by decide +kernel)) rfl
theorem wly_M_11 : Cond.laysFinal R_M R_M "copyBits" "[I" ∈ z_T := z_inT (z_intb (i := 456) (by decide +kernel)) rfl
theorem wly_M_12 : Cond.laysFinal R_M R_M "sums" "[J" ∈ z_T := z_inT (z_intb (i := 458) (by decide +kernel)) rfl
theorem wly_M_13 : Cond.laysFinal R_M R_M "copies" "[I" ∈ z_T := z_inT (z_intb (i := 460) (by decide +kernel)) rfl
theorem wly_M_14 : Cond.lays R_M R_M "many" "I" ∈ z_T := z_inT (z_intb (i := 462) (by decide +kernel)) rfl
theorem wly_M_15 : Cond.laysFinal R_M R_M "kinds" "[I" ∈ z_T := z_inT (z_intb (i := 464) (by decide +kernel)) rfl
theorem wly_M_16 : Cond.laysFinal R_M R_M "pollOf" "[I" ∈ z_T := z_inT (z_intb (i := 466) (by decide +kernel)) rfl
theorem wly_M_17 : Cond.laysFinal R_M R_M "houseOf" "[I" ∈ z_T := z_inT (z_intb (i := 468) (by decide +kernel)) rfl
theorem wly_M_18 : Cond.laysFinal R_M R_M "sumOf" "[J" ∈ z_T := z_inT (z_intb (i := 470) (by decide +kernel)) rfl
theorem wly_M_19 : Cond.laysFinal R_M R_M "loads" "[I" ∈ z_T := z_inT (z_intb (i := 472) (by decide +kernel)) rfl
theorem wly_M_20 : Cond.lays R_M R_M "round" "I" ∈ z_T := z_inT (z_intb (i := 474) (by decide +kernel)) rfl
theorem wly_M_21 : Cond.laysFinal R_M R_M "isDone" "[Z" ∈ z_T := z_inT (z_intb (i := 476) (by decide +kernel)) rfl
theorem wly_M_22 : Cond.laysFinal R_M R_M "mended" "[I" ∈ z_T := z_inT (z_intb (i := 478) (by decide +kernel)) rfl
theorem wly_M_23 : Cond.lays R_M R_M "disputed" "I" ∈ z_T := z_inT (z_intb (i := 480) (by decide +kernel)) rfl
theorem wl_M : ∀ w ∈ u_ws R_M F_M 24, w ∈ z_T := by
  intro w hw
  obtain ⟨k, hk, rfl⟩ := List.mem_map.mp hw
  have hk := List.mem_range.mp hk
  rcases (show k = 0 ∨ k = 1 ∨ k = 2 ∨ k = 3 ∨ k = 4 ∨ k = 5 ∨ k = 6 ∨ k = 7 ∨ k = 8 ∨ k = 9 ∨ k = 10 ∨ k = 11 ∨ k = 12 ∨ k = 13 ∨ k = 14 ∨ k = 15 ∨ k = 16 ∨ k = 17 ∨ k = 18 ∨ k = 19 ∨ k = 20 ∨ k = 21 ∨ k = 22 ∨ k = 23 by omega) with rfl | rfl | rfl | rfl | rfl | rfl | rfl | rfl | rfl | rfl | rfl | rfl | rfl | rfl | rfl | rfl | rfl | rfl | rfl | rfl | rfl | rfl | rfl | rfl
  · exact wly_M_0
  · exact wly_M_1
  · exact wly_M_2
  · exact wly_M_3
  · exact wly_M_4
  · exact wly_M_5
  · exact wly_M_6
  · exact wly_M_7
  · exact wly_M_8
  · exact wly_M_9
  · exact wly_M_10
  · exact wly_M_11
  · exact wly_M_12
  · exact wly_M_13
  · exact wly_M_14
  · exact wly_M_15
  · exact wly_M_16
  · exact wly_M_17
  · exact wly_M_18
  · exact wly_M_19
  · exact wly_M_20
  · exact wly_M_21
  · exact wly_M_22
  · exact wly_M_23
theorem wf_H_19 : Cond.fieldLink R_H 19 R_H "words" "[I" ∈ z_T := z_inT (z_intb (i := 77) (by decide +kernel)) rfl
theorem wm_H_27 : Cond.methodLink R_H 27 y_H_place ∈ z_T := z_inT (z_intb (i := 183) (by decide +kernel)) rfl
theorem wi_H_place : Cond.static y_H_place ∈ z_T := z_inT (z_intb (i := 184) (by decide +kernel)) rfl
set_option maxRecDepth 20000 in
theorem wc_H_place : Cond.code y_H_place b_H_place 2 (some .int) ∈ z_T := z_inT (z_intb (i := 185) rfl) rfl
theorem wn_H : Cond.initialized R_H ∈ z_T := z_inT (z_intb (i := 4) (by decide +kernel)) rfl
theorem wm_H_31 : Cond.methodLink R_H 31 y_H_shift ∈ z_T := z_inT (z_intb (i := 186) (by decide +kernel)) rfl
theorem wi_H_shift : Cond.static y_H_shift ∈ z_T := z_inT (z_intb (i := 187) (by decide +kernel)) rfl
set_option maxRecDepth 20000 in
theorem wc_H_shift : Cond.code y_H_shift b_H_shift 1 (some .int) ∈ z_T := z_inT (z_intb (i := 188) rfl) rfl
theorem wf_H_15 : Cond.fieldLink R_H 15 R_H "mendCount" "I" ∈ z_T := z_inT (z_intb (i := 75) (by decide +kernel)) rfl
theorem wk_H_35 : Cond.constantLong R_H 35 4294967295 ∈ z_T := z_inT (z_intb (i := 321) (by decide +kernel)) rfl
theorem wk_H_37 : Cond.constantLong R_H 37 1099511628211 ∈ z_T := z_inT (z_intb (i := 224) (by decide +kernel)) rfl
theorem wm_H_39 : Cond.methodLink R_H 39 y_H_byteOf ∈ z_T := z_inT (z_intb (i := 225) (by decide +kernel)) rfl
theorem wi_H_byteOf : Cond.instanceMethod y_H_byteOf ∈ z_T := z_inT (z_intb (i := 205) (by decide +kernel)) rfl
set_option maxRecDepth 20000 in
theorem wc_H_byteOf : Cond.code y_H_byteOf b_H_byteOf 3 (some .int) ∈ z_T := z_inT (z_intb (i := 207) rfl) rfl
theorem ws_H_byteOf : Cond.selects R_H y_H_byteOf y_H_byteOf ∈ z_T := z_inT (z_intb (i := 206) (by decide +kernel)) rfl
theorem wm_H_23 : Cond.methodLink R_H 23 y_H_flip ∈ z_T := z_inT (z_intb (i := 179) (by decide +kernel)) rfl
theorem wi_H_flip : Cond.instanceMethod y_H_flip ∈ z_T := z_inT (z_intb (i := 180) (by decide +kernel)) rfl
set_option maxRecDepth 20000 in
theorem wc_H_flip : Cond.code y_H_flip b_H_flip 4 none ∈ z_T := z_inT (z_intb (i := 182) rfl) rfl
theorem ws_H_flip : Cond.selects R_H y_H_flip y_H_flip ∈ z_T := z_inT (z_intb (i := 181) (by decide +kernel)) rfl
theorem wf_A_9 : Cond.fieldLink R_A 9 R_A "isKnown" "[Z" ∈ z_T := z_inT (z_intb (i := 96) (by decide +kernel)) rfl
theorem wf_A_19 : Cond.fieldLink R_A 19 R_A "count" "I" ∈ z_T := z_inT (z_intb (i := 101) (by decide +kernel)) rfl
theorem wf_A_15 : Cond.fieldLink R_A 15 R_A "values" "[J" ∈ z_T := z_inT (z_intb (i := 98) (by decide +kernel)) rfl
theorem wf_R_25 : Cond.fieldLink R_R 25 R_R "count" "I" ∈ z_T := z_inT (z_intb (i := 33) (by decide +kernel)) rfl
theorem wf_R_9 : Cond.fieldLink R_R 9 R_R "kinds" "[I" ∈ z_T := z_inT (z_intb (i := 25) (by decide +kernel)) rfl
theorem wf_R_15 : Cond.fieldLink R_R 15 R_R "polls" "[I" ∈ z_T := z_inT (z_intb (i := 27) (by decide +kernel)) rfl
theorem wf_R_18 : Cond.fieldLink R_R 18 R_R "houses" "[I" ∈ z_T := z_inT (z_intb (i := 29) (by decide +kernel)) rfl
theorem wf_R_21 : Cond.fieldLink R_R 21 R_R "contents" "[J" ∈ z_T := z_inT (z_intb (i := 31) (by decide +kernel)) rfl
theorem wf_D_9 : Cond.fieldLink R_D 9 R_D "number" "I" ∈ z_T := z_inT (z_intb (i := 56) (by decide +kernel)) rfl
theorem wf_D_18 : Cond.fieldLink R_D 18 R_D "doneIn" "[I" ∈ z_T := z_inT (z_intb (i := 60) (by decide +kernel)) rfl
theorem wf_D_15 : Cond.fieldLink R_D 15 R_D "doneCount" "I" ∈ z_T := z_inT (z_intb (i := 58) (by decide +kernel)) rfl
theorem wf_P_9 : Cond.fieldLink R_P 9 R_P "number" "I" ∈ z_T := z_inT (z_intb (i := 110) (by decide +kernel)) rfl
theorem wf_P_15 : Cond.fieldLink R_P 15 R_P "deposit" "I" ∈ z_T := z_inT (z_intb (i := 112) (by decide +kernel)) rfl
theorem wf_P_18 : Cond.fieldLink R_P 18 R_P "part" "I" ∈ z_T := z_inT (z_intb (i := 114) (by decide +kernel)) rfl
theorem wf_P_21 : Cond.fieldLink R_P 21 R_P "nonce" "J" ∈ z_T := z_inT (z_intb (i := 116) (by decide +kernel)) rfl
theorem wf_P_25 : Cond.fieldLink R_P 25 R_P "startedIn" "I" ∈ z_T := z_inT (z_intb (i := 118) (by decide +kernel)) rfl
theorem wf_P_31 : Cond.fieldLink R_P 31 R_P "sums" "LPolledHouses$Answers;" ∈ z_T := z_inT (z_intb (i := 120) (by decide +kernel)) rfl
theorem wm_P_38 : Cond.methodLink R_P 38 y_A_forget ∈ z_T := z_inT (z_intb (i := 238) (by decide +kernel)) rfl
theorem wi_A_forget : Cond.instanceMethod y_A_forget ∈ z_T := z_inT (z_intb (i := 239) (by decide +kernel)) rfl
set_option maxRecDepth 20000 in
theorem wc_A_forget : Cond.code y_A_forget b_A_forget 2 none ∈ z_T := z_inT (z_intb (i := 241) rfl) rfl
theorem wn_A : Cond.initialized R_A ∈ z_T := z_inT (z_intb (i := 6) (by decide +kernel)) rfl
theorem ws_A_forget : Cond.selects R_A y_A_forget y_A_forget ∈ z_T := z_inT (z_intb (i := 240) (by decide +kernel)) rfl
theorem wf_P_35 : Cond.fieldLink R_P 35 R_P "copies" "LPolledHouses$Answers;" ∈ z_T := z_inT (z_intb (i := 122) (by decide +kernel)) rfl
theorem wf_P_41 : Cond.fieldLink R_P 41 R_A "values" "[J" ∈ z_T := z_inT (z_intb (i := 99) (by decide +kernel)) rfl
theorem wm_P_45 : Cond.methodLink R_P 45 y_P_copiedBlock ∈ z_T := z_inT (z_intb (i := 334) (by decide +kernel)) rfl
theorem wi_P_copiedBlock : Cond.instanceMethod y_P_copiedBlock ∈ z_T := z_inT (z_intb (i := 335) (by decide +kernel)) rfl
set_option maxRecDepth 20000 in
theorem wc_P_copiedBlock : Cond.code y_P_copiedBlock b_P_copiedBlock 3 (some .int) ∈ z_T := z_inT (z_intb (i := 337) rfl) rfl
theorem wn_P : Cond.initialized R_P ∈ z_T := z_inT (z_intb (i := 5) (by decide +kernel)) rfl
theorem ws_P_copiedBlock : Cond.selects R_P y_P_copiedBlock y_P_copiedBlock ∈ z_T := z_inT (z_intb (i := 336) (by decide +kernel)) rfl
theorem wm_X_51 : Cond.methodLink R_X 51 y_X_isDeposit ∈ z_T := z_inT (z_intb (i := 168) (by decide +kernel)) rfl
theorem wi_X_isDeposit : Cond.static y_X_isDeposit ∈ z_T := z_inT (z_intb (i := 169) (by decide +kernel)) rfl
set_option maxRecDepth 20000 in
theorem wc_X_isDeposit : Cond.code y_X_isDeposit b_X_isDeposit 1 (some .boolean) ∈ z_T := z_inT (z_intb (i := 170) rfl) rfl
theorem wn_X : Cond.initialized R_X ∈ z_T := z_inT (z_intb (i := 1) (by decide +kernel)) rfl
theorem wf_X_15 : Cond.fieldLink R_X 15 R_X "blockCounts" "[I" ∈ z_T := z_inT (z_intb (i := 140) (by decide +kernel)) rfl
theorem wf_X_42 : Cond.fieldLink R_X 42 R_X "pollCount" "I" ∈ z_T := z_inT (z_intb (i := 145) (by decide +kernel)) rfl
theorem wf_X_11 : Cond.fieldLink R_X 11 R_X "houses" "[LPolledHouses$House;" ∈ z_T := z_inT (z_intb (i := 139) (by decide +kernel)) rfl
theorem wf_X_140 : Cond.fieldLink R_X 140 R_H "isOpen" "Z" ∈ z_T := z_inT (z_intb (i := 74) (by decide +kernel)) rfl
theorem wf_X_28 : Cond.fieldLink R_X 28 R_X "places" "[LPolledHouses$Poll;" ∈ z_T := z_inT (z_intb (i := 142) (by decide +kernel)) rfl
theorem wf_X_155 : Cond.fieldLink R_X 155 R_P "number" "I" ∈ z_T := z_inT (z_intb (i := 111) (by decide +kernel)) rfl
theorem wm_X_99 : Cond.methodLink R_X 99 y_X_isPoll ∈ z_T := z_inT (z_intb (i := 258) (by decide +kernel)) rfl
theorem wi_X_isPoll : Cond.instanceMethod y_X_isPoll ∈ z_T := z_inT (z_intb (i := 260) (by decide +kernel)) rfl
set_option maxRecDepth 20000 in
theorem wc_X_isPoll : Cond.code y_X_isPoll b_X_isPoll 2 (some .boolean) ∈ z_T := z_inT (z_intb (i := 261) rfl) rfl
theorem ws_X_isPoll : Cond.selects R_X y_X_isPoll y_X_isPoll ∈ z_T := z_inT (z_insel (i := 4) (by decide +kernel)) rfl
theorem wm_X_147 : Cond.methodLink R_X 147 Lib.Math.min.name ∈ z_T := z_inT (z_intb (i := 306) (by decide +kernel)) rfl
theorem wi_Math_min : Cond.static Lib.Math.min.name ∈ z_T := z_inT (z_intb (i := 307) (by decide +kernel)) rfl
theorem wn_Math : Cond.initialized "java/lang/Math" ∈ z_T := z_inT (z_intb (i := 8) (by decide +kernel)) rfl
set_option maxRecDepth 20000 in
theorem wc_Math_min : Cond.code Lib.Math.min.name Lib.Math.min.code 2 (some .int) ∈ z_T := z_inT (z_intb (i := 308) rfl) rfl
theorem wf_X_156 : Cond.fieldLink R_X 156 R_P "sums" "LPolledHouses$Answers;" ∈ z_T := z_inT (z_intb (i := 121) (by decide +kernel)) rfl
theorem wm_X_160 : Cond.methodLink R_X 160 y_A_isComplete ∈ z_T := z_inT (z_intb (i := 246) (by decide +kernel)) rfl
theorem wi_A_isComplete : Cond.instanceMethod y_A_isComplete ∈ z_T := z_inT (z_intb (i := 247) (by decide +kernel)) rfl
set_option maxRecDepth 20000 in
theorem wc_A_isComplete : Cond.code y_A_isComplete b_A_isComplete 1 (some .boolean) ∈ z_T := z_inT (z_intb (i := 249) rfl) rfl
theorem ws_A_isComplete : Cond.selects R_A y_A_isComplete y_A_isComplete ∈ z_T := z_inT (z_intb (i := 248) (by decide +kernel)) rfl
theorem wf_X_168 : Cond.fieldLink R_X 168 R_A "isKnown" "[Z" ∈ z_T := z_inT (z_intb (i := 97) (by decide +kernel)) rfl
theorem wf_X_22 : Cond.fieldLink R_X 22 R_X "row" "LPolledHouses$Row;" ∈ z_T := z_inT (z_intb (i := 141) (by decide +kernel)) rfl
theorem wm_X_132 : Cond.methodLink R_X 132 y_R_add ∈ z_T := z_inT (z_intb (i := 250) (by decide +kernel)) rfl
theorem wi_R_add : Cond.instanceMethod y_R_add ∈ z_T := z_inT (z_intb (i := 251) (by decide +kernel)) rfl
set_option maxRecDepth 20000 in
theorem wc_R_add : Cond.code y_R_add b_R_add 6 none ∈ z_T := z_inT (z_intb (i := 253) rfl) rfl
theorem wn_R : Cond.initialized R_R ∈ z_T := z_inT (z_intb (i := 2) (by decide +kernel)) rfl
theorem ws_R_add : Cond.selects R_R y_R_add y_R_add ∈ z_T := z_inT (z_intb (i := 252) (by decide +kernel)) rfl
theorem wf_X_165 : Cond.fieldLink R_X 165 R_P "copies" "LPolledHouses$Answers;" ∈ z_T := z_inT (z_intb (i := 123) (by decide +kernel)) rfl
theorem wf_X_185 : Cond.fieldLink R_X 185 R_P "deposit" "I" ∈ z_T := z_inT (z_intb (i := 113) (by decide +kernel)) rfl
theorem wf_X_188 : Cond.fieldLink R_X 188 R_P "part" "I" ∈ z_T := z_inT (z_intb (i := 115) (by decide +kernel)) rfl
theorem wf_X_191 : Cond.fieldLink R_X 191 R_P "nonce" "J" ∈ z_T := z_inT (z_intb (i := 117) (by decide +kernel)) rfl
theorem wm_X_80 : Cond.methodLink R_X 80 y_H_sumOfPart ∈ z_T := z_inT (z_intb (i := 220) (by decide +kernel)) rfl
theorem wi_H_sumOfPart : Cond.instanceMethod y_H_sumOfPart ∈ z_T := z_inT (z_intb (i := 221) (by decide +kernel)) rfl
set_option maxRecDepth 20000 in
theorem wc_H_sumOfPart : Cond.code y_H_sumOfPart b_H_sumOfPart 10 (some .long) ∈ z_T := z_inT (z_intb (i := 223) rfl) rfl
theorem ws_H_sumOfPart : Cond.selects R_H y_H_sumOfPart y_H_sumOfPart ∈ z_T := z_inT (z_intb (i := 222) (by decide +kernel)) rfl
theorem wm_X_195 : Cond.methodLink R_X 195 y_H_bytesOfPart ∈ z_T := z_inT (z_intb (i := 317) (by decide +kernel)) rfl
theorem wi_H_bytesOfPart : Cond.instanceMethod y_H_bytesOfPart ∈ z_T := z_inT (z_intb (i := 318) (by decide +kernel)) rfl
set_option maxRecDepth 20000 in
theorem wc_H_bytesOfPart : Cond.code y_H_bytesOfPart b_H_bytesOfPart 7 (some .long) ∈ z_T := z_inT (z_intb (i := 320) rfl) rfl
theorem ws_H_bytesOfPart : Cond.selects R_H y_H_bytesOfPart y_H_bytesOfPart ∈ z_T := z_inT (z_intb (i := 319) (by decide +kernel)) rfl
theorem wf_X_32 : Cond.fieldLink R_X 32 R_X "results" "[I" ∈ z_T := z_inT (z_intb (i := 143) (by decide +kernel)) rfl
theorem wf_X_38 : Cond.fieldLink R_X 38 R_X "rounds" "LPolledHouses$Rounds;" ∈ z_T := z_inT (z_intb (i := 144) (by decide +kernel)) rfl
theorem wf_X_228 : Cond.fieldLink R_X 228 R_P "startedIn" "I" ∈ z_T := z_inT (z_intb (i := 119) (by decide +kernel)) rfl
theorem wm_X_231 : Cond.methodLink R_X 231 y_D_finishPart ∈ z_T := z_inT (z_intb (i := 298) (by decide +kernel)) rfl
theorem wi_D_finishPart : Cond.instanceMethod y_D_finishPart ∈ z_T := z_inT (z_intb (i := 299) (by decide +kernel)) rfl
set_option maxRecDepth 20000 in
theorem wc_D_finishPart : Cond.code y_D_finishPart b_D_finishPart 5 none ∈ z_T := z_inT (z_intb (i := 301) rfl) rfl
theorem wn_D : Cond.initialized R_D ∈ z_T := z_inT (z_intb (i := 3) (by decide +kernel)) rfl
theorem ws_D_finishPart : Cond.selects R_D y_D_finishPart y_D_finishPart ∈ z_T := z_inT (z_intb (i := 300) (by decide +kernel)) rfl
theorem wm_X_234 : Cond.methodLink R_X 234 y_X_parts ∈ z_T := z_inT (z_intb (i := 302) (by decide +kernel)) rfl
theorem wi_X_parts : Cond.instanceMethod y_X_parts ∈ z_T := z_inT (z_intb (i := 303) (by decide +kernel)) rfl
set_option maxRecDepth 20000 in
theorem wc_X_parts : Cond.code y_X_parts b_X_parts 3 (some .int) ∈ z_T := z_inT (z_intb (i := 305) rfl) rfl
theorem ws_X_parts : Cond.selects R_X y_X_parts y_X_parts ∈ z_T := z_inT (z_intb (i := 304) (by decide +kernel)) rfl
theorem wm_X_238 : Cond.methodLink R_X 238 y_D_endIfAllDone ∈ z_T := z_inT (z_intb (i := 309) (by decide +kernel)) rfl
theorem wi_D_endIfAllDone : Cond.instanceMethod y_D_endIfAllDone ∈ z_T := z_inT (z_intb (i := 310) (by decide +kernel)) rfl
set_option maxRecDepth 20000 in
theorem wc_D_endIfAllDone : Cond.code y_D_endIfAllDone b_D_endIfAllDone 2 none ∈ z_T := z_inT (z_intb (i := 312) rfl) rfl
theorem ws_D_endIfAllDone : Cond.selects R_D y_D_endIfAllDone y_D_endIfAllDone ∈ z_T := z_inT (z_intb (i := 311) (by decide +kernel)) rfl
theorem wf_X_46 : Cond.fieldLink R_X 46 R_X "disputeCount" "I" ∈ z_T := z_inT (z_intb (i := 146) (by decide +kernel)) rfl
theorem wf_X_219 : Cond.fieldLink R_X 219 R_A "values" "[J" ∈ z_T := z_inT (z_intb (i := 100) (by decide +kernel)) rfl
theorem wm_X_222 : Cond.methodLink R_X 222 y_P_copiedBlock ∈ z_T := z_inT (z_intb (i := 346) (by decide +kernel)) rfl
theorem wm_X_225 : Cond.methodLink R_X 225 y_H_mend ∈ z_T := z_inT (z_intb (i := 347) (by decide +kernel)) rfl
theorem wi_H_mend : Cond.instanceMethod y_H_mend ∈ z_T := z_inT (z_intb (i := 348) (by decide +kernel)) rfl
set_option maxRecDepth 20000 in
theorem wc_H_mend : Cond.code y_H_mend b_H_mend 4 none ∈ z_T := z_inT (z_intb (i := 350) rfl) rfl
theorem ws_H_mend : Cond.selects R_H y_H_mend y_H_mend ∈ z_T := z_inT (z_intb (i := 349) (by decide +kernel)) rfl
theorem wm_X_209 : Cond.methodLink R_X 209 y_P_copiesAllDiffer ∈ z_T := z_inT (z_intb (i := 330) (by decide +kernel)) rfl
theorem wi_P_copiesAllDiffer : Cond.instanceMethod y_P_copiesAllDiffer ∈ z_T := z_inT (z_intb (i := 331) (by decide +kernel)) rfl
set_option maxRecDepth 20000 in
theorem wc_P_copiesAllDiffer : Cond.code y_P_copiesAllDiffer b_P_copiesAllDiffer 5 (some .boolean) ∈ z_T := z_inT (z_intb (i := 333) rfl) rfl
theorem ws_P_copiesAllDiffer : Cond.selects R_P y_P_copiesAllDiffer y_P_copiesAllDiffer ∈ z_T := z_inT (z_intb (i := 332) (by decide +kernel)) rfl
theorem wm_X_55 : Cond.methodLink R_X 55 y_X_allHousesOpen ∈ z_T := z_inT (z_intb (i := 171) (by decide +kernel)) rfl
theorem wi_X_allHousesOpen : Cond.instanceMethod y_X_allHousesOpen ∈ z_T := z_inT (z_intb (i := 173) (by decide +kernel)) rfl
set_option maxRecDepth 20000 in
theorem wc_X_allHousesOpen : Cond.code y_X_allHousesOpen b_X_allHousesOpen 2 (some .boolean) ∈ z_T := z_inT (z_intb (i := 174) rfl) rfl
theorem ws_X_allHousesOpen : Cond.selects R_X y_X_allHousesOpen y_X_allHousesOpen ∈ z_T := z_inT (z_insel (i := 0) (by decide +kernel)) rfl
theorem wm_X_212 : Cond.methodLink R_X 212 y_X_areCopiesCurrent ∈ z_T := z_inT (z_intb (i := 338) (by decide +kernel)) rfl
theorem wi_X_areCopiesCurrent : Cond.instanceMethod y_X_areCopiesCurrent ∈ z_T := z_inT (z_intb (i := 340) (by decide +kernel)) rfl
set_option maxRecDepth 20000 in
theorem wc_X_areCopiesCurrent : Cond.code y_X_areCopiesCurrent b_X_areCopiesCurrent 3 (some .boolean) ∈ z_T := z_inT (z_intb (i := 341) rfl) rfl
theorem ws_X_areCopiesCurrent : Cond.selects R_X y_X_areCopiesCurrent y_X_areCopiesCurrent ∈ z_T := z_inT (z_insel (i := 13) (by decide +kernel)) rfl
theorem wm_X_216 : Cond.methodLink R_X 216 y_X_mendBlock ∈ z_T := z_inT (z_intb (i := 342) (by decide +kernel)) rfl
theorem wi_X_mendBlock : Cond.instanceMethod y_X_mendBlock ∈ z_T := z_inT (z_intb (i := 344) (by decide +kernel)) rfl
set_option maxRecDepth 20000 in
theorem wc_X_mendBlock : Cond.code y_X_mendBlock b_X_mendBlock 7 none ∈ z_T := z_inT (z_intb (i := 345) rfl) rfl
theorem ws_X_mendBlock : Cond.selects R_X y_X_mendBlock y_X_mendBlock ∈ z_T := z_inT (z_insel (i := 14) (by decide +kernel)) rfl
theorem wm_X_199 : Cond.methodLink R_X 199 y_A_take ∈ z_T := z_inT (z_intb (i := 286) (by decide +kernel)) rfl
theorem wi_A_take : Cond.instanceMethod y_A_take ∈ z_T := z_inT (z_intb (i := 287) (by decide +kernel)) rfl
set_option maxRecDepth 20000 in
theorem wc_A_take : Cond.code y_A_take b_A_take 4 (some .boolean) ∈ z_T := z_inT (z_intb (i := 289) rfl) rfl
theorem ws_A_take : Cond.selects R_A y_A_take y_A_take ∈ z_T := z_inT (z_intb (i := 288) (by decide +kernel)) rfl
theorem wm_X_203 : Cond.methodLink R_X 203 y_A_areAlike ∈ z_T := z_inT (z_intb (i := 290) (by decide +kernel)) rfl
theorem wi_A_areAlike : Cond.instanceMethod y_A_areAlike ∈ z_T := z_inT (z_intb (i := 291) (by decide +kernel)) rfl
set_option maxRecDepth 20000 in
theorem wc_A_areAlike : Cond.code y_A_areAlike b_A_areAlike 1 (some .boolean) ∈ z_T := z_inT (z_intb (i := 293) rfl) rfl
theorem ws_A_areAlike : Cond.selects R_A y_A_areAlike y_A_areAlike ∈ z_T := z_inT (z_intb (i := 292) (by decide +kernel)) rfl
theorem wm_X_95 : Cond.methodLink R_X 95 y_X_sendToAwaited ∈ z_T := z_inT (z_intb (i := 242) (by decide +kernel)) rfl
theorem wi_X_sendToAwaited : Cond.instanceMethod y_X_sendToAwaited ∈ z_T := z_inT (z_intb (i := 244) (by decide +kernel)) rfl
set_option maxRecDepth 20000 in
theorem wc_X_sendToAwaited : Cond.code y_X_sendToAwaited b_X_sendToAwaited 7 (some .int) ∈ z_T := z_inT (z_intb (i := 245) rfl) rfl
theorem ws_X_sendToAwaited : Cond.selects R_X y_X_sendToAwaited y_X_sendToAwaited ∈ z_T := z_inT (z_insel (i := 3) (by decide +kernel)) rfl
theorem wm_X_136 : Cond.methodLink R_X 136 y_X_finish ∈ z_T := z_inT (z_intb (i := 294) (by decide +kernel)) rfl
theorem wi_X_finish : Cond.instanceMethod y_X_finish ∈ z_T := z_inT (z_intb (i := 296) (by decide +kernel)) rfl
set_option maxRecDepth 20000 in
theorem wc_X_finish : Cond.code y_X_finish b_X_finish 3 none ∈ z_T := z_inT (z_intb (i := 297) rfl) rfl
theorem ws_X_finish : Cond.selects R_X y_X_finish y_X_finish ∈ z_T := z_inT (z_insel (i := 9) (by decide +kernel)) rfl
theorem wm_X_206 : Cond.methodLink R_X 206 y_X_decide ∈ z_T := z_inT (z_intb (i := 326) (by decide +kernel)) rfl
theorem wi_X_decide : Cond.instanceMethod y_X_decide ∈ z_T := z_inT (z_intb (i := 328) (by decide +kernel)) rfl
set_option maxRecDepth 20000 in
theorem wc_X_decide : Cond.code y_X_decide b_X_decide 2 (some .int) ∈ z_T := z_inT (z_intb (i := 329) rfl) rfl
theorem ws_X_decide : Cond.selects R_X y_X_decide y_X_decide ∈ z_T := z_inT (z_insel (i := 12) (by decide +kernel)) rfl
theorem wm_X_172 : Cond.methodLink R_X 172 y_X_answerAsk ∈ z_T := z_inT (z_intb (i := 278) (by decide +kernel)) rfl
theorem wi_X_answerAsk : Cond.instanceMethod y_X_answerAsk ∈ z_T := z_inT (z_intb (i := 280) (by decide +kernel)) rfl
set_option maxRecDepth 20000 in
theorem wc_X_answerAsk : Cond.code y_X_answerAsk b_X_answerAsk 6 none ∈ z_T := z_inT (z_intb (i := 281) rfl) rfl
theorem ws_X_answerAsk : Cond.selects R_X y_X_answerAsk y_X_answerAsk ∈ z_T := z_inT (z_insel (i := 7) (by decide +kernel)) rfl
theorem wm_X_175 : Cond.methodLink R_X 175 y_X_takeSum ∈ z_T := z_inT (z_intb (i := 282) (by decide +kernel)) rfl
theorem wi_X_takeSum : Cond.instanceMethod y_X_takeSum ∈ z_T := z_inT (z_intb (i := 284) (by decide +kernel)) rfl
set_option maxRecDepth 20000 in
theorem wc_X_takeSum : Cond.code y_X_takeSum b_X_takeSum 5 none ∈ z_T := z_inT (z_intb (i := 285) rfl) rfl
theorem ws_X_takeSum : Cond.selects R_X y_X_takeSum y_X_takeSum ∈ z_T := z_inT (z_insel (i := 8) (by decide +kernel)) rfl
theorem wm_X_179 : Cond.methodLink R_X 179 y_X_answerFetch ∈ z_T := z_inT (z_intb (i := 313) (by decide +kernel)) rfl
theorem wi_X_answerFetch : Cond.instanceMethod y_X_answerFetch ∈ z_T := z_inT (z_intb (i := 315) (by decide +kernel)) rfl
set_option maxRecDepth 20000 in
theorem wc_X_answerFetch : Cond.code y_X_answerFetch b_X_answerFetch 5 none ∈ z_T := z_inT (z_intb (i := 316) rfl) rfl
theorem ws_X_answerFetch : Cond.selects R_X y_X_answerFetch y_X_answerFetch ∈ z_T := z_inT (z_insel (i := 10) (by decide +kernel)) rfl
theorem wm_X_182 : Cond.methodLink R_X 182 y_X_takeCopy ∈ z_T := z_inT (z_intb (i := 322) (by decide +kernel)) rfl
theorem wi_X_takeCopy : Cond.instanceMethod y_X_takeCopy ∈ z_T := z_inT (z_intb (i := 324) (by decide +kernel)) rfl
set_option maxRecDepth 20000 in
theorem wc_X_takeCopy : Cond.code y_X_takeCopy b_X_takeCopy 5 none ∈ z_T := z_inT (z_intb (i := 325) rfl) rfl
theorem ws_X_takeCopy : Cond.selects R_X y_X_takeCopy y_X_takeCopy ∈ z_T := z_inT (z_insel (i := 11) (by decide +kernel)) rfl
theorem wm_X_59 : Cond.methodLink R_X 59 y_H_receive ∈ z_T := z_inT (z_intb (i := 175) (by decide +kernel)) rfl
theorem wi_H_receive : Cond.instanceMethod y_H_receive ∈ z_T := z_inT (z_intb (i := 176) (by decide +kernel)) rfl
set_option maxRecDepth 20000 in
theorem wc_H_receive : Cond.code y_H_receive b_H_receive 5 none ∈ z_T := z_inT (z_intb (i := 178) rfl) rfl
theorem ws_H_receive : Cond.selects R_H y_H_receive y_H_receive ∈ z_T := z_inT (z_intb (i := 177) (by decide +kernel)) rfl
theorem wm_X_63 : Cond.methodLink R_X 63 y_X_isHouse ∈ z_T := z_inT (z_intb (i := 197) (by decide +kernel)) rfl
theorem wi_X_isHouse : Cond.static y_X_isHouse ∈ z_T := z_inT (z_intb (i := 198) (by decide +kernel)) rfl
set_option maxRecDepth 20000 in
theorem wc_X_isHouse : Cond.code y_X_isHouse b_X_isHouse 1 (some .boolean) ∈ z_T := z_inT (z_intb (i := 199) rfl) rfl
theorem wm_X_66 : Cond.methodLink R_X 66 y_X_isByte ∈ z_T := z_inT (z_intb (i := 200) (by decide +kernel)) rfl
theorem wi_X_isByte : Cond.instanceMethod y_X_isByte ∈ z_T := z_inT (z_intb (i := 202) (by decide +kernel)) rfl
set_option maxRecDepth 20000 in
theorem wc_X_isByte : Cond.code y_X_isByte b_X_isByte 3 (some .boolean) ∈ z_T := z_inT (z_intb (i := 203) rfl) rfl
theorem ws_X_isByte : Cond.selects R_X y_X_isByte y_X_isByte ∈ z_T := z_inT (z_insel (i := 1) (by decide +kernel)) rfl
theorem wm_X_70 : Cond.methodLink R_X 70 y_H_byteOf ∈ z_T := z_inT (z_intb (i := 204) (by decide +kernel)) rfl
theorem wm_X_74 : Cond.methodLink R_X 74 y_H_flip ∈ z_T := z_inT (z_intb (i := 212) (by decide +kernel)) rfl
theorem wm_X_77 : Cond.methodLink R_X 77 y_X_isPart ∈ z_T := z_inT (z_intb (i := 217) (by decide +kernel)) rfl
theorem wi_X_isPart : Cond.static y_X_isPart ∈ z_T := z_inT (z_intb (i := 218) (by decide +kernel)) rfl
set_option maxRecDepth 20000 in
theorem wc_X_isPart : Cond.code y_X_isPart b_X_isPart 1 (some .boolean) ∈ z_T := z_inT (z_intb (i := 219) rfl) rfl
theorem wm_X_84 : Cond.methodLink R_X 84 y_X_freePlace ∈ z_T := z_inT (z_intb (i := 230) (by decide +kernel)) rfl
theorem wi_X_freePlace : Cond.instanceMethod y_X_freePlace ∈ z_T := z_inT (z_intb (i := 232) (by decide +kernel)) rfl
set_option maxRecDepth 20000 in
theorem wc_X_freePlace : Cond.code y_X_freePlace b_X_freePlace 2 (some (.object R_P)) ∈ z_T := z_inT (z_intb (i := 233) rfl) rfl
theorem ws_X_freePlace : Cond.selects R_X y_X_freePlace y_X_freePlace ∈ z_T := z_inT (z_insel (i := 2) (by decide +kernel)) rfl
theorem wf_X_88 : Cond.fieldLink R_X 88 R_D "number" "I" ∈ z_T := z_inT (z_intb (i := 57) (by decide +kernel)) rfl
theorem wm_X_91 : Cond.methodLink R_X 91 y_P_begin ∈ z_T := z_inT (z_intb (i := 234) (by decide +kernel)) rfl
theorem wi_P_begin : Cond.instanceMethod y_P_begin ∈ z_T := z_inT (z_intb (i := 235) (by decide +kernel)) rfl
set_option maxRecDepth 20000 in
theorem wc_P_begin : Cond.code y_P_begin b_P_begin 7 none ∈ z_T := z_inT (z_intb (i := 237) rfl) rfl
theorem ws_P_begin : Cond.selects R_P y_P_begin y_P_begin ∈ z_T := z_inT (z_intb (i := 236) (by decide +kernel)) rfl
theorem wm_X_102 : Cond.methodLink R_X 102 y_X_runningPoll ∈ z_T := z_inT (z_intb (i := 262) (by decide +kernel)) rfl
theorem wi_X_runningPoll : Cond.instanceMethod y_X_runningPoll ∈ z_T := z_inT (z_intb (i := 264) (by decide +kernel)) rfl
set_option maxRecDepth 20000 in
theorem wc_X_runningPoll : Cond.code y_X_runningPoll b_X_runningPoll 3 (some (.object R_P)) ∈ z_T := z_inT (z_intb (i := 265) rfl) rfl
theorem ws_X_runningPoll : Cond.selects R_X y_X_runningPoll y_X_runningPoll ∈ z_T := z_inT (z_insel (i := 5) (by decide +kernel)) rfl
theorem wf_X_106 : Cond.fieldLink R_X 106 R_R "count" "I" ∈ z_T := z_inT (z_intb (i := 34) (by decide +kernel)) rfl
theorem wf_X_109 : Cond.fieldLink R_X 109 R_R "kinds" "[I" ∈ z_T := z_inT (z_intb (i := 26) (by decide +kernel)) rfl
theorem wf_X_112 : Cond.fieldLink R_X 112 R_R "houses" "[I" ∈ z_T := z_inT (z_intb (i := 30) (by decide +kernel)) rfl
theorem wf_X_114 : Cond.fieldLink R_X 114 R_R "contents" "[J" ∈ z_T := z_inT (z_intb (i := 32) (by decide +kernel)) rfl
theorem wf_X_118 : Cond.fieldLink R_X 118 R_R "polls" "[I" ∈ z_T := z_inT (z_intb (i := 28) (by decide +kernel)) rfl
theorem wm_X_121 : Cond.methodLink R_X 121 y_R_remove ∈ z_T := z_inT (z_intb (i := 270) (by decide +kernel)) rfl
theorem wi_R_remove : Cond.instanceMethod y_R_remove ∈ z_T := z_inT (z_intb (i := 271) (by decide +kernel)) rfl
set_option maxRecDepth 20000 in
theorem wc_R_remove : Cond.code y_R_remove b_R_remove 3 none ∈ z_T := z_inT (z_intb (i := 273) rfl) rfl
theorem ws_R_remove : Cond.selects R_R y_R_remove y_R_remove ∈ z_T := z_inT (z_intb (i := 272) (by decide +kernel)) rfl
theorem wm_X_125 : Cond.methodLink R_X 125 y_X_arrive ∈ z_T := z_inT (z_intb (i := 274) (by decide +kernel)) rfl
theorem wi_X_arrive : Cond.instanceMethod y_X_arrive ∈ z_T := z_inT (z_intb (i := 276) (by decide +kernel)) rfl
set_option maxRecDepth 20000 in
theorem wc_X_arrive : Cond.code y_X_arrive b_X_arrive 6 none ∈ z_T := z_inT (z_intb (i := 277) rfl) rfl
theorem ws_X_arrive : Cond.selects R_X y_X_arrive y_X_arrive ∈ z_T := z_inT (z_insel (i := 6) (by decide +kernel)) rfl
theorem wm_X_129 : Cond.methodLink R_X 129 y_R_has ∈ z_T := z_inT (z_intb (i := 355) (by decide +kernel)) rfl
theorem wi_R_has : Cond.instanceMethod y_R_has ∈ z_T := z_inT (z_intb (i := 356) (by decide +kernel)) rfl
set_option maxRecDepth 20000 in
theorem wc_R_has : Cond.code y_R_has b_R_has 2 (some .boolean) ∈ z_T := z_inT (z_intb (i := 358) rfl) rfl
theorem ws_R_has : Cond.selects R_R y_R_has y_R_has ∈ z_T := z_inT (z_intb (i := 357) (by decide +kernel)) rfl
theorem wf_X_144 : Cond.fieldLink R_X 144 R_D "doneCount" "I" ∈ z_T := z_inT (z_intb (i := 59) (by decide +kernel)) rfl
theorem wf_X_152 : Cond.fieldLink R_X 152 R_H "mendCount" "I" ∈ z_T := z_inT (z_intb (i := 76) (by decide +kernel)) rfl
theorem wf_M_13 : Cond.fieldLink R_M 13 R_M "blocks" "[I" ∈ z_T := z_inT (z_intb (i := 411) (by decide +kernel)) rfl
theorem wm_M_76 : Cond.methodLink R_M 76 y_M_isHouse ∈ z_T := z_inT (z_intb (i := 503) (by decide +kernel)) rfl
theorem wi_M_isHouse : Cond.static y_M_isHouse ∈ z_T := z_inT (z_intb (i := 504) (by decide +kernel)) rfl
set_option maxRecDepth 20000 in
theorem wc_M_isHouse : Cond.code y_M_isHouse b_M_isHouse 1 (some .boolean) ∈ z_T := z_inT (z_intb (i := 505) rfl) rfl
theorem wn_M : Cond.initialized R_M ∈ z_T := z_inT (z_intb (i := 7) (by decide +kernel)) rfl
theorem wm_M_80 : Cond.methodLink R_M 80 y_M_blocksOf ∈ z_T := z_inT (z_intb (i := 491) (by decide +kernel)) rfl
theorem wi_M_blocksOf : Cond.instanceMethod y_M_blocksOf ∈ z_T := z_inT (z_intb (i := 493) (by decide +kernel)) rfl
set_option maxRecDepth 20000 in
theorem wc_M_blocksOf : Cond.code y_M_blocksOf b_M_blocksOf 2 (some .int) ∈ z_T := z_inT (z_intb (i := 494) rfl) rfl
theorem ws_M_blocksOf : Cond.selects R_M y_M_blocksOf y_M_blocksOf ∈ z_T := z_inT (z_insel (i := 15) (by decide +kernel)) rfl
theorem wm_M_84 : Cond.methodLink R_M 84 y_M_isByte ∈ z_T := z_inT (z_intb (i := 499) (by decide +kernel)) rfl
theorem wi_M_isByte : Cond.instanceMethod y_M_isByte ∈ z_T := z_inT (z_intb (i := 501) (by decide +kernel)) rfl
set_option maxRecDepth 20000 in
theorem wc_M_isByte : Cond.code y_M_isByte b_M_isByte 4 (some .boolean) ∈ z_T := z_inT (z_intb (i := 502) rfl) rfl
theorem ws_M_isByte : Cond.selects R_M y_M_isByte y_M_isByte ∈ z_T := z_inT (z_insel (i := 16) (by decide +kernel)) rfl
theorem wf_M_7 : Cond.fieldLink R_M 7 R_M "bytes" "[I" ∈ z_T := z_inT (z_intb (i := 410) (by decide +kernel)) rfl
theorem wk_M_88 : Cond.constantLong R_M 88 1099511628211 ∈ z_T := z_inT (z_intb (i := 521) (by decide +kernel)) rfl
theorem wm_M_90 : Cond.methodLink R_M 90 y_M_sizeOf ∈ z_T := z_inT (z_intb (i := 514) (by decide +kernel)) rfl
theorem wi_M_sizeOf : Cond.instanceMethod y_M_sizeOf ∈ z_T := z_inT (z_intb (i := 516) (by decide +kernel)) rfl
set_option maxRecDepth 20000 in
theorem wc_M_sizeOf : Cond.code y_M_sizeOf b_M_sizeOf 3 (some .int) ∈ z_T := z_inT (z_intb (i := 517) rfl) rfl
theorem ws_M_sizeOf : Cond.selects R_M y_M_sizeOf y_M_sizeOf ∈ z_T := z_inT (z_insel (i := 17) (by decide +kernel)) rfl
theorem wm_M_94 : Cond.methodLink R_M 94 y_M_mix ∈ z_T := z_inT (z_intb (i := 518) (by decide +kernel)) rfl
theorem wi_M_mix : Cond.static y_M_mix ∈ z_T := z_inT (z_intb (i := 519) (by decide +kernel)) rfl
set_option maxRecDepth 20000 in
theorem wc_M_mix : Cond.code y_M_mix b_M_mix 3 (some .long) ∈ z_T := z_inT (z_intb (i := 520) rfl) rfl
theorem wf_M_98 : Cond.fieldLink R_M 98 R_M "many" "I" ∈ z_T := z_inT (z_intb (i := 424) (by decide +kernel)) rfl
theorem wf_M_51 : Cond.fieldLink R_M 51 R_M "kinds" "[I" ∈ z_T := z_inT (z_intb (i := 425) (by decide +kernel)) rfl
theorem wf_M_54 : Cond.fieldLink R_M 54 R_M "pollOf" "[I" ∈ z_T := z_inT (z_intb (i := 426) (by decide +kernel)) rfl
theorem wf_M_57 : Cond.fieldLink R_M 57 R_M "houseOf" "[I" ∈ z_T := z_inT (z_intb (i := 427) (by decide +kernel)) rfl
theorem wf_M_60 : Cond.fieldLink R_M 60 R_M "sumOf" "[J" ∈ z_T := z_inT (z_intb (i := 428) (by decide +kernel)) rfl
theorem wf_M_63 : Cond.fieldLink R_M 63 R_M "loads" "[I" ∈ z_T := z_inT (z_intb (i := 429) (by decide +kernel)) rfl
theorem wm_M_101 : Cond.methodLink R_M 101 y_M_copyLetter ∈ z_T := z_inT (z_intb (i := 534) (by decide +kernel)) rfl
theorem wi_M_copyLetter : Cond.instanceMethod y_M_copyLetter ∈ z_T := z_inT (z_intb (i := 536) (by decide +kernel)) rfl
set_option maxRecDepth 20000 in
theorem wc_M_copyLetter : Cond.code y_M_copyLetter b_M_copyLetter 4 none ∈ z_T := z_inT (z_intb (i := 537) rfl) rfl
theorem ws_M_copyLetter : Cond.selects R_M y_M_copyLetter y_M_copyLetter ∈ z_T := z_inT (z_insel (i := 20) (by decide +kernel)) rfl
theorem wm_M_105 : Cond.methodLink R_M 105 y_M_isLetter ∈ z_T := z_inT (z_intb (i := 526) (by decide +kernel)) rfl
theorem wi_M_isLetter : Cond.instanceMethod y_M_isLetter ∈ z_T := z_inT (z_intb (i := 528) (by decide +kernel)) rfl
set_option maxRecDepth 20000 in
theorem wc_M_isLetter : Cond.code y_M_isLetter b_M_isLetter 2 (some .boolean) ∈ z_T := z_inT (z_intb (i := 529) rfl) rfl
theorem ws_M_isLetter : Cond.selects R_M y_M_isLetter y_M_isLetter ∈ z_T := z_inT (z_insel (i := 18) (by decide +kernel)) rfl
theorem wm_M_108 : Cond.methodLink R_M 108 y_M_leave ∈ z_T := z_inT (z_intb (i := 530) (by decide +kernel)) rfl
theorem wi_M_leave : Cond.instanceMethod y_M_leave ∈ z_T := z_inT (z_intb (i := 532) (by decide +kernel)) rfl
set_option maxRecDepth 20000 in
theorem wc_M_leave : Cond.code y_M_leave b_M_leave 3 none ∈ z_T := z_inT (z_intb (i := 533) rfl) rfl
theorem ws_M_leave : Cond.selects R_M y_M_leave y_M_leave ∈ z_T := z_inT (z_insel (i := 19) (by decide +kernel)) rfl
theorem wf_M_23 : Cond.fieldLink R_M 23 R_M "numbers" "[I" ∈ z_T := z_inT (z_intb (i := 415) (by decide +kernel)) rfl
theorem wf_M_112 : Cond.fieldLink R_M 112 R_M "polls" "I" ∈ z_T := z_inT (z_intb (i := 413) (by decide +kernel)) rfl
theorem wf_M_26 : Cond.fieldLink R_M 26 R_M "deposits" "[I" ∈ z_T := z_inT (z_intb (i := 416) (by decide +kernel)) rfl
theorem wf_M_29 : Cond.fieldLink R_M 29 R_M "partsOf" "[I" ∈ z_T := z_inT (z_intb (i := 417) (by decide +kernel)) rfl
theorem wf_M_32 : Cond.fieldLink R_M 32 R_M "nonces" "[J" ∈ z_T := z_inT (z_intb (i := 418) (by decide +kernel)) rfl
theorem wf_M_36 : Cond.fieldLink R_M 36 R_M "began" "[I" ∈ z_T := z_inT (z_intb (i := 419) (by decide +kernel)) rfl
theorem wf_M_66 : Cond.fieldLink R_M 66 R_M "round" "I" ∈ z_T := z_inT (z_intb (i := 430) (by decide +kernel)) rfl
theorem wf_M_39 : Cond.fieldLink R_M 39 R_M "sumBits" "[I" ∈ z_T := z_inT (z_intb (i := 420) (by decide +kernel)) rfl
theorem wf_M_42 : Cond.fieldLink R_M 42 R_M "copyBits" "[I" ∈ z_T := z_inT (z_intb (i := 421) (by decide +kernel)) rfl
theorem wf_M_20 : Cond.fieldLink R_M 20 R_M "results" "[I" ∈ z_T := z_inT (z_intb (i := 414) (by decide +kernel)) rfl
theorem wm_M_115 : Cond.methodLink R_M 115 y_M_come ∈ z_T := z_inT (z_intb (i := 554) (by decide +kernel)) rfl
theorem wi_M_come : Cond.instanceMethod y_M_come ∈ z_T := z_inT (z_intb (i := 556) (by decide +kernel)) rfl
set_option maxRecDepth 20000 in
theorem wc_M_come : Cond.code y_M_come b_M_come 5 (some .int) ∈ z_T := z_inT (z_intb (i := 557) rfl) rfl
theorem ws_M_come : Cond.selects R_M y_M_come y_M_come ∈ z_T := z_inT (z_insel (i := 21) (by decide +kernel)) rfl
theorem wm_M_119 : Cond.methodLink R_M 119 y_M_placeOf ∈ z_T := z_inT (z_intb (i := 562) (by decide +kernel)) rfl
theorem wi_M_placeOf : Cond.instanceMethod y_M_placeOf ∈ z_T := z_inT (z_intb (i := 564) (by decide +kernel)) rfl
set_option maxRecDepth 20000 in
theorem wc_M_placeOf : Cond.code y_M_placeOf b_M_placeOf 4 (some .int) ∈ z_T := z_inT (z_intb (i := 565) rfl) rfl
theorem ws_M_placeOf : Cond.selects R_M y_M_placeOf y_M_placeOf ∈ z_T := z_inT (z_insel (i := 22) (by decide +kernel)) rfl
theorem wf_M_70 : Cond.fieldLink R_M 70 R_M "isDone" "[Z" ∈ z_T := z_inT (z_intb (i := 431) (by decide +kernel)) rfl
theorem wf_M_122 : Cond.fieldLink R_M 122 R_M "disputed" "I" ∈ z_T := z_inT (z_intb (i := 433) (by decide +kernel)) rfl
theorem wm_M_125 : Cond.methodLink R_M 125 y_M_count ∈ z_T := z_inT (z_intb (i := 578) (by decide +kernel)) rfl
theorem wi_M_count : Cond.instanceMethod y_M_count ∈ z_T := z_inT (z_intb (i := 580) (by decide +kernel)) rfl
set_option maxRecDepth 20000 in
theorem wc_M_count : Cond.code y_M_count b_M_count 4 (some .int) ∈ z_T := z_inT (z_intb (i := 581) rfl) rfl
theorem ws_M_count : Cond.selects R_M y_M_count y_M_count ∈ z_T := z_inT (z_insel (i := 25) (by decide +kernel)) rfl
theorem wf_M_45 : Cond.fieldLink R_M 45 R_M "sums" "[J" ∈ z_T := z_inT (z_intb (i := 422) (by decide +kernel)) rfl
theorem wm_M_129 : Cond.methodLink R_M 129 y_M_end ∈ z_T := z_inT (z_intb (i := 574) (by decide +kernel)) rfl
theorem wi_M_end : Cond.instanceMethod y_M_end ∈ z_T := z_inT (z_intb (i := 576) (by decide +kernel)) rfl
set_option maxRecDepth 20000 in
theorem wc_M_end : Cond.code y_M_end b_M_end 4 none ∈ z_T := z_inT (z_intb (i := 577) rfl) rfl
theorem ws_M_end : Cond.selects R_M y_M_end y_M_end ∈ z_T := z_inT (z_insel (i := 24) (by decide +kernel)) rfl
theorem wf_M_48 : Cond.fieldLink R_M 48 R_M "copies" "[I" ∈ z_T := z_inT (z_intb (i := 423) (by decide +kernel)) rfl
theorem wm_M_132 : Cond.methodLink R_M 132 y_M_byteAt ∈ z_T := z_inT (z_intb (i := 598) (by decide +kernel)) rfl
theorem wi_M_byteAt : Cond.instanceMethod y_M_byteAt ∈ z_T := z_inT (z_intb (i := 600) (by decide +kernel)) rfl
set_option maxRecDepth 20000 in
theorem wc_M_byteAt : Cond.code y_M_byteAt b_M_byteAt 4 (some .int) ∈ z_T := z_inT (z_intb (i := 601) rfl) rfl
theorem ws_M_byteAt : Cond.selects R_M y_M_byteAt y_M_byteAt ∈ z_T := z_inT (z_insel (i := 30) (by decide +kernel)) rfl
theorem wf_M_73 : Cond.fieldLink R_M 73 R_M "mended" "[I" ∈ z_T := z_inT (z_intb (i := 432) (by decide +kernel)) rfl
theorem wm_M_135 : Cond.methodLink R_M 135 y_M_alike ∈ z_T := z_inT (z_intb (i := 590) (by decide +kernel)) rfl
theorem wi_M_alike : Cond.instanceMethod y_M_alike ∈ z_T := z_inT (z_intb (i := 592) (by decide +kernel)) rfl
set_option maxRecDepth 20000 in
theorem wc_M_alike : Cond.code y_M_alike b_M_alike 7 (some .boolean) ∈ z_T := z_inT (z_intb (i := 593) rfl) rfl
theorem ws_M_alike : Cond.selects R_M y_M_alike y_M_alike ∈ z_T := z_inT (z_insel (i := 28) (by decide +kernel)) rfl
theorem wf_M_16 : Cond.fieldLink R_M 16 R_M "open" "[Z" ∈ z_T := z_inT (z_intb (i := 412) (by decide +kernel)) rfl
theorem wm_M_139 : Cond.methodLink R_M 139 y_M_isAsCopied ∈ z_T := z_inT (z_intb (i := 594) (by decide +kernel)) rfl
theorem wi_M_isAsCopied : Cond.instanceMethod y_M_isAsCopied ∈ z_T := z_inT (z_intb (i := 596) (by decide +kernel)) rfl
set_option maxRecDepth 20000 in
theorem wc_M_isAsCopied : Cond.code y_M_isAsCopied b_M_isAsCopied 6 (some .boolean) ∈ z_T := z_inT (z_intb (i := 597) rfl) rfl
theorem ws_M_isAsCopied : Cond.selects R_M y_M_isAsCopied y_M_isAsCopied ∈ z_T := z_inT (z_insel (i := 29) (by decide +kernel)) rfl
theorem wm_M_142 : Cond.methodLink R_M 142 y_M_mend ∈ z_T := z_inT (z_intb (i := 602) (by decide +kernel)) rfl
theorem wi_M_mend : Cond.instanceMethod y_M_mend ∈ z_T := z_inT (z_intb (i := 604) (by decide +kernel)) rfl
set_option maxRecDepth 20000 in
theorem wc_M_mend : Cond.code y_M_mend b_M_mend 6 none ∈ z_T := z_inT (z_intb (i := 605) rfl) rfl
theorem ws_M_mend : Cond.selects R_M y_M_mend y_M_mend ∈ z_T := z_inT (z_insel (i := 31) (by decide +kernel)) rfl
theorem wm_M_146 : Cond.methodLink R_M 146 y_M_decide ∈ z_T := z_inT (z_intb (i := 586) (by decide +kernel)) rfl
theorem wi_M_decide : Cond.instanceMethod y_M_decide ∈ z_T := z_inT (z_intb (i := 588) (by decide +kernel)) rfl
set_option maxRecDepth 20000 in
theorem wc_M_decide : Cond.code y_M_decide b_M_decide 8 none ∈ z_T := z_inT (z_intb (i := 589) rfl) rfl
theorem ws_M_decide : Cond.selects R_M y_M_decide y_M_decide ∈ z_T := z_inT (z_insel (i := 27) (by decide +kernel)) rfl
theorem wm_M_149 : Cond.methodLink R_M 149 y_M_sum ∈ z_T := z_inT (z_intb (i := 610) (by decide +kernel)) rfl
theorem wi_M_sum : Cond.instanceMethod y_M_sum ∈ z_T := z_inT (z_intb (i := 511) (by decide +kernel)) rfl
set_option maxRecDepth 20000 in
theorem wc_M_sum : Cond.code y_M_sum b_M_sum 11 (some .long) ∈ z_T := z_inT (z_intb (i := 513) rfl) rfl
theorem ws_M_sum : Cond.selects R_M y_M_sum y_M_sum ∈ z_T := z_inT (z_intb (i := 512) (by decide +kernel)) rfl
theorem wm_M_160 : Cond.methodLink R_M 160 y_M_answer ∈ z_T := z_inT (z_intb (i := 606) (by decide +kernel)) rfl
theorem wi_M_answer : Cond.instanceMethod y_M_answer ∈ z_T := z_inT (z_intb (i := 608) (by decide +kernel)) rfl
set_option maxRecDepth 20000 in
theorem wc_M_answer : Cond.code y_M_answer b_M_answer 7 none ∈ z_T := z_inT (z_intb (i := 609) rfl) rfl
theorem ws_M_answer : Cond.selects R_M y_M_answer y_M_answer ∈ z_T := z_inT (z_insel (i := 32) (by decide +kernel)) rfl
theorem wm_M_157 : Cond.methodLink R_M 157 y_M_takeCopy ∈ z_T := z_inT (z_intb (i := 582) (by decide +kernel)) rfl
theorem wi_M_takeCopy : Cond.instanceMethod y_M_takeCopy ∈ z_T := z_inT (z_intb (i := 584) (by decide +kernel)) rfl
set_option maxRecDepth 20000 in
theorem wc_M_takeCopy : Cond.code y_M_takeCopy b_M_takeCopy 4 none ∈ z_T := z_inT (z_intb (i := 585) rfl) rfl
theorem ws_M_takeCopy : Cond.selects R_M y_M_takeCopy y_M_takeCopy ∈ z_T := z_inT (z_insel (i := 26) (by decide +kernel)) rfl
theorem wm_M_153 : Cond.methodLink R_M 153 y_M_takeSum ∈ z_T := z_inT (z_intb (i := 570) (by decide +kernel)) rfl
theorem wi_M_takeSum : Cond.instanceMethod y_M_takeSum ∈ z_T := z_inT (z_intb (i := 572) (by decide +kernel)) rfl
set_option maxRecDepth 20000 in
theorem wc_M_takeSum : Cond.code y_M_takeSum b_M_takeSum 6 none ∈ z_T := z_inT (z_intb (i := 573) rfl) rfl
theorem ws_M_takeSum : Cond.selects R_M y_M_takeSum y_M_takeSum ∈ z_T := z_inT (z_insel (i := 23) (by decide +kernel)) rfl
end
section
theorem d_H_place_0 : decode b_H_place 0 = .ok (.iload_n 0, 1) := by decide +kernel
theorem d_H_place_1 : decode b_H_place 1 = .ok (.bipush 16, 2) := by decide +kernel
theorem d_H_place_3 : decode b_H_place 3 = .ok (.imul, 1) := by decide +kernel
theorem d_H_place_4 : decode b_H_place 4 = .ok (.iload_n 1, 1) := by decide +kernel
theorem d_H_place_5 : decode b_H_place 5 = .ok (.iadd, 1) := by decide +kernel
theorem d_H_place_6 : decode b_H_place 6 = .ok (.ireturn, 1) := by decide +kernel
theorem d_H_shift_0 : decode b_H_shift 0 = .ok (.iload_n 0, 1) := by decide +kernel
theorem d_H_shift_1 : decode b_H_shift 1 = .ok (.iconst 4, 1) := by decide +kernel
theorem d_H_shift_2 : decode b_H_shift 2 = .ok (.irem, 1) := by decide +kernel
theorem d_H_shift_3 : decode b_H_shift 3 = .ok (.bipush 8, 2) := by decide +kernel
theorem d_H_shift_5 : decode b_H_shift 5 = .ok (.imul, 1) := by decide +kernel
theorem d_H_shift_6 : decode b_H_shift 6 = .ok (.ireturn, 1) := by decide +kernel
theorem d_H_byteOf_0 : decode b_H_byteOf 0 = .ok (.aload_n 0, 1) := by decide +kernel
theorem d_H_byteOf_1 : decode b_H_byteOf 1 = .ok (.getfield 19, 3) := by decide +kernel
theorem d_H_byteOf_4 : decode b_H_byteOf 4 = .ok (.iload_n 1, 1) := by decide +kernel
theorem d_H_byteOf_5 : decode b_H_byteOf 5 = .ok (.iload_n 2, 1) := by decide +kernel
theorem d_H_byteOf_6 : decode b_H_byteOf 6 = .ok (.iconst 4, 1) := by decide +kernel
theorem d_H_byteOf_7 : decode b_H_byteOf 7 = .ok (.idiv, 1) := by decide +kernel
theorem d_H_byteOf_8 : decode b_H_byteOf 8 = .ok (.invokestatic 27, 3) := by decide +kernel
theorem d_H_byteOf_11 : decode b_H_byteOf 11 = .ok (.iaload, 1) := by decide +kernel
theorem d_H_byteOf_12 : decode b_H_byteOf 12 = .ok (.iload_n 2, 1) := by decide +kernel
theorem d_H_byteOf_13 : decode b_H_byteOf 13 = .ok (.invokestatic 31, 3) := by decide +kernel
theorem d_H_byteOf_16 : decode b_H_byteOf 16 = .ok (.iushr, 1) := by decide +kernel
theorem d_H_byteOf_17 : decode b_H_byteOf 17 = .ok (.sipush 255, 3) := by decide +kernel
theorem d_H_byteOf_20 : decode b_H_byteOf 20 = .ok (.iand, 1) := by decide +kernel
theorem d_H_byteOf_21 : decode b_H_byteOf 21 = .ok (.ireturn, 1) := by decide +kernel
theorem d_H_flip_0 : decode b_H_flip 0 = .ok (.aload_n 0, 1) := by decide +kernel
theorem d_H_flip_1 : decode b_H_flip 1 = .ok (.getfield 19, 3) := by decide +kernel
theorem d_H_flip_4 : decode b_H_flip 4 = .ok (.iload_n 1, 1) := by decide +kernel
theorem d_H_flip_5 : decode b_H_flip 5 = .ok (.iload_n 2, 1) := by decide +kernel
theorem d_H_flip_6 : decode b_H_flip 6 = .ok (.iconst 4, 1) := by decide +kernel
theorem d_H_flip_7 : decode b_H_flip 7 = .ok (.idiv, 1) := by decide +kernel
theorem d_H_flip_8 : decode b_H_flip 8 = .ok (.invokestatic 27, 3) := by decide +kernel
theorem d_H_flip_11 : decode b_H_flip 11 = .ok (.dup2, 1) := by decide +kernel
theorem d_H_flip_12 : decode b_H_flip 12 = .ok (.iaload, 1) := by decide +kernel
theorem d_H_flip_13 : decode b_H_flip 13 = .ok (.iload_n 3, 1) := by decide +kernel
theorem d_H_flip_14 : decode b_H_flip 14 = .ok (.iload_n 2, 1) := by decide +kernel
theorem d_H_flip_15 : decode b_H_flip 15 = .ok (.invokestatic 31, 3) := by decide +kernel
theorem d_H_flip_18 : decode b_H_flip 18 = .ok (.ishl, 1) := by decide +kernel
theorem d_H_flip_19 : decode b_H_flip 19 = .ok (.ixor, 1) := by decide +kernel
theorem d_H_flip_20 : decode b_H_flip 20 = .ok (.iastore, 1) := by decide +kernel
theorem d_H_flip_21 : decode b_H_flip 21 = .ok (.return_, 1) := by decide +kernel
theorem d_H_mend_0 : decode b_H_mend 0 = .ok (.aload_n 0, 1) := by decide +kernel
theorem d_H_mend_1 : decode b_H_mend 1 = .ok (.getfield 19, 3) := by decide +kernel
theorem d_H_mend_4 : decode b_H_mend 4 = .ok (.iload_n 1, 1) := by decide +kernel
theorem d_H_mend_5 : decode b_H_mend 5 = .ok (.iload_n 2, 1) := by decide +kernel
theorem d_H_mend_6 : decode b_H_mend 6 = .ok (.invokestatic 27, 3) := by decide +kernel
theorem d_H_mend_9 : decode b_H_mend 9 = .ok (.iload_n 3, 1) := by decide +kernel
theorem d_H_mend_10 : decode b_H_mend 10 = .ok (.iastore, 1) := by decide +kernel
theorem d_H_mend_11 : decode b_H_mend 11 = .ok (.aload_n 0, 1) := by decide +kernel
theorem d_H_mend_12 : decode b_H_mend 12 = .ok (.dup, 1) := by decide +kernel
theorem d_H_mend_13 : decode b_H_mend 13 = .ok (.getfield 15, 3) := by decide +kernel
theorem d_H_mend_16 : decode b_H_mend 16 = .ok (.iconst 1, 1) := by decide +kernel
theorem d_H_mend_17 : decode b_H_mend 17 = .ok (.iadd, 1) := by decide +kernel
theorem d_H_mend_18 : decode b_H_mend 18 = .ok (.putfield 15, 3) := by decide +kernel
theorem d_H_mend_21 : decode b_H_mend 21 = .ok (.return_, 1) := by decide +kernel
theorem d_H_bytesOfPart_0 : decode b_H_bytesOfPart 0 = .ok (.aload_n 0, 1) := by decide +kernel
theorem d_H_bytesOfPart_1 : decode b_H_bytesOfPart 1 = .ok (.getfield 19, 3) := by decide +kernel
theorem d_H_bytesOfPart_4 : decode b_H_bytesOfPart 4 = .ok (.iload_n 1, 1) := by decide +kernel
theorem d_H_bytesOfPart_5 : decode b_H_bytesOfPart 5 = .ok (.iload_n 2, 1) := by decide +kernel
theorem d_H_bytesOfPart_6 : decode b_H_bytesOfPart 6 = .ok (.invokestatic 27, 3) := by decide +kernel
theorem d_H_bytesOfPart_9 : decode b_H_bytesOfPart 9 = .ok (.iaload, 1) := by decide +kernel
theorem d_H_bytesOfPart_10 : decode b_H_bytesOfPart 10 = .ok (.i2l, 1) := by decide +kernel
theorem d_H_bytesOfPart_11 : decode b_H_bytesOfPart 11 = .ok (.ldc2_w 35, 3) := by decide +kernel
theorem d_H_bytesOfPart_14 : decode b_H_bytesOfPart 14 = .ok (.land, 1) := by decide +kernel
theorem d_H_bytesOfPart_15 : decode b_H_bytesOfPart 15 = .ok (.lstore_n 3, 1) := by decide +kernel
theorem d_H_bytesOfPart_16 : decode b_H_bytesOfPart 16 = .ok (.aload_n 0, 1) := by decide +kernel
theorem d_H_bytesOfPart_17 : decode b_H_bytesOfPart 17 = .ok (.getfield 19, 3) := by decide +kernel
theorem d_H_bytesOfPart_20 : decode b_H_bytesOfPart 20 = .ok (.iload_n 1, 1) := by decide +kernel
theorem d_H_bytesOfPart_21 : decode b_H_bytesOfPart 21 = .ok (.iload_n 2, 1) := by decide +kernel
theorem d_H_bytesOfPart_22 : decode b_H_bytesOfPart 22 = .ok (.bipush 8, 2) := by decide +kernel
theorem d_H_bytesOfPart_24 : decode b_H_bytesOfPart 24 = .ok (.iadd, 1) := by decide +kernel
theorem d_H_bytesOfPart_25 : decode b_H_bytesOfPart 25 = .ok (.invokestatic 27, 3) := by decide +kernel
theorem d_H_bytesOfPart_28 : decode b_H_bytesOfPart 28 = .ok (.iaload, 1) := by decide +kernel
theorem d_H_bytesOfPart_29 : decode b_H_bytesOfPart 29 = .ok (.i2l, 1) := by decide +kernel
theorem d_H_bytesOfPart_30 : decode b_H_bytesOfPart 30 = .ok (.lstore 5, 2) := by decide +kernel
theorem d_H_bytesOfPart_32 : decode b_H_bytesOfPart 32 = .ok (.lload 5, 2) := by decide +kernel
theorem d_H_bytesOfPart_34 : decode b_H_bytesOfPart 34 = .ok (.bipush 32, 2) := by decide +kernel
theorem d_H_bytesOfPart_36 : decode b_H_bytesOfPart 36 = .ok (.lshl, 1) := by decide +kernel
theorem d_H_bytesOfPart_37 : decode b_H_bytesOfPart 37 = .ok (.lload_n 3, 1) := by decide +kernel
theorem d_H_bytesOfPart_38 : decode b_H_bytesOfPart 38 = .ok (.lor, 1) := by decide +kernel
theorem d_H_bytesOfPart_39 : decode b_H_bytesOfPart 39 = .ok (.lreturn, 1) := by decide +kernel
theorem d_H_sumOfPart_0 : decode b_H_sumOfPart 0 = .ok (.lload 4, 2) := by decide +kernel
theorem d_H_sumOfPart_2 : decode b_H_sumOfPart 2 = .ok (.lstore 6, 2) := by decide +kernel
theorem d_H_sumOfPart_4 : decode b_H_sumOfPart 4 = .ok (.iload_n 2, 1) := by decide +kernel
theorem d_H_sumOfPart_5 : decode b_H_sumOfPart 5 = .ok (.istore 8, 2) := by decide +kernel
theorem d_H_sumOfPart_7 : decode b_H_sumOfPart 7 = .ok (.iload 8, 2) := by decide +kernel
theorem d_H_sumOfPart_9 : decode b_H_sumOfPart 9 = .ok (.iload_n 3, 1) := by decide +kernel
theorem d_H_sumOfPart_10 : decode b_H_sumOfPart 10 = .ok (.if_icmp .ge 69, 3) := by decide +kernel
theorem d_H_sumOfPart_13 : decode b_H_sumOfPart 13 = .ok (.lload 6, 2) := by decide +kernel
theorem d_H_sumOfPart_15 : decode b_H_sumOfPart 15 = .ok (.iload_n 1, 1) := by decide +kernel
theorem d_H_sumOfPart_16 : decode b_H_sumOfPart 16 = .ok (.i2l, 1) := by decide +kernel
theorem d_H_sumOfPart_17 : decode b_H_sumOfPart 17 = .ok (.lxor, 1) := by decide +kernel
theorem d_H_sumOfPart_18 : decode b_H_sumOfPart 18 = .ok (.ldc2_w 37, 3) := by decide +kernel
theorem d_H_sumOfPart_21 : decode b_H_sumOfPart 21 = .ok (.lmul, 1) := by decide +kernel
theorem d_H_sumOfPart_22 : decode b_H_sumOfPart 22 = .ok (.lstore 6, 2) := by decide +kernel
theorem d_H_sumOfPart_24 : decode b_H_sumOfPart 24 = .ok (.lload 6, 2) := by decide +kernel
theorem d_H_sumOfPart_26 : decode b_H_sumOfPart 26 = .ok (.iload 8, 2) := by decide +kernel
theorem d_H_sumOfPart_28 : decode b_H_sumOfPart 28 = .ok (.i2l, 1) := by decide +kernel
theorem d_H_sumOfPart_29 : decode b_H_sumOfPart 29 = .ok (.lxor, 1) := by decide +kernel
theorem d_H_sumOfPart_30 : decode b_H_sumOfPart 30 = .ok (.ldc2_w 37, 3) := by decide +kernel
theorem d_H_sumOfPart_33 : decode b_H_sumOfPart 33 = .ok (.lmul, 1) := by decide +kernel
theorem d_H_sumOfPart_34 : decode b_H_sumOfPart 34 = .ok (.lstore 6, 2) := by decide +kernel
theorem d_H_sumOfPart_36 : decode b_H_sumOfPart 36 = .ok (.iconst 0, 1) := by decide +kernel
theorem d_H_sumOfPart_37 : decode b_H_sumOfPart 37 = .ok (.istore 9, 2) := by decide +kernel
theorem d_H_sumOfPart_39 : decode b_H_sumOfPart 39 = .ok (.iload 9, 2) := by decide +kernel
theorem d_H_sumOfPart_41 : decode b_H_sumOfPart 41 = .ok (.iconst 4, 1) := by decide +kernel
theorem d_H_sumOfPart_42 : decode b_H_sumOfPart 42 = .ok (.if_icmp .ge 31, 3) := by decide +kernel
theorem d_H_sumOfPart_45 : decode b_H_sumOfPart 45 = .ok (.lload 6, 2) := by decide +kernel
theorem d_H_sumOfPart_47 : decode b_H_sumOfPart 47 = .ok (.aload_n 0, 1) := by decide +kernel
theorem d_H_sumOfPart_48 : decode b_H_sumOfPart 48 = .ok (.iload_n 1, 1) := by decide +kernel
theorem d_H_sumOfPart_49 : decode b_H_sumOfPart 49 = .ok (.iload 8, 2) := by decide +kernel
theorem d_H_sumOfPart_51 : decode b_H_sumOfPart 51 = .ok (.iconst 4, 1) := by decide +kernel
theorem d_H_sumOfPart_52 : decode b_H_sumOfPart 52 = .ok (.imul, 1) := by decide +kernel
theorem d_H_sumOfPart_53 : decode b_H_sumOfPart 53 = .ok (.iload 9, 2) := by decide +kernel
theorem d_H_sumOfPart_55 : decode b_H_sumOfPart 55 = .ok (.iadd, 1) := by decide +kernel
theorem d_H_sumOfPart_56 : decode b_H_sumOfPart 56 = .ok (.invokevirtual 39, 3) := by decide +kernel
theorem d_H_sumOfPart_59 : decode b_H_sumOfPart 59 = .ok (.i2l, 1) := by decide +kernel
theorem d_H_sumOfPart_60 : decode b_H_sumOfPart 60 = .ok (.lxor, 1) := by decide +kernel
theorem d_H_sumOfPart_61 : decode b_H_sumOfPart 61 = .ok (.ldc2_w 37, 3) := by decide +kernel
theorem d_H_sumOfPart_64 : decode b_H_sumOfPart 64 = .ok (.lmul, 1) := by decide +kernel
theorem d_H_sumOfPart_65 : decode b_H_sumOfPart 65 = .ok (.lstore 6, 2) := by decide +kernel
theorem d_H_sumOfPart_67 : decode b_H_sumOfPart 67 = .ok (.iinc 9 1, 3) := by decide +kernel
theorem d_H_sumOfPart_70 : decode b_H_sumOfPart 70 = .ok (.goto (-31), 3) := by decide +kernel
theorem d_H_sumOfPart_73 : decode b_H_sumOfPart 73 = .ok (.iinc 8 8, 3) := by decide +kernel
theorem d_H_sumOfPart_76 : decode b_H_sumOfPart 76 = .ok (.goto (-69), 3) := by decide +kernel
theorem d_H_sumOfPart_79 : decode b_H_sumOfPart 79 = .ok (.lload 6, 2) := by decide +kernel
theorem d_H_sumOfPart_81 : decode b_H_sumOfPart 81 = .ok (.lreturn, 1) := by decide +kernel
theorem d_H_receive_0 : decode b_H_receive 0 = .ok (.iconst 0, 1) := by decide +kernel
theorem d_H_receive_1 : decode b_H_receive 1 = .ok (.istore 4, 2) := by decide +kernel
theorem d_H_receive_3 : decode b_H_receive 3 = .ok (.iload 4, 2) := by decide +kernel
theorem d_H_receive_5 : decode b_H_receive 5 = .ok (.iload_n 2, 1) := by decide +kernel
theorem d_H_receive_6 : decode b_H_receive 6 = .ok (.iconst 4, 1) := by decide +kernel
theorem d_H_receive_7 : decode b_H_receive 7 = .ok (.imul, 1) := by decide +kernel
theorem d_H_receive_8 : decode b_H_receive 8 = .ok (.if_icmp .ge 27, 3) := by decide +kernel
theorem d_H_receive_11 : decode b_H_receive 11 = .ok (.aload_n 0, 1) := by decide +kernel
theorem d_H_receive_12 : decode b_H_receive 12 = .ok (.iload_n 1, 1) := by decide +kernel
theorem d_H_receive_13 : decode b_H_receive 13 = .ok (.iload 4, 2) := by decide +kernel
theorem d_H_receive_15 : decode b_H_receive 15 = .ok (.iload_n 3, 1) := by decide +kernel
theorem d_H_receive_16 : decode b_H_receive 16 = .ok (.bipush 31, 2) := by decide +kernel
theorem d_H_receive_18 : decode b_H_receive 18 = .ok (.iload 4, 2) := by decide +kernel
theorem d_H_receive_20 : decode b_H_receive 20 = .ok (.imul, 1) := by decide +kernel
theorem d_H_receive_21 : decode b_H_receive 21 = .ok (.iadd, 1) := by decide +kernel
theorem d_H_receive_22 : decode b_H_receive 22 = .ok (.sipush 255, 3) := by decide +kernel
theorem d_H_receive_25 : decode b_H_receive 25 = .ok (.iand, 1) := by decide +kernel
theorem d_H_receive_26 : decode b_H_receive 26 = .ok (.invokevirtual 23, 3) := by decide +kernel
theorem d_H_receive_29 : decode b_H_receive 29 = .ok (.iinc 4 1, 3) := by decide +kernel
theorem d_H_receive_32 : decode b_H_receive 32 = .ok (.goto (-29), 3) := by decide +kernel
theorem d_H_receive_35 : decode b_H_receive 35 = .ok (.return_, 1) := by decide +kernel
theorem d_A_forget_0 : decode b_A_forget 0 = .ok (.iconst 0, 1) := by decide +kernel
theorem d_A_forget_1 : decode b_A_forget 1 = .ok (.istore_n 1, 1) := by decide +kernel
theorem d_A_forget_2 : decode b_A_forget 2 = .ok (.iload_n 1, 1) := by decide +kernel
theorem d_A_forget_3 : decode b_A_forget 3 = .ok (.iconst 3, 1) := by decide +kernel
theorem d_A_forget_4 : decode b_A_forget 4 = .ok (.if_icmp .ge 16, 3) := by decide +kernel
theorem d_A_forget_7 : decode b_A_forget 7 = .ok (.aload_n 0, 1) := by decide +kernel
theorem d_A_forget_8 : decode b_A_forget 8 = .ok (.getfield 9, 3) := by decide +kernel
theorem d_A_forget_11 : decode b_A_forget 11 = .ok (.iload_n 1, 1) := by decide +kernel
theorem d_A_forget_12 : decode b_A_forget 12 = .ok (.iconst 0, 1) := by decide +kernel
theorem d_A_forget_13 : decode b_A_forget 13 = .ok (.bastore, 1) := by decide +kernel
theorem d_A_forget_14 : decode b_A_forget 14 = .ok (.iinc 1 1, 3) := by decide +kernel
theorem d_A_forget_17 : decode b_A_forget 17 = .ok (.goto (-15), 3) := by decide +kernel
theorem d_A_forget_20 : decode b_A_forget 20 = .ok (.aload_n 0, 1) := by decide +kernel
theorem d_A_forget_21 : decode b_A_forget 21 = .ok (.iconst 0, 1) := by decide +kernel
theorem d_A_forget_22 : decode b_A_forget 22 = .ok (.putfield 19, 3) := by decide +kernel
theorem d_A_forget_25 : decode b_A_forget 25 = .ok (.return_, 1) := by decide +kernel
theorem d_A_take_0 : decode b_A_take 0 = .ok (.aload_n 0, 1) := by decide +kernel
theorem d_A_take_1 : decode b_A_take 1 = .ok (.getfield 9, 3) := by decide +kernel
theorem d_A_take_4 : decode b_A_take 4 = .ok (.iload_n 1, 1) := by decide +kernel
theorem d_A_take_5 : decode b_A_take 5 = .ok (.baload, 1) := by decide +kernel
theorem d_A_take_6 : decode b_A_take 6 = .ok (.ifCond .eq 5, 3) := by decide +kernel
theorem d_A_take_9 : decode b_A_take 9 = .ok (.iconst 0, 1) := by decide +kernel
theorem d_A_take_10 : decode b_A_take 10 = .ok (.ireturn, 1) := by decide +kernel
theorem d_A_take_11 : decode b_A_take 11 = .ok (.aload_n 0, 1) := by decide +kernel
theorem d_A_take_12 : decode b_A_take 12 = .ok (.getfield 9, 3) := by decide +kernel
theorem d_A_take_15 : decode b_A_take 15 = .ok (.iload_n 1, 1) := by decide +kernel
theorem d_A_take_16 : decode b_A_take 16 = .ok (.iconst 1, 1) := by decide +kernel
theorem d_A_take_17 : decode b_A_take 17 = .ok (.bastore, 1) := by decide +kernel
theorem d_A_take_18 : decode b_A_take 18 = .ok (.aload_n 0, 1) := by decide +kernel
theorem d_A_take_19 : decode b_A_take 19 = .ok (.getfield 15, 3) := by decide +kernel
theorem d_A_take_22 : decode b_A_take 22 = .ok (.iload_n 1, 1) := by decide +kernel
theorem d_A_take_23 : decode b_A_take 23 = .ok (.lload_n 2, 1) := by decide +kernel
theorem d_A_take_24 : decode b_A_take 24 = .ok (.lastore, 1) := by decide +kernel
theorem d_A_take_25 : decode b_A_take 25 = .ok (.aload_n 0, 1) := by decide +kernel
theorem d_A_take_26 : decode b_A_take 26 = .ok (.dup, 1) := by decide +kernel
theorem d_A_take_27 : decode b_A_take 27 = .ok (.getfield 19, 3) := by decide +kernel
theorem d_A_take_30 : decode b_A_take 30 = .ok (.iconst 1, 1) := by decide +kernel
theorem d_A_take_31 : decode b_A_take 31 = .ok (.iadd, 1) := by decide +kernel
theorem d_A_take_32 : decode b_A_take 32 = .ok (.putfield 19, 3) := by decide +kernel
theorem d_A_take_35 : decode b_A_take 35 = .ok (.iconst 1, 1) := by decide +kernel
theorem d_A_take_36 : decode b_A_take 36 = .ok (.ireturn, 1) := by decide +kernel
theorem d_A_isComplete_0 : decode b_A_isComplete 0 = .ok (.aload_n 0, 1) := by decide +kernel
theorem d_A_isComplete_1 : decode b_A_isComplete 1 = .ok (.getfield 19, 3) := by decide +kernel
theorem d_A_isComplete_4 : decode b_A_isComplete 4 = .ok (.iconst 3, 1) := by decide +kernel
theorem d_A_isComplete_5 : decode b_A_isComplete 5 = .ok (.if_icmp .ne 7, 3) := by decide +kernel
theorem d_A_isComplete_8 : decode b_A_isComplete 8 = .ok (.iconst 1, 1) := by decide +kernel
theorem d_A_isComplete_9 : decode b_A_isComplete 9 = .ok (.goto 4, 3) := by decide +kernel
theorem d_A_isComplete_12 : decode b_A_isComplete 12 = .ok (.iconst 0, 1) := by decide +kernel
theorem d_A_isComplete_13 : decode b_A_isComplete 13 = .ok (.ireturn, 1) := by decide +kernel
theorem d_A_areAlike_0 : decode b_A_areAlike 0 = .ok (.aload_n 0, 1) := by decide +kernel
theorem d_A_areAlike_1 : decode b_A_areAlike 1 = .ok (.getfield 15, 3) := by decide +kernel
theorem d_A_areAlike_4 : decode b_A_areAlike 4 = .ok (.iconst 0, 1) := by decide +kernel
theorem d_A_areAlike_5 : decode b_A_areAlike 5 = .ok (.laload, 1) := by decide +kernel
theorem d_A_areAlike_6 : decode b_A_areAlike 6 = .ok (.aload_n 0, 1) := by decide +kernel
theorem d_A_areAlike_7 : decode b_A_areAlike 7 = .ok (.getfield 15, 3) := by decide +kernel
theorem d_A_areAlike_10 : decode b_A_areAlike 10 = .ok (.iconst 1, 1) := by decide +kernel
theorem d_A_areAlike_11 : decode b_A_areAlike 11 = .ok (.laload, 1) := by decide +kernel
theorem d_A_areAlike_12 : decode b_A_areAlike 12 = .ok (.lcmp, 1) := by decide +kernel
theorem d_A_areAlike_13 : decode b_A_areAlike 13 = .ok (.ifCond .ne 23, 3) := by decide +kernel
theorem d_A_areAlike_16 : decode b_A_areAlike 16 = .ok (.aload_n 0, 1) := by decide +kernel
theorem d_A_areAlike_17 : decode b_A_areAlike 17 = .ok (.getfield 15, 3) := by decide +kernel
theorem d_A_areAlike_20 : decode b_A_areAlike 20 = .ok (.iconst 1, 1) := by decide +kernel
theorem d_A_areAlike_21 : decode b_A_areAlike 21 = .ok (.laload, 1) := by decide +kernel
theorem d_A_areAlike_22 : decode b_A_areAlike 22 = .ok (.aload_n 0, 1) := by decide +kernel
theorem d_A_areAlike_23 : decode b_A_areAlike 23 = .ok (.getfield 15, 3) := by decide +kernel
theorem d_A_areAlike_26 : decode b_A_areAlike 26 = .ok (.iconst 2, 1) := by decide +kernel
theorem d_A_areAlike_27 : decode b_A_areAlike 27 = .ok (.laload, 1) := by decide +kernel
theorem d_A_areAlike_28 : decode b_A_areAlike 28 = .ok (.lcmp, 1) := by decide +kernel
theorem d_A_areAlike_29 : decode b_A_areAlike 29 = .ok (.ifCond .ne 7, 3) := by decide +kernel
theorem d_A_areAlike_32 : decode b_A_areAlike 32 = .ok (.iconst 1, 1) := by decide +kernel
theorem d_A_areAlike_33 : decode b_A_areAlike 33 = .ok (.goto 4, 3) := by decide +kernel
theorem d_A_areAlike_36 : decode b_A_areAlike 36 = .ok (.iconst 0, 1) := by decide +kernel
theorem d_A_areAlike_37 : decode b_A_areAlike 37 = .ok (.ireturn, 1) := by decide +kernel
theorem d_R_has_0 : decode b_R_has 0 = .ok (.iload_n 1, 1) := by decide +kernel
theorem d_R_has_1 : decode b_R_has 1 = .ok (.ifCond .lt 15, 3) := by decide +kernel
theorem d_R_has_4 : decode b_R_has 4 = .ok (.iload_n 1, 1) := by decide +kernel
theorem d_R_has_5 : decode b_R_has 5 = .ok (.aload_n 0, 1) := by decide +kernel
theorem d_R_has_6 : decode b_R_has 6 = .ok (.getfield 25, 3) := by decide +kernel
theorem d_R_has_9 : decode b_R_has 9 = .ok (.if_icmp .ge 7, 3) := by decide +kernel
theorem d_R_has_12 : decode b_R_has 12 = .ok (.iconst 1, 1) := by decide +kernel
theorem d_R_has_13 : decode b_R_has 13 = .ok (.goto 4, 3) := by decide +kernel
theorem d_R_has_16 : decode b_R_has 16 = .ok (.iconst 0, 1) := by decide +kernel
theorem d_R_has_17 : decode b_R_has 17 = .ok (.ireturn, 1) := by decide +kernel
theorem d_R_add_0 : decode b_R_add 0 = .ok (.aload_n 0, 1) := by decide +kernel
theorem d_R_add_1 : decode b_R_add 1 = .ok (.getfield 25, 3) := by decide +kernel
theorem d_R_add_4 : decode b_R_add 4 = .ok (.bipush 24, 2) := by decide +kernel
theorem d_R_add_6 : decode b_R_add 6 = .ok (.if_icmp .lt 4, 3) := by decide +kernel
theorem d_R_add_9 : decode b_R_add 9 = .ok (.return_, 1) := by decide +kernel
theorem d_R_add_10 : decode b_R_add 10 = .ok (.aload_n 0, 1) := by decide +kernel
theorem d_R_add_11 : decode b_R_add 11 = .ok (.getfield 9, 3) := by decide +kernel
theorem d_R_add_14 : decode b_R_add 14 = .ok (.aload_n 0, 1) := by decide +kernel
theorem d_R_add_15 : decode b_R_add 15 = .ok (.getfield 25, 3) := by decide +kernel
theorem d_R_add_18 : decode b_R_add 18 = .ok (.iload_n 1, 1) := by decide +kernel
theorem d_R_add_19 : decode b_R_add 19 = .ok (.iastore, 1) := by decide +kernel
theorem d_R_add_20 : decode b_R_add 20 = .ok (.aload_n 0, 1) := by decide +kernel
theorem d_R_add_21 : decode b_R_add 21 = .ok (.getfield 15, 3) := by decide +kernel
theorem d_R_add_24 : decode b_R_add 24 = .ok (.aload_n 0, 1) := by decide +kernel
theorem d_R_add_25 : decode b_R_add 25 = .ok (.getfield 25, 3) := by decide +kernel
theorem d_R_add_28 : decode b_R_add 28 = .ok (.iload_n 2, 1) := by decide +kernel
theorem d_R_add_29 : decode b_R_add 29 = .ok (.iastore, 1) := by decide +kernel
theorem d_R_add_30 : decode b_R_add 30 = .ok (.aload_n 0, 1) := by decide +kernel
theorem d_R_add_31 : decode b_R_add 31 = .ok (.getfield 18, 3) := by decide +kernel
theorem d_R_add_34 : decode b_R_add 34 = .ok (.aload_n 0, 1) := by decide +kernel
theorem d_R_add_35 : decode b_R_add 35 = .ok (.getfield 25, 3) := by decide +kernel
theorem d_R_add_38 : decode b_R_add 38 = .ok (.iload_n 3, 1) := by decide +kernel
theorem d_R_add_39 : decode b_R_add 39 = .ok (.iastore, 1) := by decide +kernel
theorem d_R_add_40 : decode b_R_add 40 = .ok (.aload_n 0, 1) := by decide +kernel
theorem d_R_add_41 : decode b_R_add 41 = .ok (.getfield 21, 3) := by decide +kernel
theorem d_R_add_44 : decode b_R_add 44 = .ok (.aload_n 0, 1) := by decide +kernel
theorem d_R_add_45 : decode b_R_add 45 = .ok (.getfield 25, 3) := by decide +kernel
theorem d_R_add_48 : decode b_R_add 48 = .ok (.lload 4, 2) := by decide +kernel
theorem d_R_add_50 : decode b_R_add 50 = .ok (.lastore, 1) := by decide +kernel
theorem d_R_add_51 : decode b_R_add 51 = .ok (.aload_n 0, 1) := by decide +kernel
theorem d_R_add_52 : decode b_R_add 52 = .ok (.dup, 1) := by decide +kernel
theorem d_R_add_53 : decode b_R_add 53 = .ok (.getfield 25, 3) := by decide +kernel
theorem d_R_add_56 : decode b_R_add 56 = .ok (.iconst 1, 1) := by decide +kernel
theorem d_R_add_57 : decode b_R_add 57 = .ok (.iadd, 1) := by decide +kernel
theorem d_R_add_58 : decode b_R_add 58 = .ok (.putfield 25, 3) := by decide +kernel
theorem d_R_add_61 : decode b_R_add 61 = .ok (.return_, 1) := by decide +kernel
theorem d_R_remove_0 : decode b_R_remove 0 = .ok (.aload_n 0, 1) := by decide +kernel
theorem d_R_remove_1 : decode b_R_remove 1 = .ok (.dup, 1) := by decide +kernel
theorem d_R_remove_2 : decode b_R_remove 2 = .ok (.getfield 25, 3) := by decide +kernel
theorem d_R_remove_5 : decode b_R_remove 5 = .ok (.iconst 1, 1) := by decide +kernel
theorem d_R_remove_6 : decode b_R_remove 6 = .ok (.isub, 1) := by decide +kernel
theorem d_R_remove_7 : decode b_R_remove 7 = .ok (.putfield 25, 3) := by decide +kernel
theorem d_R_remove_10 : decode b_R_remove 10 = .ok (.iload_n 1, 1) := by decide +kernel
theorem d_R_remove_11 : decode b_R_remove 11 = .ok (.istore_n 2, 1) := by decide +kernel
theorem d_R_remove_12 : decode b_R_remove 12 = .ok (.iload_n 2, 1) := by decide +kernel
theorem d_R_remove_13 : decode b_R_remove 13 = .ok (.aload_n 0, 1) := by decide +kernel
theorem d_R_remove_14 : decode b_R_remove 14 = .ok (.getfield 25, 3) := by decide +kernel
theorem d_R_remove_17 : decode b_R_remove 17 = .ok (.if_icmp .ge 65, 3) := by decide +kernel
theorem d_R_remove_20 : decode b_R_remove 20 = .ok (.aload_n 0, 1) := by decide +kernel
theorem d_R_remove_21 : decode b_R_remove 21 = .ok (.getfield 9, 3) := by decide +kernel
theorem d_R_remove_24 : decode b_R_remove 24 = .ok (.iload_n 2, 1) := by decide +kernel
theorem d_R_remove_25 : decode b_R_remove 25 = .ok (.aload_n 0, 1) := by decide +kernel
theorem d_R_remove_26 : decode b_R_remove 26 = .ok (.getfield 9, 3) := by decide +kernel
theorem d_R_remove_29 : decode b_R_remove 29 = .ok (.iload_n 2, 1) := by decide +kernel
theorem d_R_remove_30 : decode b_R_remove 30 = .ok (.iconst 1, 1) := by decide +kernel
theorem d_R_remove_31 : decode b_R_remove 31 = .ok (.iadd, 1) := by decide +kernel
theorem d_R_remove_32 : decode b_R_remove 32 = .ok (.iaload, 1) := by decide +kernel
theorem d_R_remove_33 : decode b_R_remove 33 = .ok (.iastore, 1) := by decide +kernel
theorem d_R_remove_34 : decode b_R_remove 34 = .ok (.aload_n 0, 1) := by decide +kernel
theorem d_R_remove_35 : decode b_R_remove 35 = .ok (.getfield 15, 3) := by decide +kernel
theorem d_R_remove_38 : decode b_R_remove 38 = .ok (.iload_n 2, 1) := by decide +kernel
theorem d_R_remove_39 : decode b_R_remove 39 = .ok (.aload_n 0, 1) := by decide +kernel
theorem d_R_remove_40 : decode b_R_remove 40 = .ok (.getfield 15, 3) := by decide +kernel
theorem d_R_remove_43 : decode b_R_remove 43 = .ok (.iload_n 2, 1) := by decide +kernel
theorem d_R_remove_44 : decode b_R_remove 44 = .ok (.iconst 1, 1) := by decide +kernel
theorem d_R_remove_45 : decode b_R_remove 45 = .ok (.iadd, 1) := by decide +kernel
theorem d_R_remove_46 : decode b_R_remove 46 = .ok (.iaload, 1) := by decide +kernel
theorem d_R_remove_47 : decode b_R_remove 47 = .ok (.iastore, 1) := by decide +kernel
theorem d_R_remove_48 : decode b_R_remove 48 = .ok (.aload_n 0, 1) := by decide +kernel
theorem d_R_remove_49 : decode b_R_remove 49 = .ok (.getfield 18, 3) := by decide +kernel
theorem d_R_remove_52 : decode b_R_remove 52 = .ok (.iload_n 2, 1) := by decide +kernel
theorem d_R_remove_53 : decode b_R_remove 53 = .ok (.aload_n 0, 1) := by decide +kernel
theorem d_R_remove_54 : decode b_R_remove 54 = .ok (.getfield 18, 3) := by decide +kernel
theorem d_R_remove_57 : decode b_R_remove 57 = .ok (.iload_n 2, 1) := by decide +kernel
theorem d_R_remove_58 : decode b_R_remove 58 = .ok (.iconst 1, 1) := by decide +kernel
theorem d_R_remove_59 : decode b_R_remove 59 = .ok (.iadd, 1) := by decide +kernel
theorem d_R_remove_60 : decode b_R_remove 60 = .ok (.iaload, 1) := by decide +kernel
theorem d_R_remove_61 : decode b_R_remove 61 = .ok (.iastore, 1) := by decide +kernel
theorem d_R_remove_62 : decode b_R_remove 62 = .ok (.aload_n 0, 1) := by decide +kernel
theorem d_R_remove_63 : decode b_R_remove 63 = .ok (.getfield 21, 3) := by decide +kernel
theorem d_R_remove_66 : decode b_R_remove 66 = .ok (.iload_n 2, 1) := by decide +kernel
theorem d_R_remove_67 : decode b_R_remove 67 = .ok (.aload_n 0, 1) := by decide +kernel
theorem d_R_remove_68 : decode b_R_remove 68 = .ok (.getfield 21, 3) := by decide +kernel
theorem d_R_remove_71 : decode b_R_remove 71 = .ok (.iload_n 2, 1) := by decide +kernel
theorem d_R_remove_72 : decode b_R_remove 72 = .ok (.iconst 1, 1) := by decide +kernel
theorem d_R_remove_73 : decode b_R_remove 73 = .ok (.iadd, 1) := by decide +kernel
theorem d_R_remove_74 : decode b_R_remove 74 = .ok (.laload, 1) := by decide +kernel
theorem d_R_remove_75 : decode b_R_remove 75 = .ok (.lastore, 1) := by decide +kernel
theorem d_R_remove_76 : decode b_R_remove 76 = .ok (.iinc 2 1, 3) := by decide +kernel
theorem d_R_remove_79 : decode b_R_remove 79 = .ok (.goto (-67), 3) := by decide +kernel
theorem d_R_remove_82 : decode b_R_remove 82 = .ok (.return_, 1) := by decide +kernel
theorem d_D_finishPart_0 : decode b_D_finishPart 0 = .ok (.iload_n 1, 1) := by decide +kernel
theorem d_D_finishPart_1 : decode b_D_finishPart 1 = .ok (.bipush 8, 2) := by decide +kernel
theorem d_D_finishPart_3 : decode b_D_finishPart 3 = .ok (.imul, 1) := by decide +kernel
theorem d_D_finishPart_4 : decode b_D_finishPart 4 = .ok (.iload_n 2, 1) := by decide +kernel
theorem d_D_finishPart_5 : decode b_D_finishPart 5 = .ok (.iadd, 1) := by decide +kernel
theorem d_D_finishPart_6 : decode b_D_finishPart 6 = .ok (.istore 4, 2) := by decide +kernel
theorem d_D_finishPart_8 : decode b_D_finishPart 8 = .ok (.iload_n 3, 1) := by decide +kernel
theorem d_D_finishPart_9 : decode b_D_finishPart 9 = .ok (.aload_n 0, 1) := by decide +kernel
theorem d_D_finishPart_10 : decode b_D_finishPart 10 = .ok (.getfield 9, 3) := by decide +kernel
theorem d_D_finishPart_13 : decode b_D_finishPart 13 = .ok (.if_icmp .ne 38, 3) := by decide +kernel
theorem d_D_finishPart_16 : decode b_D_finishPart 16 = .ok (.aload_n 0, 1) := by decide +kernel
theorem d_D_finishPart_17 : decode b_D_finishPart 17 = .ok (.getfield 18, 3) := by decide +kernel
theorem d_D_finishPart_20 : decode b_D_finishPart 20 = .ok (.iload 4, 2) := by decide +kernel
theorem d_D_finishPart_22 : decode b_D_finishPart 22 = .ok (.iaload, 1) := by decide +kernel
theorem d_D_finishPart_23 : decode b_D_finishPart 23 = .ok (.aload_n 0, 1) := by decide +kernel
theorem d_D_finishPart_24 : decode b_D_finishPart 24 = .ok (.getfield 9, 3) := by decide +kernel
theorem d_D_finishPart_27 : decode b_D_finishPart 27 = .ok (.if_icmp .eq 24, 3) := by decide +kernel
theorem d_D_finishPart_30 : decode b_D_finishPart 30 = .ok (.aload_n 0, 1) := by decide +kernel
theorem d_D_finishPart_31 : decode b_D_finishPart 31 = .ok (.getfield 18, 3) := by decide +kernel
theorem d_D_finishPart_34 : decode b_D_finishPart 34 = .ok (.iload 4, 2) := by decide +kernel
theorem d_D_finishPart_36 : decode b_D_finishPart 36 = .ok (.aload_n 0, 1) := by decide +kernel
theorem d_D_finishPart_37 : decode b_D_finishPart 37 = .ok (.getfield 9, 3) := by decide +kernel
theorem d_D_finishPart_40 : decode b_D_finishPart 40 = .ok (.iastore, 1) := by decide +kernel
theorem d_D_finishPart_41 : decode b_D_finishPart 41 = .ok (.aload_n 0, 1) := by decide +kernel
theorem d_D_finishPart_42 : decode b_D_finishPart 42 = .ok (.dup, 1) := by decide +kernel
theorem d_D_finishPart_43 : decode b_D_finishPart 43 = .ok (.getfield 15, 3) := by decide +kernel
theorem d_D_finishPart_46 : decode b_D_finishPart 46 = .ok (.iconst 1, 1) := by decide +kernel
theorem d_D_finishPart_47 : decode b_D_finishPart 47 = .ok (.iadd, 1) := by decide +kernel
theorem d_D_finishPart_48 : decode b_D_finishPart 48 = .ok (.putfield 15, 3) := by decide +kernel
theorem d_D_finishPart_51 : decode b_D_finishPart 51 = .ok (.return_, 1) := by decide +kernel
theorem d_D_endIfAllDone_0 : decode b_D_endIfAllDone 0 = .ok (.aload_n 0, 1) := by decide +kernel
theorem d_D_endIfAllDone_1 : decode b_D_endIfAllDone 1 = .ok (.getfield 15, 3) := by decide +kernel
theorem d_D_endIfAllDone_4 : decode b_D_endIfAllDone 4 = .ok (.iload_n 1, 1) := by decide +kernel
theorem d_D_endIfAllDone_5 : decode b_D_endIfAllDone 5 = .ok (.if_icmp .ne 18, 3) := by decide +kernel
theorem d_D_endIfAllDone_8 : decode b_D_endIfAllDone 8 = .ok (.aload_n 0, 1) := by decide +kernel
theorem d_D_endIfAllDone_9 : decode b_D_endIfAllDone 9 = .ok (.dup, 1) := by decide +kernel
theorem d_D_endIfAllDone_10 : decode b_D_endIfAllDone 10 = .ok (.getfield 9, 3) := by decide +kernel
theorem d_D_endIfAllDone_13 : decode b_D_endIfAllDone 13 = .ok (.iconst 1, 1) := by decide +kernel
theorem d_D_endIfAllDone_14 : decode b_D_endIfAllDone 14 = .ok (.iadd, 1) := by decide +kernel
theorem d_D_endIfAllDone_15 : decode b_D_endIfAllDone 15 = .ok (.putfield 9, 3) := by decide +kernel
theorem d_D_endIfAllDone_18 : decode b_D_endIfAllDone 18 = .ok (.aload_n 0, 1) := by decide +kernel
theorem d_D_endIfAllDone_19 : decode b_D_endIfAllDone 19 = .ok (.iconst 0, 1) := by decide +kernel
theorem d_D_endIfAllDone_20 : decode b_D_endIfAllDone 20 = .ok (.putfield 15, 3) := by decide +kernel
theorem d_D_endIfAllDone_23 : decode b_D_endIfAllDone 23 = .ok (.return_, 1) := by decide +kernel
theorem d_P_begin_0 : decode b_P_begin 0 = .ok (.aload_n 0, 1) := by decide +kernel
theorem d_P_begin_1 : decode b_P_begin 1 = .ok (.iload_n 1, 1) := by decide +kernel
theorem d_P_begin_2 : decode b_P_begin 2 = .ok (.putfield 9, 3) := by decide +kernel
theorem d_P_begin_5 : decode b_P_begin 5 = .ok (.aload_n 0, 1) := by decide +kernel
theorem d_P_begin_6 : decode b_P_begin 6 = .ok (.iload_n 2, 1) := by decide +kernel
theorem d_P_begin_7 : decode b_P_begin 7 = .ok (.putfield 15, 3) := by decide +kernel
theorem d_P_begin_10 : decode b_P_begin 10 = .ok (.aload_n 0, 1) := by decide +kernel
theorem d_P_begin_11 : decode b_P_begin 11 = .ok (.iload_n 3, 1) := by decide +kernel
theorem d_P_begin_12 : decode b_P_begin 12 = .ok (.putfield 18, 3) := by decide +kernel
theorem d_P_begin_15 : decode b_P_begin 15 = .ok (.aload_n 0, 1) := by decide +kernel
theorem d_P_begin_16 : decode b_P_begin 16 = .ok (.lload 4, 2) := by decide +kernel
theorem d_P_begin_18 : decode b_P_begin 18 = .ok (.putfield 21, 3) := by decide +kernel
theorem d_P_begin_21 : decode b_P_begin 21 = .ok (.aload_n 0, 1) := by decide +kernel
theorem d_P_begin_22 : decode b_P_begin 22 = .ok (.iload 6, 2) := by decide +kernel
theorem d_P_begin_24 : decode b_P_begin 24 = .ok (.putfield 25, 3) := by decide +kernel
theorem d_P_begin_27 : decode b_P_begin 27 = .ok (.aload_n 0, 1) := by decide +kernel
theorem d_P_begin_28 : decode b_P_begin 28 = .ok (.getfield 31, 3) := by decide +kernel
theorem d_P_begin_31 : decode b_P_begin 31 = .ok (.invokevirtual 38, 3) := by decide +kernel
theorem d_P_begin_34 : decode b_P_begin 34 = .ok (.aload_n 0, 1) := by decide +kernel
theorem d_P_begin_35 : decode b_P_begin 35 = .ok (.getfield 35, 3) := by decide +kernel
theorem d_P_begin_38 : decode b_P_begin 38 = .ok (.invokevirtual 38, 3) := by decide +kernel
theorem d_P_begin_41 : decode b_P_begin 41 = .ok (.return_, 1) := by decide +kernel
theorem d_P_copiedBlock_0 : decode b_P_copiedBlock 0 = .ok (.aload_n 0, 1) := by decide +kernel
theorem d_P_copiedBlock_1 : decode b_P_copiedBlock 1 = .ok (.getfield 35, 3) := by decide +kernel
theorem d_P_copiedBlock_4 : decode b_P_copiedBlock 4 = .ok (.getfield 41, 3) := by decide +kernel
theorem d_P_copiedBlock_7 : decode b_P_copiedBlock 7 = .ok (.iload_n 1, 1) := by decide +kernel
theorem d_P_copiedBlock_8 : decode b_P_copiedBlock 8 = .ok (.laload, 1) := by decide +kernel
theorem d_P_copiedBlock_9 : decode b_P_copiedBlock 9 = .ok (.bipush 32, 2) := by decide +kernel
theorem d_P_copiedBlock_11 : decode b_P_copiedBlock 11 = .ok (.iload_n 2, 1) := by decide +kernel
theorem d_P_copiedBlock_12 : decode b_P_copiedBlock 12 = .ok (.imul, 1) := by decide +kernel
theorem d_P_copiedBlock_13 : decode b_P_copiedBlock 13 = .ok (.lushr, 1) := by decide +kernel
theorem d_P_copiedBlock_14 : decode b_P_copiedBlock 14 = .ok (.l2i, 1) := by decide +kernel
theorem d_P_copiedBlock_15 : decode b_P_copiedBlock 15 = .ok (.ireturn, 1) := by decide +kernel
end
section
theorem d_P_copiesAllDiffer_0 : decode b_P_copiesAllDiffer 0 = .ok (.aload_n 0, 1) := by decide +kernel
theorem d_P_copiesAllDiffer_1 : decode b_P_copiesAllDiffer 1 = .ok (.iconst 0, 1) := by decide +kernel
theorem d_P_copiesAllDiffer_2 : decode b_P_copiesAllDiffer 2 = .ok (.iload_n 1, 1) := by decide +kernel
theorem d_P_copiesAllDiffer_3 : decode b_P_copiesAllDiffer 3 = .ok (.invokevirtual 45, 3) := by decide +kernel
theorem d_P_copiesAllDiffer_6 : decode b_P_copiesAllDiffer 6 = .ok (.istore_n 2, 1) := by decide +kernel
theorem d_P_copiesAllDiffer_7 : decode b_P_copiesAllDiffer 7 = .ok (.aload_n 0, 1) := by decide +kernel
theorem d_P_copiesAllDiffer_8 : decode b_P_copiesAllDiffer 8 = .ok (.iconst 1, 1) := by decide +kernel
theorem d_P_copiesAllDiffer_9 : decode b_P_copiesAllDiffer 9 = .ok (.iload_n 1, 1) := by decide +kernel
theorem d_P_copiesAllDiffer_10 : decode b_P_copiesAllDiffer 10 = .ok (.invokevirtual 45, 3) := by decide +kernel
theorem d_P_copiesAllDiffer_13 : decode b_P_copiesAllDiffer 13 = .ok (.istore_n 3, 1) := by decide +kernel
theorem d_P_copiesAllDiffer_14 : decode b_P_copiesAllDiffer 14 = .ok (.aload_n 0, 1) := by decide +kernel
theorem d_P_copiesAllDiffer_15 : decode b_P_copiesAllDiffer 15 = .ok (.iconst 2, 1) := by decide +kernel
theorem d_P_copiesAllDiffer_16 : decode b_P_copiesAllDiffer 16 = .ok (.iload_n 1, 1) := by decide +kernel
theorem d_P_copiesAllDiffer_17 : decode b_P_copiesAllDiffer 17 = .ok (.invokevirtual 45, 3) := by decide +kernel
theorem d_P_copiesAllDiffer_20 : decode b_P_copiesAllDiffer 20 = .ok (.istore 4, 2) := by decide +kernel
theorem d_P_copiesAllDiffer_22 : decode b_P_copiesAllDiffer 22 = .ok (.iload_n 2, 1) := by decide +kernel
theorem d_P_copiesAllDiffer_23 : decode b_P_copiesAllDiffer 23 = .ok (.iload_n 3, 1) := by decide +kernel
theorem d_P_copiesAllDiffer_24 : decode b_P_copiesAllDiffer 24 = .ok (.if_icmp .eq 19, 3) := by decide +kernel
theorem d_P_copiesAllDiffer_27 : decode b_P_copiesAllDiffer 27 = .ok (.iload_n 3, 1) := by decide +kernel
theorem d_P_copiesAllDiffer_28 : decode b_P_copiesAllDiffer 28 = .ok (.iload 4, 2) := by decide +kernel
theorem d_P_copiesAllDiffer_30 : decode b_P_copiesAllDiffer 30 = .ok (.if_icmp .eq 13, 3) := by decide +kernel
theorem d_P_copiesAllDiffer_33 : decode b_P_copiesAllDiffer 33 = .ok (.iload_n 2, 1) := by decide +kernel
theorem d_P_copiesAllDiffer_34 : decode b_P_copiesAllDiffer 34 = .ok (.iload 4, 2) := by decide +kernel
theorem d_P_copiesAllDiffer_36 : decode b_P_copiesAllDiffer 36 = .ok (.if_icmp .eq 7, 3) := by decide +kernel
theorem d_P_copiesAllDiffer_39 : decode b_P_copiesAllDiffer 39 = .ok (.iconst 1, 1) := by decide +kernel
theorem d_P_copiesAllDiffer_40 : decode b_P_copiesAllDiffer 40 = .ok (.goto 4, 3) := by decide +kernel
theorem d_P_copiesAllDiffer_43 : decode b_P_copiesAllDiffer 43 = .ok (.iconst 0, 1) := by decide +kernel
theorem d_P_copiesAllDiffer_44 : decode b_P_copiesAllDiffer 44 = .ok (.ireturn, 1) := by decide +kernel
theorem d_X_isHouse_0 : decode b_X_isHouse 0 = .ok (.iload_n 0, 1) := by decide +kernel
theorem d_X_isHouse_1 : decode b_X_isHouse 1 = .ok (.ifCond .lt 12, 3) := by decide +kernel
theorem d_X_isHouse_4 : decode b_X_isHouse 4 = .ok (.iload_n 0, 1) := by decide +kernel
theorem d_X_isHouse_5 : decode b_X_isHouse 5 = .ok (.iconst 3, 1) := by decide +kernel
theorem d_X_isHouse_6 : decode b_X_isHouse 6 = .ok (.if_icmp .ge 7, 3) := by decide +kernel
theorem d_X_isHouse_9 : decode b_X_isHouse 9 = .ok (.iconst 1, 1) := by decide +kernel
theorem d_X_isHouse_10 : decode b_X_isHouse 10 = .ok (.goto 4, 3) := by decide +kernel
theorem d_X_isHouse_13 : decode b_X_isHouse 13 = .ok (.iconst 0, 1) := by decide +kernel
theorem d_X_isHouse_14 : decode b_X_isHouse 14 = .ok (.ireturn, 1) := by decide +kernel
theorem d_X_isDeposit_0 : decode b_X_isDeposit 0 = .ok (.iload_n 0, 1) := by decide +kernel
theorem d_X_isDeposit_1 : decode b_X_isDeposit 1 = .ok (.ifCond .lt 13, 3) := by decide +kernel
theorem d_X_isDeposit_4 : decode b_X_isDeposit 4 = .ok (.iload_n 0, 1) := by decide +kernel
theorem d_X_isDeposit_5 : decode b_X_isDeposit 5 = .ok (.bipush 6, 2) := by decide +kernel
theorem d_X_isDeposit_7 : decode b_X_isDeposit 7 = .ok (.if_icmp .ge 7, 3) := by decide +kernel
theorem d_X_isDeposit_10 : decode b_X_isDeposit 10 = .ok (.iconst 1, 1) := by decide +kernel
theorem d_X_isDeposit_11 : decode b_X_isDeposit 11 = .ok (.goto 4, 3) := by decide +kernel
theorem d_X_isDeposit_14 : decode b_X_isDeposit 14 = .ok (.iconst 0, 1) := by decide +kernel
theorem d_X_isDeposit_15 : decode b_X_isDeposit 15 = .ok (.ireturn, 1) := by decide +kernel
theorem d_X_isPart_0 : decode b_X_isPart 0 = .ok (.iload_n 0, 1) := by decide +kernel
theorem d_X_isPart_1 : decode b_X_isPart 1 = .ok (.ifCond .lt 13, 3) := by decide +kernel
theorem d_X_isPart_4 : decode b_X_isPart 4 = .ok (.iload_n 0, 1) := by decide +kernel
theorem d_X_isPart_5 : decode b_X_isPart 5 = .ok (.bipush 8, 2) := by decide +kernel
theorem d_X_isPart_7 : decode b_X_isPart 7 = .ok (.if_icmp .ge 7, 3) := by decide +kernel
theorem d_X_isPart_10 : decode b_X_isPart 10 = .ok (.iconst 1, 1) := by decide +kernel
theorem d_X_isPart_11 : decode b_X_isPart 11 = .ok (.goto 4, 3) := by decide +kernel
theorem d_X_isPart_14 : decode b_X_isPart 14 = .ok (.iconst 0, 1) := by decide +kernel
theorem d_X_isPart_15 : decode b_X_isPart 15 = .ok (.ireturn, 1) := by decide +kernel
theorem d_X_isByte_0 : decode b_X_isByte 0 = .ok (.iload_n 1, 1) := by decide +kernel
theorem d_X_isByte_1 : decode b_X_isByte 1 = .ok (.invokestatic 51, 3) := by decide +kernel
theorem d_X_isByte_4 : decode b_X_isByte 4 = .ok (.ifCond .eq 23, 3) := by decide +kernel
theorem d_X_isByte_7 : decode b_X_isByte 7 = .ok (.iload_n 2, 1) := by decide +kernel
theorem d_X_isByte_8 : decode b_X_isByte 8 = .ok (.ifCond .lt 19, 3) := by decide +kernel
theorem d_X_isByte_11 : decode b_X_isByte 11 = .ok (.iload_n 2, 1) := by decide +kernel
theorem d_X_isByte_12 : decode b_X_isByte 12 = .ok (.aload_n 0, 1) := by decide +kernel
theorem d_X_isByte_13 : decode b_X_isByte 13 = .ok (.getfield 15, 3) := by decide +kernel
theorem d_X_isByte_16 : decode b_X_isByte 16 = .ok (.iload_n 1, 1) := by decide +kernel
theorem d_X_isByte_17 : decode b_X_isByte 17 = .ok (.iaload, 1) := by decide +kernel
theorem d_X_isByte_18 : decode b_X_isByte 18 = .ok (.iconst 4, 1) := by decide +kernel
theorem d_X_isByte_19 : decode b_X_isByte 19 = .ok (.imul, 1) := by decide +kernel
theorem d_X_isByte_20 : decode b_X_isByte 20 = .ok (.if_icmp .ge 7, 3) := by decide +kernel
theorem d_X_isByte_23 : decode b_X_isByte 23 = .ok (.iconst 1, 1) := by decide +kernel
theorem d_X_isByte_24 : decode b_X_isByte 24 = .ok (.goto 4, 3) := by decide +kernel
theorem d_X_isByte_27 : decode b_X_isByte 27 = .ok (.iconst 0, 1) := by decide +kernel
theorem d_X_isByte_28 : decode b_X_isByte 28 = .ok (.ireturn, 1) := by decide +kernel
theorem d_X_isPoll_0 : decode b_X_isPoll 0 = .ok (.iload_n 1, 1) := by decide +kernel
theorem d_X_isPoll_1 : decode b_X_isPoll 1 = .ok (.iconst 1, 1) := by decide +kernel
theorem d_X_isPoll_2 : decode b_X_isPoll 2 = .ok (.if_icmp .lt 15, 3) := by decide +kernel
theorem d_X_isPoll_5 : decode b_X_isPoll 5 = .ok (.iload_n 1, 1) := by decide +kernel
theorem d_X_isPoll_6 : decode b_X_isPoll 6 = .ok (.aload_n 0, 1) := by decide +kernel
theorem d_X_isPoll_7 : decode b_X_isPoll 7 = .ok (.getfield 42, 3) := by decide +kernel
theorem d_X_isPoll_10 : decode b_X_isPoll 10 = .ok (.if_icmp .gt 7, 3) := by decide +kernel
theorem d_X_isPoll_13 : decode b_X_isPoll 13 = .ok (.iconst 1, 1) := by decide +kernel
theorem d_X_isPoll_14 : decode b_X_isPoll 14 = .ok (.goto 4, 3) := by decide +kernel
theorem d_X_isPoll_17 : decode b_X_isPoll 17 = .ok (.iconst 0, 1) := by decide +kernel
theorem d_X_isPoll_18 : decode b_X_isPoll 18 = .ok (.ireturn, 1) := by decide +kernel
theorem d_X_allHousesOpen_0 : decode b_X_allHousesOpen 0 = .ok (.iconst 0, 1) := by decide +kernel
theorem d_X_allHousesOpen_1 : decode b_X_allHousesOpen 1 = .ok (.istore_n 1, 1) := by decide +kernel
theorem d_X_allHousesOpen_2 : decode b_X_allHousesOpen 2 = .ok (.iload_n 1, 1) := by decide +kernel
theorem d_X_allHousesOpen_3 : decode b_X_allHousesOpen 3 = .ok (.iconst 3, 1) := by decide +kernel
theorem d_X_allHousesOpen_4 : decode b_X_allHousesOpen 4 = .ok (.if_icmp .ge 23, 3) := by decide +kernel
theorem d_X_allHousesOpen_7 : decode b_X_allHousesOpen 7 = .ok (.aload_n 0, 1) := by decide +kernel
theorem d_X_allHousesOpen_8 : decode b_X_allHousesOpen 8 = .ok (.getfield 11, 3) := by decide +kernel
theorem d_X_allHousesOpen_11 : decode b_X_allHousesOpen 11 = .ok (.iload_n 1, 1) := by decide +kernel
theorem d_X_allHousesOpen_12 : decode b_X_allHousesOpen 12 = .ok (.aaload, 1) := by decide +kernel
theorem d_X_allHousesOpen_13 : decode b_X_allHousesOpen 13 = .ok (.getfield 140, 3) := by decide +kernel
theorem d_X_allHousesOpen_16 : decode b_X_allHousesOpen 16 = .ok (.ifCond .ne 5, 3) := by decide +kernel
theorem d_X_allHousesOpen_19 : decode b_X_allHousesOpen 19 = .ok (.iconst 0, 1) := by decide +kernel
theorem d_X_allHousesOpen_20 : decode b_X_allHousesOpen 20 = .ok (.ireturn, 1) := by decide +kernel
theorem d_X_allHousesOpen_21 : decode b_X_allHousesOpen 21 = .ok (.iinc 1 1, 3) := by decide +kernel
theorem d_X_allHousesOpen_24 : decode b_X_allHousesOpen 24 = .ok (.goto (-22), 3) := by decide +kernel
theorem d_X_allHousesOpen_27 : decode b_X_allHousesOpen 27 = .ok (.iconst 1, 1) := by decide +kernel
theorem d_X_allHousesOpen_28 : decode b_X_allHousesOpen 28 = .ok (.ireturn, 1) := by decide +kernel
theorem d_X_freePlace_0 : decode b_X_freePlace 0 = .ok (.iconst 0, 1) := by decide +kernel
theorem d_X_freePlace_1 : decode b_X_freePlace 1 = .ok (.istore_n 1, 1) := by decide +kernel
theorem d_X_freePlace_2 : decode b_X_freePlace 2 = .ok (.iload_n 1, 1) := by decide +kernel
theorem d_X_freePlace_3 : decode b_X_freePlace 3 = .ok (.bipush 6, 2) := by decide +kernel
theorem d_X_freePlace_5 : decode b_X_freePlace 5 = .ok (.if_icmp .ge 28, 3) := by decide +kernel
theorem d_X_freePlace_8 : decode b_X_freePlace 8 = .ok (.aload_n 0, 1) := by decide +kernel
theorem d_X_freePlace_9 : decode b_X_freePlace 9 = .ok (.getfield 28, 3) := by decide +kernel
theorem d_X_freePlace_12 : decode b_X_freePlace 12 = .ok (.iload_n 1, 1) := by decide +kernel
theorem d_X_freePlace_13 : decode b_X_freePlace 13 = .ok (.aaload, 1) := by decide +kernel
theorem d_X_freePlace_14 : decode b_X_freePlace 14 = .ok (.getfield 155, 3) := by decide +kernel
theorem d_X_freePlace_17 : decode b_X_freePlace 17 = .ok (.ifCond .ne 10, 3) := by decide +kernel
theorem d_X_freePlace_20 : decode b_X_freePlace 20 = .ok (.aload_n 0, 1) := by decide +kernel
theorem d_X_freePlace_21 : decode b_X_freePlace 21 = .ok (.getfield 28, 3) := by decide +kernel
theorem d_X_freePlace_24 : decode b_X_freePlace 24 = .ok (.iload_n 1, 1) := by decide +kernel
theorem d_X_freePlace_25 : decode b_X_freePlace 25 = .ok (.aaload, 1) := by decide +kernel
theorem d_X_freePlace_26 : decode b_X_freePlace 26 = .ok (.areturn, 1) := by decide +kernel
theorem d_X_freePlace_27 : decode b_X_freePlace 27 = .ok (.iinc 1 1, 3) := by decide +kernel
theorem d_X_freePlace_30 : decode b_X_freePlace 30 = .ok (.goto (-28), 3) := by decide +kernel
theorem d_X_freePlace_33 : decode b_X_freePlace 33 = .ok (.aconst_null, 1) := by decide +kernel
theorem d_X_freePlace_34 : decode b_X_freePlace 34 = .ok (.areturn, 1) := by decide +kernel
theorem d_X_runningPoll_0 : decode b_X_runningPoll 0 = .ok (.aload_n 0, 1) := by decide +kernel
theorem d_X_runningPoll_1 : decode b_X_runningPoll 1 = .ok (.iload_n 1, 1) := by decide +kernel
theorem d_X_runningPoll_2 : decode b_X_runningPoll 2 = .ok (.invokevirtual 99, 3) := by decide +kernel
theorem d_X_runningPoll_5 : decode b_X_runningPoll 5 = .ok (.ifCond .ne 5, 3) := by decide +kernel
theorem d_X_runningPoll_8 : decode b_X_runningPoll 8 = .ok (.aconst_null, 1) := by decide +kernel
theorem d_X_runningPoll_9 : decode b_X_runningPoll 9 = .ok (.areturn, 1) := by decide +kernel
theorem d_X_runningPoll_10 : decode b_X_runningPoll 10 = .ok (.iconst 0, 1) := by decide +kernel
theorem d_X_runningPoll_11 : decode b_X_runningPoll 11 = .ok (.istore_n 2, 1) := by decide +kernel
theorem d_X_runningPoll_12 : decode b_X_runningPoll 12 = .ok (.iload_n 2, 1) := by decide +kernel
theorem d_X_runningPoll_13 : decode b_X_runningPoll 13 = .ok (.bipush 6, 2) := by decide +kernel
theorem d_X_runningPoll_15 : decode b_X_runningPoll 15 = .ok (.if_icmp .ge 29, 3) := by decide +kernel
theorem d_X_runningPoll_18 : decode b_X_runningPoll 18 = .ok (.aload_n 0, 1) := by decide +kernel
theorem d_X_runningPoll_19 : decode b_X_runningPoll 19 = .ok (.getfield 28, 3) := by decide +kernel
theorem d_X_runningPoll_22 : decode b_X_runningPoll 22 = .ok (.iload_n 2, 1) := by decide +kernel
theorem d_X_runningPoll_23 : decode b_X_runningPoll 23 = .ok (.aaload, 1) := by decide +kernel
theorem d_X_runningPoll_24 : decode b_X_runningPoll 24 = .ok (.getfield 155, 3) := by decide +kernel
theorem d_X_runningPoll_27 : decode b_X_runningPoll 27 = .ok (.iload_n 1, 1) := by decide +kernel
theorem d_X_runningPoll_28 : decode b_X_runningPoll 28 = .ok (.if_icmp .ne 10, 3) := by decide +kernel
theorem d_X_runningPoll_31 : decode b_X_runningPoll 31 = .ok (.aload_n 0, 1) := by decide +kernel
theorem d_X_runningPoll_32 : decode b_X_runningPoll 32 = .ok (.getfield 28, 3) := by decide +kernel
theorem d_X_runningPoll_35 : decode b_X_runningPoll 35 = .ok (.iload_n 2, 1) := by decide +kernel
theorem d_X_runningPoll_36 : decode b_X_runningPoll 36 = .ok (.aaload, 1) := by decide +kernel
theorem d_X_runningPoll_37 : decode b_X_runningPoll 37 = .ok (.areturn, 1) := by decide +kernel
theorem d_X_runningPoll_38 : decode b_X_runningPoll 38 = .ok (.iinc 2 1, 3) := by decide +kernel
theorem d_X_runningPoll_41 : decode b_X_runningPoll 41 = .ok (.goto (-29), 3) := by decide +kernel
theorem d_X_runningPoll_44 : decode b_X_runningPoll 44 = .ok (.aconst_null, 1) := by decide +kernel
theorem d_X_runningPoll_45 : decode b_X_runningPoll 45 = .ok (.areturn, 1) := by decide +kernel
theorem d_X_parts_0 : decode b_X_parts 0 = .ok (.iconst 0, 1) := by decide +kernel
theorem d_X_parts_1 : decode b_X_parts 1 = .ok (.istore_n 1, 1) := by decide +kernel
theorem d_X_parts_2 : decode b_X_parts 2 = .ok (.iconst 0, 1) := by decide +kernel
theorem d_X_parts_3 : decode b_X_parts 3 = .ok (.istore_n 2, 1) := by decide +kernel
theorem d_X_parts_4 : decode b_X_parts 4 = .ok (.iload_n 2, 1) := by decide +kernel
theorem d_X_parts_5 : decode b_X_parts 5 = .ok (.bipush 6, 2) := by decide +kernel
theorem d_X_parts_7 : decode b_X_parts 7 = .ok (.if_icmp .ge 23, 3) := by decide +kernel
theorem d_X_parts_10 : decode b_X_parts 10 = .ok (.iload_n 1, 1) := by decide +kernel
theorem d_X_parts_11 : decode b_X_parts 11 = .ok (.aload_n 0, 1) := by decide +kernel
theorem d_X_parts_12 : decode b_X_parts 12 = .ok (.getfield 15, 3) := by decide +kernel
theorem d_X_parts_15 : decode b_X_parts 15 = .ok (.iload_n 2, 1) := by decide +kernel
theorem d_X_parts_16 : decode b_X_parts 16 = .ok (.iaload, 1) := by decide +kernel
theorem d_X_parts_17 : decode b_X_parts 17 = .ok (.bipush 8, 2) := by decide +kernel
theorem d_X_parts_19 : decode b_X_parts 19 = .ok (.invokestatic 147, 3) := by decide +kernel
theorem d_X_parts_22 : decode b_X_parts 22 = .ok (.iadd, 1) := by decide +kernel
theorem d_X_parts_23 : decode b_X_parts 23 = .ok (.istore_n 1, 1) := by decide +kernel
theorem d_X_parts_24 : decode b_X_parts 24 = .ok (.iinc 2 1, 3) := by decide +kernel
theorem d_X_parts_27 : decode b_X_parts 27 = .ok (.goto (-23), 3) := by decide +kernel
theorem d_X_parts_30 : decode b_X_parts 30 = .ok (.iload_n 1, 1) := by decide +kernel
theorem d_X_parts_31 : decode b_X_parts 31 = .ok (.ireturn, 1) := by decide +kernel
theorem d_X_sendToAwaited_0 : decode b_X_sendToAwaited 0 = .ok (.aload_n 1, 1) := by decide +kernel
theorem d_X_sendToAwaited_1 : decode b_X_sendToAwaited 1 = .ok (.getfield 156, 3) := by decide +kernel
theorem d_X_sendToAwaited_4 : decode b_X_sendToAwaited 4 = .ok (.invokevirtual 160, 3) := by decide +kernel
theorem d_X_sendToAwaited_7 : decode b_X_sendToAwaited 7 = .ok (.istore_n 2, 1) := by decide +kernel
theorem d_X_sendToAwaited_8 : decode b_X_sendToAwaited 8 = .ok (.iload_n 2, 1) := by decide +kernel
theorem d_X_sendToAwaited_9 : decode b_X_sendToAwaited 9 = .ok (.ifCond .eq 7, 3) := by decide +kernel
theorem d_X_sendToAwaited_12 : decode b_X_sendToAwaited 12 = .ok (.iconst 3, 1) := by decide +kernel
theorem d_X_sendToAwaited_13 : decode b_X_sendToAwaited 13 = .ok (.goto 4, 3) := by decide +kernel
theorem d_X_sendToAwaited_16 : decode b_X_sendToAwaited 16 = .ok (.iconst 1, 1) := by decide +kernel
theorem d_X_sendToAwaited_17 : decode b_X_sendToAwaited 17 = .ok (.istore_n 3, 1) := by decide +kernel
theorem d_X_sendToAwaited_18 : decode b_X_sendToAwaited 18 = .ok (.iload_n 2, 1) := by decide +kernel
theorem d_X_sendToAwaited_19 : decode b_X_sendToAwaited 19 = .ok (.ifCond .eq 10, 3) := by decide +kernel
theorem d_X_sendToAwaited_22 : decode b_X_sendToAwaited 22 = .ok (.aload_n 1, 1) := by decide +kernel
theorem d_X_sendToAwaited_23 : decode b_X_sendToAwaited 23 = .ok (.getfield 165, 3) := by decide +kernel
theorem d_X_sendToAwaited_26 : decode b_X_sendToAwaited 26 = .ok (.goto 7, 3) := by decide +kernel
theorem d_X_sendToAwaited_29 : decode b_X_sendToAwaited 29 = .ok (.aload_n 1, 1) := by decide +kernel
theorem d_X_sendToAwaited_30 : decode b_X_sendToAwaited 30 = .ok (.getfield 156, 3) := by decide +kernel
theorem d_X_sendToAwaited_33 : decode b_X_sendToAwaited 33 = .ok (.astore 4, 2) := by decide +kernel
theorem d_X_sendToAwaited_35 : decode b_X_sendToAwaited 35 = .ok (.iconst 0, 1) := by decide +kernel
theorem d_X_sendToAwaited_36 : decode b_X_sendToAwaited 36 = .ok (.istore 5, 2) := by decide +kernel
theorem d_X_sendToAwaited_38 : decode b_X_sendToAwaited 38 = .ok (.iconst 0, 1) := by decide +kernel
theorem d_X_sendToAwaited_39 : decode b_X_sendToAwaited 39 = .ok (.istore 6, 2) := by decide +kernel
theorem d_X_sendToAwaited_41 : decode b_X_sendToAwaited 41 = .ok (.iload 6, 2) := by decide +kernel
theorem d_X_sendToAwaited_43 : decode b_X_sendToAwaited 43 = .ok (.iconst 3, 1) := by decide +kernel
theorem d_X_sendToAwaited_44 : decode b_X_sendToAwaited 44 = .ok (.if_icmp .ge 38, 3) := by decide +kernel
theorem d_X_sendToAwaited_47 : decode b_X_sendToAwaited 47 = .ok (.aload 4, 2) := by decide +kernel
theorem d_X_sendToAwaited_49 : decode b_X_sendToAwaited 49 = .ok (.getfield 168, 3) := by decide +kernel
theorem d_X_sendToAwaited_52 : decode b_X_sendToAwaited 52 = .ok (.iload 6, 2) := by decide +kernel
theorem d_X_sendToAwaited_54 : decode b_X_sendToAwaited 54 = .ok (.baload, 1) := by decide +kernel
theorem d_X_sendToAwaited_55 : decode b_X_sendToAwaited 55 = .ok (.ifCond .ne 21, 3) := by decide +kernel
theorem d_X_sendToAwaited_58 : decode b_X_sendToAwaited 58 = .ok (.aload_n 0, 1) := by decide +kernel
theorem d_X_sendToAwaited_59 : decode b_X_sendToAwaited 59 = .ok (.getfield 22, 3) := by decide +kernel
theorem d_X_sendToAwaited_62 : decode b_X_sendToAwaited 62 = .ok (.iload_n 3, 1) := by decide +kernel
theorem d_X_sendToAwaited_63 : decode b_X_sendToAwaited 63 = .ok (.aload_n 1, 1) := by decide +kernel
theorem d_X_sendToAwaited_64 : decode b_X_sendToAwaited 64 = .ok (.getfield 155, 3) := by decide +kernel
theorem d_X_sendToAwaited_67 : decode b_X_sendToAwaited 67 = .ok (.iload 6, 2) := by decide +kernel
theorem d_X_sendToAwaited_69 : decode b_X_sendToAwaited 69 = .ok (.lconst 0, 1) := by decide +kernel
theorem d_X_sendToAwaited_70 : decode b_X_sendToAwaited 70 = .ok (.invokevirtual 132, 3) := by decide +kernel
theorem d_X_sendToAwaited_73 : decode b_X_sendToAwaited 73 = .ok (.iinc 5 1, 3) := by decide +kernel
theorem d_X_sendToAwaited_76 : decode b_X_sendToAwaited 76 = .ok (.iinc 6 1, 3) := by decide +kernel
theorem d_X_sendToAwaited_79 : decode b_X_sendToAwaited 79 = .ok (.goto (-38), 3) := by decide +kernel
theorem d_X_sendToAwaited_82 : decode b_X_sendToAwaited 82 = .ok (.iload 5, 2) := by decide +kernel
theorem d_X_sendToAwaited_84 : decode b_X_sendToAwaited 84 = .ok (.ireturn, 1) := by decide +kernel
theorem d_X_answerAsk_0 : decode b_X_answerAsk 0 = .ok (.aload_n 0, 1) := by decide +kernel
theorem d_X_answerAsk_1 : decode b_X_answerAsk 1 = .ok (.getfield 11, 3) := by decide +kernel
theorem d_X_answerAsk_4 : decode b_X_answerAsk 4 = .ok (.iload_n 2, 1) := by decide +kernel
theorem d_X_answerAsk_5 : decode b_X_answerAsk 5 = .ok (.aaload, 1) := by decide +kernel
theorem d_X_answerAsk_6 : decode b_X_answerAsk 6 = .ok (.getfield 140, 3) := by decide +kernel
theorem d_X_answerAsk_9 : decode b_X_answerAsk 9 = .ok (.ifCond .eq 49, 3) := by decide +kernel
theorem d_X_answerAsk_12 : decode b_X_answerAsk 12 = .ok (.aload_n 1, 1) := by decide +kernel
theorem d_X_answerAsk_13 : decode b_X_answerAsk 13 = .ok (.getfield 185, 3) := by decide +kernel
theorem d_X_answerAsk_16 : decode b_X_answerAsk 16 = .ok (.istore_n 3, 1) := by decide +kernel
theorem d_X_answerAsk_17 : decode b_X_answerAsk 17 = .ok (.aload_n 0, 1) := by decide +kernel
theorem d_X_answerAsk_18 : decode b_X_answerAsk 18 = .ok (.getfield 11, 3) := by decide +kernel
theorem d_X_answerAsk_21 : decode b_X_answerAsk 21 = .ok (.iload_n 2, 1) := by decide +kernel
theorem d_X_answerAsk_22 : decode b_X_answerAsk 22 = .ok (.aaload, 1) := by decide +kernel
theorem d_X_answerAsk_23 : decode b_X_answerAsk 23 = .ok (.iload_n 3, 1) := by decide +kernel
theorem d_X_answerAsk_24 : decode b_X_answerAsk 24 = .ok (.aload_n 1, 1) := by decide +kernel
theorem d_X_answerAsk_25 : decode b_X_answerAsk 25 = .ok (.getfield 188, 3) := by decide +kernel
theorem d_X_answerAsk_28 : decode b_X_answerAsk 28 = .ok (.aload_n 0, 1) := by decide +kernel
theorem d_X_answerAsk_29 : decode b_X_answerAsk 29 = .ok (.getfield 15, 3) := by decide +kernel
theorem d_X_answerAsk_32 : decode b_X_answerAsk 32 = .ok (.iload_n 3, 1) := by decide +kernel
theorem d_X_answerAsk_33 : decode b_X_answerAsk 33 = .ok (.iaload, 1) := by decide +kernel
theorem d_X_answerAsk_34 : decode b_X_answerAsk 34 = .ok (.aload_n 1, 1) := by decide +kernel
theorem d_X_answerAsk_35 : decode b_X_answerAsk 35 = .ok (.getfield 191, 3) := by decide +kernel
theorem d_X_answerAsk_38 : decode b_X_answerAsk 38 = .ok (.invokevirtual 80, 3) := by decide +kernel
theorem d_X_answerAsk_41 : decode b_X_answerAsk 41 = .ok (.lstore 4, 2) := by decide +kernel
theorem d_X_answerAsk_43 : decode b_X_answerAsk 43 = .ok (.aload_n 0, 1) := by decide +kernel
theorem d_X_answerAsk_44 : decode b_X_answerAsk 44 = .ok (.getfield 22, 3) := by decide +kernel
theorem d_X_answerAsk_47 : decode b_X_answerAsk 47 = .ok (.iconst 2, 1) := by decide +kernel
theorem d_X_answerAsk_48 : decode b_X_answerAsk 48 = .ok (.aload_n 1, 1) := by decide +kernel
theorem d_X_answerAsk_49 : decode b_X_answerAsk 49 = .ok (.getfield 155, 3) := by decide +kernel
theorem d_X_answerAsk_52 : decode b_X_answerAsk 52 = .ok (.iload_n 2, 1) := by decide +kernel
theorem d_X_answerAsk_53 : decode b_X_answerAsk 53 = .ok (.lload 4, 2) := by decide +kernel
theorem d_X_answerAsk_55 : decode b_X_answerAsk 55 = .ok (.invokevirtual 132, 3) := by decide +kernel
theorem d_X_answerAsk_58 : decode b_X_answerAsk 58 = .ok (.return_, 1) := by decide +kernel
theorem d_X_answerFetch_0 : decode b_X_answerFetch 0 = .ok (.aload_n 0, 1) := by decide +kernel
theorem d_X_answerFetch_1 : decode b_X_answerFetch 1 = .ok (.getfield 11, 3) := by decide +kernel
theorem d_X_answerFetch_4 : decode b_X_answerFetch 4 = .ok (.iload_n 2, 1) := by decide +kernel
theorem d_X_answerFetch_5 : decode b_X_answerFetch 5 = .ok (.aaload, 1) := by decide +kernel
theorem d_X_answerFetch_6 : decode b_X_answerFetch 6 = .ok (.getfield 140, 3) := by decide +kernel
theorem d_X_answerFetch_9 : decode b_X_answerFetch 9 = .ok (.ifCond .eq 35, 3) := by decide +kernel
theorem d_X_answerFetch_12 : decode b_X_answerFetch 12 = .ok (.aload_n 0, 1) := by decide +kernel
theorem d_X_answerFetch_13 : decode b_X_answerFetch 13 = .ok (.getfield 11, 3) := by decide +kernel
theorem d_X_answerFetch_16 : decode b_X_answerFetch 16 = .ok (.iload_n 2, 1) := by decide +kernel
theorem d_X_answerFetch_17 : decode b_X_answerFetch 17 = .ok (.aaload, 1) := by decide +kernel
theorem d_X_answerFetch_18 : decode b_X_answerFetch 18 = .ok (.aload_n 1, 1) := by decide +kernel
theorem d_X_answerFetch_19 : decode b_X_answerFetch 19 = .ok (.getfield 185, 3) := by decide +kernel
theorem d_X_answerFetch_22 : decode b_X_answerFetch 22 = .ok (.aload_n 1, 1) := by decide +kernel
theorem d_X_answerFetch_23 : decode b_X_answerFetch 23 = .ok (.getfield 188, 3) := by decide +kernel
theorem d_X_answerFetch_26 : decode b_X_answerFetch 26 = .ok (.invokevirtual 195, 3) := by decide +kernel
theorem d_X_answerFetch_29 : decode b_X_answerFetch 29 = .ok (.lstore_n 3, 1) := by decide +kernel
theorem d_X_answerFetch_30 : decode b_X_answerFetch 30 = .ok (.aload_n 0, 1) := by decide +kernel
theorem d_X_answerFetch_31 : decode b_X_answerFetch 31 = .ok (.getfield 22, 3) := by decide +kernel
theorem d_X_answerFetch_34 : decode b_X_answerFetch 34 = .ok (.iconst 4, 1) := by decide +kernel
theorem d_X_answerFetch_35 : decode b_X_answerFetch 35 = .ok (.aload_n 1, 1) := by decide +kernel
theorem d_X_answerFetch_36 : decode b_X_answerFetch 36 = .ok (.getfield 155, 3) := by decide +kernel
theorem d_X_answerFetch_39 : decode b_X_answerFetch 39 = .ok (.iload_n 2, 1) := by decide +kernel
theorem d_X_answerFetch_40 : decode b_X_answerFetch 40 = .ok (.lload_n 3, 1) := by decide +kernel
theorem d_X_answerFetch_41 : decode b_X_answerFetch 41 = .ok (.invokevirtual 132, 3) := by decide +kernel
theorem d_X_answerFetch_44 : decode b_X_answerFetch 44 = .ok (.return_, 1) := by decide +kernel
theorem d_X_finish_0 : decode b_X_finish 0 = .ok (.aload_n 0, 1) := by decide +kernel
theorem d_X_finish_1 : decode b_X_finish 1 = .ok (.getfield 32, 3) := by decide +kernel
theorem d_X_finish_4 : decode b_X_finish 4 = .ok (.aload_n 1, 1) := by decide +kernel
theorem d_X_finish_5 : decode b_X_finish 5 = .ok (.getfield 155, 3) := by decide +kernel
theorem d_X_finish_8 : decode b_X_finish 8 = .ok (.iload_n 2, 1) := by decide +kernel
theorem d_X_finish_9 : decode b_X_finish 9 = .ok (.iastore, 1) := by decide +kernel
theorem d_X_finish_10 : decode b_X_finish 10 = .ok (.aload_n 1, 1) := by decide +kernel
theorem d_X_finish_11 : decode b_X_finish 11 = .ok (.iconst 0, 1) := by decide +kernel
theorem d_X_finish_12 : decode b_X_finish 12 = .ok (.putfield 155, 3) := by decide +kernel
theorem d_X_finish_15 : decode b_X_finish 15 = .ok (.iload_n 2, 1) := by decide +kernel
theorem d_X_finish_16 : decode b_X_finish 16 = .ok (.iconst 3, 1) := by decide +kernel
theorem d_X_finish_17 : decode b_X_finish 17 = .ok (.if_icmp .ne 13, 3) := by decide +kernel
theorem d_X_finish_20 : decode b_X_finish 20 = .ok (.aload_n 0, 1) := by decide +kernel
theorem d_X_finish_21 : decode b_X_finish 21 = .ok (.dup, 1) := by decide +kernel
theorem d_X_finish_22 : decode b_X_finish 22 = .ok (.getfield 46, 3) := by decide +kernel
theorem d_X_finish_25 : decode b_X_finish 25 = .ok (.iconst 1, 1) := by decide +kernel
theorem d_X_finish_26 : decode b_X_finish 26 = .ok (.iadd, 1) := by decide +kernel
theorem d_X_finish_27 : decode b_X_finish 27 = .ok (.putfield 46, 3) := by decide +kernel
theorem d_X_finish_30 : decode b_X_finish 30 = .ok (.iload_n 2, 1) := by decide +kernel
theorem d_X_finish_31 : decode b_X_finish 31 = .ok (.iconst 1, 1) := by decide +kernel
theorem d_X_finish_32 : decode b_X_finish 32 = .ok (.if_icmp .eq 8, 3) := by decide +kernel
theorem d_X_finish_35 : decode b_X_finish 35 = .ok (.iload_n 2, 1) := by decide +kernel
theorem d_X_finish_36 : decode b_X_finish 36 = .ok (.iconst 2, 1) := by decide +kernel
theorem d_X_finish_37 : decode b_X_finish 37 = .ok (.if_icmp .ne 33, 3) := by decide +kernel
theorem d_X_finish_40 : decode b_X_finish 40 = .ok (.aload_n 0, 1) := by decide +kernel
theorem d_X_finish_41 : decode b_X_finish 41 = .ok (.getfield 38, 3) := by decide +kernel
theorem d_X_finish_44 : decode b_X_finish 44 = .ok (.aload_n 1, 1) := by decide +kernel
theorem d_X_finish_45 : decode b_X_finish 45 = .ok (.getfield 185, 3) := by decide +kernel
theorem d_X_finish_48 : decode b_X_finish 48 = .ok (.aload_n 1, 1) := by decide +kernel
theorem d_X_finish_49 : decode b_X_finish 49 = .ok (.getfield 188, 3) := by decide +kernel
theorem d_X_finish_52 : decode b_X_finish 52 = .ok (.aload_n 1, 1) := by decide +kernel
theorem d_X_finish_53 : decode b_X_finish 53 = .ok (.getfield 228, 3) := by decide +kernel
theorem d_X_finish_56 : decode b_X_finish 56 = .ok (.invokevirtual 231, 3) := by decide +kernel
theorem d_X_finish_59 : decode b_X_finish 59 = .ok (.aload_n 0, 1) := by decide +kernel
theorem d_X_finish_60 : decode b_X_finish 60 = .ok (.getfield 38, 3) := by decide +kernel
theorem d_X_finish_63 : decode b_X_finish 63 = .ok (.aload_n 0, 1) := by decide +kernel
theorem d_X_finish_64 : decode b_X_finish 64 = .ok (.invokevirtual 234, 3) := by decide +kernel
theorem d_X_finish_67 : decode b_X_finish 67 = .ok (.invokevirtual 238, 3) := by decide +kernel
theorem d_X_finish_70 : decode b_X_finish 70 = .ok (.return_, 1) := by decide +kernel
theorem d_X_areCopiesCurrent_0 : decode b_X_areCopiesCurrent 0 = .ok (.iconst 0, 1) := by decide +kernel
theorem d_X_areCopiesCurrent_1 : decode b_X_areCopiesCurrent 1 = .ok (.istore_n 2, 1) := by decide +kernel
theorem d_X_areCopiesCurrent_2 : decode b_X_areCopiesCurrent 2 = .ok (.iload_n 2, 1) := by decide +kernel
theorem d_X_areCopiesCurrent_3 : decode b_X_areCopiesCurrent 3 = .ok (.iconst 3, 1) := by decide +kernel
theorem d_X_areCopiesCurrent_4 : decode b_X_areCopiesCurrent 4 = .ok (.if_icmp .ge 41, 3) := by decide +kernel
theorem d_X_areCopiesCurrent_7 : decode b_X_areCopiesCurrent 7 = .ok (.aload_n 0, 1) := by decide +kernel
theorem d_X_areCopiesCurrent_8 : decode b_X_areCopiesCurrent 8 = .ok (.getfield 11, 3) := by decide +kernel
theorem d_X_areCopiesCurrent_11 : decode b_X_areCopiesCurrent 11 = .ok (.iload_n 2, 1) := by decide +kernel
theorem d_X_areCopiesCurrent_12 : decode b_X_areCopiesCurrent 12 = .ok (.aaload, 1) := by decide +kernel
theorem d_X_areCopiesCurrent_13 : decode b_X_areCopiesCurrent 13 = .ok (.aload_n 1, 1) := by decide +kernel
theorem d_X_areCopiesCurrent_14 : decode b_X_areCopiesCurrent 14 = .ok (.getfield 185, 3) := by decide +kernel
theorem d_X_areCopiesCurrent_17 : decode b_X_areCopiesCurrent 17 = .ok (.aload_n 1, 1) := by decide +kernel
theorem d_X_areCopiesCurrent_18 : decode b_X_areCopiesCurrent 18 = .ok (.getfield 188, 3) := by decide +kernel
theorem d_X_areCopiesCurrent_21 : decode b_X_areCopiesCurrent 21 = .ok (.invokevirtual 195, 3) := by decide +kernel
theorem d_X_areCopiesCurrent_24 : decode b_X_areCopiesCurrent 24 = .ok (.aload_n 1, 1) := by decide +kernel
theorem d_X_areCopiesCurrent_25 : decode b_X_areCopiesCurrent 25 = .ok (.getfield 165, 3) := by decide +kernel
theorem d_X_areCopiesCurrent_28 : decode b_X_areCopiesCurrent 28 = .ok (.getfield 219, 3) := by decide +kernel
theorem d_X_areCopiesCurrent_31 : decode b_X_areCopiesCurrent 31 = .ok (.iload_n 2, 1) := by decide +kernel
theorem d_X_areCopiesCurrent_32 : decode b_X_areCopiesCurrent 32 = .ok (.laload, 1) := by decide +kernel
theorem d_X_areCopiesCurrent_33 : decode b_X_areCopiesCurrent 33 = .ok (.lcmp, 1) := by decide +kernel
theorem d_X_areCopiesCurrent_34 : decode b_X_areCopiesCurrent 34 = .ok (.ifCond .eq 5, 3) := by decide +kernel
theorem d_X_areCopiesCurrent_37 : decode b_X_areCopiesCurrent 37 = .ok (.iconst 0, 1) := by decide +kernel
theorem d_X_areCopiesCurrent_38 : decode b_X_areCopiesCurrent 38 = .ok (.ireturn, 1) := by decide +kernel
theorem d_X_areCopiesCurrent_39 : decode b_X_areCopiesCurrent 39 = .ok (.iinc 2 1, 3) := by decide +kernel
theorem d_X_areCopiesCurrent_42 : decode b_X_areCopiesCurrent 42 = .ok (.goto (-40), 3) := by decide +kernel
theorem d_X_areCopiesCurrent_45 : decode b_X_areCopiesCurrent 45 = .ok (.iconst 1, 1) := by decide +kernel
theorem d_X_areCopiesCurrent_46 : decode b_X_areCopiesCurrent 46 = .ok (.ireturn, 1) := by decide +kernel
theorem d_X_mendBlock_0 : decode b_X_mendBlock 0 = .ok (.iconst 0, 1) := by decide +kernel
theorem d_X_mendBlock_1 : decode b_X_mendBlock 1 = .ok (.istore_n 3, 1) := by decide +kernel
theorem d_X_mendBlock_2 : decode b_X_mendBlock 2 = .ok (.iload_n 3, 1) := by decide +kernel
theorem d_X_mendBlock_3 : decode b_X_mendBlock 3 = .ok (.iconst 3, 1) := by decide +kernel
theorem d_X_mendBlock_4 : decode b_X_mendBlock 4 = .ok (.if_icmp .ge 79, 3) := by decide +kernel
theorem d_X_mendBlock_7 : decode b_X_mendBlock 7 = .ok (.aload_n 1, 1) := by decide +kernel
theorem d_X_mendBlock_8 : decode b_X_mendBlock 8 = .ok (.iload_n 3, 1) := by decide +kernel
theorem d_X_mendBlock_9 : decode b_X_mendBlock 9 = .ok (.iload_n 2, 1) := by decide +kernel
theorem d_X_mendBlock_10 : decode b_X_mendBlock 10 = .ok (.invokevirtual 222, 3) := by decide +kernel
theorem d_X_mendBlock_13 : decode b_X_mendBlock 13 = .ok (.istore 4, 2) := by decide +kernel
theorem d_X_mendBlock_15 : decode b_X_mendBlock 15 = .ok (.aload_n 1, 1) := by decide +kernel
theorem d_X_mendBlock_16 : decode b_X_mendBlock 16 = .ok (.iload_n 3, 1) := by decide +kernel
theorem d_X_mendBlock_17 : decode b_X_mendBlock 17 = .ok (.iconst 1, 1) := by decide +kernel
theorem d_X_mendBlock_18 : decode b_X_mendBlock 18 = .ok (.iadd, 1) := by decide +kernel
theorem d_X_mendBlock_19 : decode b_X_mendBlock 19 = .ok (.iconst 3, 1) := by decide +kernel
theorem d_X_mendBlock_20 : decode b_X_mendBlock 20 = .ok (.irem, 1) := by decide +kernel
theorem d_X_mendBlock_21 : decode b_X_mendBlock 21 = .ok (.iload_n 2, 1) := by decide +kernel
theorem d_X_mendBlock_22 : decode b_X_mendBlock 22 = .ok (.invokevirtual 222, 3) := by decide +kernel
theorem d_X_mendBlock_25 : decode b_X_mendBlock 25 = .ok (.istore 5, 2) := by decide +kernel
theorem d_X_mendBlock_27 : decode b_X_mendBlock 27 = .ok (.aload_n 1, 1) := by decide +kernel
theorem d_X_mendBlock_28 : decode b_X_mendBlock 28 = .ok (.iload_n 3, 1) := by decide +kernel
theorem d_X_mendBlock_29 : decode b_X_mendBlock 29 = .ok (.iconst 2, 1) := by decide +kernel
theorem d_X_mendBlock_30 : decode b_X_mendBlock 30 = .ok (.iadd, 1) := by decide +kernel
theorem d_X_mendBlock_31 : decode b_X_mendBlock 31 = .ok (.iconst 3, 1) := by decide +kernel
theorem d_X_mendBlock_32 : decode b_X_mendBlock 32 = .ok (.irem, 1) := by decide +kernel
theorem d_X_mendBlock_33 : decode b_X_mendBlock 33 = .ok (.iload_n 2, 1) := by decide +kernel
theorem d_X_mendBlock_34 : decode b_X_mendBlock 34 = .ok (.invokevirtual 222, 3) := by decide +kernel
theorem d_X_mendBlock_37 : decode b_X_mendBlock 37 = .ok (.istore 6, 2) := by decide +kernel
theorem d_X_mendBlock_39 : decode b_X_mendBlock 39 = .ok (.iload 4, 2) := by decide +kernel
theorem d_X_mendBlock_41 : decode b_X_mendBlock 41 = .ok (.iload 5, 2) := by decide +kernel
theorem d_X_mendBlock_43 : decode b_X_mendBlock 43 = .ok (.if_icmp .eq 34, 3) := by decide +kernel
theorem d_X_mendBlock_46 : decode b_X_mendBlock 46 = .ok (.iload 5, 2) := by decide +kernel
theorem d_X_mendBlock_48 : decode b_X_mendBlock 48 = .ok (.iload 6, 2) := by decide +kernel
theorem d_X_mendBlock_50 : decode b_X_mendBlock 50 = .ok (.if_icmp .ne 27, 3) := by decide +kernel
theorem d_X_mendBlock_53 : decode b_X_mendBlock 53 = .ok (.aload_n 0, 1) := by decide +kernel
theorem d_X_mendBlock_54 : decode b_X_mendBlock 54 = .ok (.getfield 11, 3) := by decide +kernel
theorem d_X_mendBlock_57 : decode b_X_mendBlock 57 = .ok (.iload_n 3, 1) := by decide +kernel
theorem d_X_mendBlock_58 : decode b_X_mendBlock 58 = .ok (.aaload, 1) := by decide +kernel
theorem d_X_mendBlock_59 : decode b_X_mendBlock 59 = .ok (.aload_n 1, 1) := by decide +kernel
theorem d_X_mendBlock_60 : decode b_X_mendBlock 60 = .ok (.getfield 185, 3) := by decide +kernel
theorem d_X_mendBlock_63 : decode b_X_mendBlock 63 = .ok (.aload_n 1, 1) := by decide +kernel
theorem d_X_mendBlock_64 : decode b_X_mendBlock 64 = .ok (.getfield 188, 3) := by decide +kernel
theorem d_X_mendBlock_67 : decode b_X_mendBlock 67 = .ok (.iload_n 2, 1) := by decide +kernel
theorem d_X_mendBlock_68 : decode b_X_mendBlock 68 = .ok (.bipush 8, 2) := by decide +kernel
theorem d_X_mendBlock_70 : decode b_X_mendBlock 70 = .ok (.imul, 1) := by decide +kernel
theorem d_X_mendBlock_71 : decode b_X_mendBlock 71 = .ok (.iadd, 1) := by decide +kernel
theorem d_X_mendBlock_72 : decode b_X_mendBlock 72 = .ok (.iload 5, 2) := by decide +kernel
theorem d_X_mendBlock_74 : decode b_X_mendBlock 74 = .ok (.invokevirtual 225, 3) := by decide +kernel
theorem d_X_mendBlock_77 : decode b_X_mendBlock 77 = .ok (.iinc 3 1, 3) := by decide +kernel
theorem d_X_mendBlock_80 : decode b_X_mendBlock 80 = .ok (.goto (-78), 3) := by decide +kernel
theorem d_X_mendBlock_83 : decode b_X_mendBlock 83 = .ok (.return_, 1) := by decide +kernel
theorem d_X_decide_0 : decode b_X_decide 0 = .ok (.aload_n 1, 1) := by decide +kernel
theorem d_X_decide_1 : decode b_X_decide 1 = .ok (.iconst 0, 1) := by decide +kernel
theorem d_X_decide_2 : decode b_X_decide 2 = .ok (.invokevirtual 209, 3) := by decide +kernel
theorem d_X_decide_5 : decode b_X_decide 5 = .ok (.ifCond .ne 11, 3) := by decide +kernel
theorem d_X_decide_8 : decode b_X_decide 8 = .ok (.aload_n 1, 1) := by decide +kernel
theorem d_X_decide_9 : decode b_X_decide 9 = .ok (.iconst 1, 1) := by decide +kernel
theorem d_X_decide_10 : decode b_X_decide 10 = .ok (.invokevirtual 209, 3) := by decide +kernel
theorem d_X_decide_13 : decode b_X_decide 13 = .ok (.ifCond .eq 5, 3) := by decide +kernel
theorem d_X_decide_16 : decode b_X_decide 16 = .ok (.iconst 3, 1) := by decide +kernel
theorem d_X_decide_17 : decode b_X_decide 17 = .ok (.ireturn, 1) := by decide +kernel
theorem d_X_decide_18 : decode b_X_decide 18 = .ok (.aload_n 0, 1) := by decide +kernel
theorem d_X_decide_19 : decode b_X_decide 19 = .ok (.invokevirtual 55, 3) := by decide +kernel
theorem d_X_decide_22 : decode b_X_decide 22 = .ok (.ifCond .eq 11, 3) := by decide +kernel
theorem d_X_decide_25 : decode b_X_decide 25 = .ok (.aload_n 0, 1) := by decide +kernel
theorem d_X_decide_26 : decode b_X_decide 26 = .ok (.aload_n 1, 1) := by decide +kernel
end
section
theorem d_X_decide_27 : decode b_X_decide 27 = .ok (.invokevirtual 212, 3) := by decide +kernel
theorem d_X_decide_30 : decode b_X_decide 30 = .ok (.ifCond .ne 5, 3) := by decide +kernel
theorem d_X_decide_33 : decode b_X_decide 33 = .ok (.iconst 4, 1) := by decide +kernel
theorem d_X_decide_34 : decode b_X_decide 34 = .ok (.ireturn, 1) := by decide +kernel
theorem d_X_decide_35 : decode b_X_decide 35 = .ok (.aload_n 0, 1) := by decide +kernel
theorem d_X_decide_36 : decode b_X_decide 36 = .ok (.aload_n 1, 1) := by decide +kernel
theorem d_X_decide_37 : decode b_X_decide 37 = .ok (.iconst 0, 1) := by decide +kernel
theorem d_X_decide_38 : decode b_X_decide 38 = .ok (.invokevirtual 216, 3) := by decide +kernel
theorem d_X_decide_41 : decode b_X_decide 41 = .ok (.aload_n 0, 1) := by decide +kernel
theorem d_X_decide_42 : decode b_X_decide 42 = .ok (.aload_n 1, 1) := by decide +kernel
theorem d_X_decide_43 : decode b_X_decide 43 = .ok (.iconst 1, 1) := by decide +kernel
theorem d_X_decide_44 : decode b_X_decide 44 = .ok (.invokevirtual 216, 3) := by decide +kernel
theorem d_X_decide_47 : decode b_X_decide 47 = .ok (.iconst 2, 1) := by decide +kernel
theorem d_X_decide_48 : decode b_X_decide 48 = .ok (.ireturn, 1) := by decide +kernel
theorem d_X_takeSum_0 : decode b_X_takeSum 0 = .ok (.aload_n 1, 1) := by decide +kernel
theorem d_X_takeSum_1 : decode b_X_takeSum 1 = .ok (.getfield 156, 3) := by decide +kernel
theorem d_X_takeSum_4 : decode b_X_takeSum 4 = .ok (.iload_n 2, 1) := by decide +kernel
theorem d_X_takeSum_5 : decode b_X_takeSum 5 = .ok (.lload_n 3, 1) := by decide +kernel
theorem d_X_takeSum_6 : decode b_X_takeSum 6 = .ok (.invokevirtual 199, 3) := by decide +kernel
theorem d_X_takeSum_9 : decode b_X_takeSum 9 = .ok (.ifCond .eq 13, 3) := by decide +kernel
theorem d_X_takeSum_12 : decode b_X_takeSum 12 = .ok (.aload_n 1, 1) := by decide +kernel
theorem d_X_takeSum_13 : decode b_X_takeSum 13 = .ok (.getfield 156, 3) := by decide +kernel
theorem d_X_takeSum_16 : decode b_X_takeSum 16 = .ok (.invokevirtual 160, 3) := by decide +kernel
theorem d_X_takeSum_19 : decode b_X_takeSum 19 = .ok (.ifCond .ne 4, 3) := by decide +kernel
theorem d_X_takeSum_22 : decode b_X_takeSum 22 = .ok (.return_, 1) := by decide +kernel
theorem d_X_takeSum_23 : decode b_X_takeSum 23 = .ok (.aload_n 1, 1) := by decide +kernel
theorem d_X_takeSum_24 : decode b_X_takeSum 24 = .ok (.getfield 156, 3) := by decide +kernel
theorem d_X_takeSum_27 : decode b_X_takeSum 27 = .ok (.invokevirtual 203, 3) := by decide +kernel
theorem d_X_takeSum_30 : decode b_X_takeSum 30 = .ok (.ifCond .eq 12, 3) := by decide +kernel
theorem d_X_takeSum_33 : decode b_X_takeSum 33 = .ok (.aload_n 0, 1) := by decide +kernel
theorem d_X_takeSum_34 : decode b_X_takeSum 34 = .ok (.aload_n 1, 1) := by decide +kernel
theorem d_X_takeSum_35 : decode b_X_takeSum 35 = .ok (.iconst 1, 1) := by decide +kernel
theorem d_X_takeSum_36 : decode b_X_takeSum 36 = .ok (.invokevirtual 136, 3) := by decide +kernel
theorem d_X_takeSum_39 : decode b_X_takeSum 39 = .ok (.goto 9, 3) := by decide +kernel
theorem d_X_takeSum_42 : decode b_X_takeSum 42 = .ok (.aload_n 0, 1) := by decide +kernel
theorem d_X_takeSum_43 : decode b_X_takeSum 43 = .ok (.aload_n 1, 1) := by decide +kernel
theorem d_X_takeSum_44 : decode b_X_takeSum 44 = .ok (.invokevirtual 95, 3) := by decide +kernel
theorem d_X_takeSum_47 : decode b_X_takeSum 47 = .ok (.pop, 1) := by decide +kernel
theorem d_X_takeSum_48 : decode b_X_takeSum 48 = .ok (.return_, 1) := by decide +kernel
theorem d_X_takeCopy_0 : decode b_X_takeCopy 0 = .ok (.aload_n 1, 1) := by decide +kernel
theorem d_X_takeCopy_1 : decode b_X_takeCopy 1 = .ok (.getfield 156, 3) := by decide +kernel
theorem d_X_takeCopy_4 : decode b_X_takeCopy 4 = .ok (.invokevirtual 160, 3) := by decide +kernel
theorem d_X_takeCopy_7 : decode b_X_takeCopy 7 = .ok (.ifCond .eq 35, 3) := by decide +kernel
theorem d_X_takeCopy_10 : decode b_X_takeCopy 10 = .ok (.aload_n 1, 1) := by decide +kernel
theorem d_X_takeCopy_11 : decode b_X_takeCopy 11 = .ok (.getfield 165, 3) := by decide +kernel
theorem d_X_takeCopy_14 : decode b_X_takeCopy 14 = .ok (.iload_n 2, 1) := by decide +kernel
theorem d_X_takeCopy_15 : decode b_X_takeCopy 15 = .ok (.lload_n 3, 1) := by decide +kernel
theorem d_X_takeCopy_16 : decode b_X_takeCopy 16 = .ok (.invokevirtual 199, 3) := by decide +kernel
theorem d_X_takeCopy_19 : decode b_X_takeCopy 19 = .ok (.ifCond .eq 23, 3) := by decide +kernel
theorem d_X_takeCopy_22 : decode b_X_takeCopy 22 = .ok (.aload_n 1, 1) := by decide +kernel
theorem d_X_takeCopy_23 : decode b_X_takeCopy 23 = .ok (.getfield 165, 3) := by decide +kernel
theorem d_X_takeCopy_26 : decode b_X_takeCopy 26 = .ok (.invokevirtual 160, 3) := by decide +kernel
theorem d_X_takeCopy_29 : decode b_X_takeCopy 29 = .ok (.ifCond .eq 13, 3) := by decide +kernel
theorem d_X_takeCopy_32 : decode b_X_takeCopy 32 = .ok (.aload_n 0, 1) := by decide +kernel
theorem d_X_takeCopy_33 : decode b_X_takeCopy 33 = .ok (.aload_n 1, 1) := by decide +kernel
theorem d_X_takeCopy_34 : decode b_X_takeCopy 34 = .ok (.aload_n 0, 1) := by decide +kernel
theorem d_X_takeCopy_35 : decode b_X_takeCopy 35 = .ok (.aload_n 1, 1) := by decide +kernel
theorem d_X_takeCopy_36 : decode b_X_takeCopy 36 = .ok (.invokevirtual 206, 3) := by decide +kernel
theorem d_X_takeCopy_39 : decode b_X_takeCopy 39 = .ok (.invokevirtual 136, 3) := by decide +kernel
theorem d_X_takeCopy_42 : decode b_X_takeCopy 42 = .ok (.return_, 1) := by decide +kernel
theorem d_X_arrive_0 : decode b_X_arrive 0 = .ok (.iload_n 2, 1) := by decide +kernel
theorem d_X_arrive_1 : decode b_X_arrive 1 = .ok (.tableswitch 71 1 4 #[31, 40, 51, 60], 31) := by decide +kernel
theorem d_X_arrive_32 : decode b_X_arrive 32 = .ok (.aload_n 0, 1) := by decide +kernel
theorem d_X_arrive_33 : decode b_X_arrive 33 = .ok (.aload_n 1, 1) := by decide +kernel
theorem d_X_arrive_34 : decode b_X_arrive 34 = .ok (.iload_n 3, 1) := by decide +kernel
theorem d_X_arrive_35 : decode b_X_arrive 35 = .ok (.invokevirtual 172, 3) := by decide +kernel
theorem d_X_arrive_38 : decode b_X_arrive 38 = .ok (.goto 34, 3) := by decide +kernel
theorem d_X_arrive_41 : decode b_X_arrive 41 = .ok (.aload_n 0, 1) := by decide +kernel
theorem d_X_arrive_42 : decode b_X_arrive 42 = .ok (.aload_n 1, 1) := by decide +kernel
theorem d_X_arrive_43 : decode b_X_arrive 43 = .ok (.iload_n 3, 1) := by decide +kernel
theorem d_X_arrive_44 : decode b_X_arrive 44 = .ok (.lload 4, 2) := by decide +kernel
theorem d_X_arrive_46 : decode b_X_arrive 46 = .ok (.invokevirtual 175, 3) := by decide +kernel
theorem d_X_arrive_49 : decode b_X_arrive 49 = .ok (.goto 23, 3) := by decide +kernel
theorem d_X_arrive_52 : decode b_X_arrive 52 = .ok (.aload_n 0, 1) := by decide +kernel
theorem d_X_arrive_53 : decode b_X_arrive 53 = .ok (.aload_n 1, 1) := by decide +kernel
theorem d_X_arrive_54 : decode b_X_arrive 54 = .ok (.iload_n 3, 1) := by decide +kernel
theorem d_X_arrive_55 : decode b_X_arrive 55 = .ok (.invokevirtual 179, 3) := by decide +kernel
theorem d_X_arrive_58 : decode b_X_arrive 58 = .ok (.goto 14, 3) := by decide +kernel
theorem d_X_arrive_61 : decode b_X_arrive 61 = .ok (.aload_n 0, 1) := by decide +kernel
theorem d_X_arrive_62 : decode b_X_arrive 62 = .ok (.aload_n 1, 1) := by decide +kernel
theorem d_X_arrive_63 : decode b_X_arrive 63 = .ok (.iload_n 3, 1) := by decide +kernel
theorem d_X_arrive_64 : decode b_X_arrive 64 = .ok (.lload 4, 2) := by decide +kernel
theorem d_X_arrive_66 : decode b_X_arrive 66 = .ok (.invokevirtual 182, 3) := by decide +kernel
theorem d_X_arrive_69 : decode b_X_arrive 69 = .ok (.goto 3, 3) := by decide +kernel
theorem d_X_arrive_72 : decode b_X_arrive 72 = .ok (.return_, 1) := by decide +kernel
theorem d_X_deposit_0 : decode b_X_deposit 0 = .ok (.iload_n 1, 1) := by decide +kernel
theorem d_X_deposit_1 : decode b_X_deposit 1 = .ok (.invokestatic 51, 3) := by decide +kernel
theorem d_X_deposit_4 : decode b_X_deposit 4 = .ok (.ifCond .eq 14, 3) := by decide +kernel
theorem d_X_deposit_7 : decode b_X_deposit 7 = .ok (.iload_n 2, 1) := by decide +kernel
theorem d_X_deposit_8 : decode b_X_deposit 8 = .ok (.iconst 1, 1) := by decide +kernel
theorem d_X_deposit_9 : decode b_X_deposit 9 = .ok (.if_icmp .lt 9, 3) := by decide +kernel
theorem d_X_deposit_12 : decode b_X_deposit 12 = .ok (.iload_n 2, 1) := by decide +kernel
theorem d_X_deposit_13 : decode b_X_deposit 13 = .ok (.bipush 16, 2) := by decide +kernel
theorem d_X_deposit_15 : decode b_X_deposit 15 = .ok (.if_icmp .le 5, 3) := by decide +kernel
theorem d_X_deposit_18 : decode b_X_deposit 18 = .ok (.iconst (-1), 1) := by decide +kernel
theorem d_X_deposit_19 : decode b_X_deposit 19 = .ok (.ireturn, 1) := by decide +kernel
theorem d_X_deposit_20 : decode b_X_deposit 20 = .ok (.aload_n 0, 1) := by decide +kernel
theorem d_X_deposit_21 : decode b_X_deposit 21 = .ok (.getfield 15, 3) := by decide +kernel
theorem d_X_deposit_24 : decode b_X_deposit 24 = .ok (.iload_n 1, 1) := by decide +kernel
theorem d_X_deposit_25 : decode b_X_deposit 25 = .ok (.iaload, 1) := by decide +kernel
theorem d_X_deposit_26 : decode b_X_deposit 26 = .ok (.ifCond .gt 10, 3) := by decide +kernel
theorem d_X_deposit_29 : decode b_X_deposit 29 = .ok (.aload_n 0, 1) := by decide +kernel
theorem d_X_deposit_30 : decode b_X_deposit 30 = .ok (.invokevirtual 55, 3) := by decide +kernel
theorem d_X_deposit_33 : decode b_X_deposit 33 = .ok (.ifCond .ne 6, 3) := by decide +kernel
theorem d_X_deposit_36 : decode b_X_deposit 36 = .ok (.bipush (-2), 2) := by decide +kernel
theorem d_X_deposit_38 : decode b_X_deposit 38 = .ok (.ireturn, 1) := by decide +kernel
theorem d_X_deposit_39 : decode b_X_deposit 39 = .ok (.aload_n 0, 1) := by decide +kernel
theorem d_X_deposit_40 : decode b_X_deposit 40 = .ok (.getfield 15, 3) := by decide +kernel
theorem d_X_deposit_43 : decode b_X_deposit 43 = .ok (.iload_n 1, 1) := by decide +kernel
theorem d_X_deposit_44 : decode b_X_deposit 44 = .ok (.iload_n 2, 1) := by decide +kernel
theorem d_X_deposit_45 : decode b_X_deposit 45 = .ok (.iastore, 1) := by decide +kernel
theorem d_X_deposit_46 : decode b_X_deposit 46 = .ok (.iconst 0, 1) := by decide +kernel
theorem d_X_deposit_47 : decode b_X_deposit 47 = .ok (.istore 4, 2) := by decide +kernel
theorem d_X_deposit_49 : decode b_X_deposit 49 = .ok (.iload 4, 2) := by decide +kernel
theorem d_X_deposit_51 : decode b_X_deposit 51 = .ok (.iconst 3, 1) := by decide +kernel
theorem d_X_deposit_52 : decode b_X_deposit 52 = .ok (.if_icmp .ge 22, 3) := by decide +kernel
theorem d_X_deposit_55 : decode b_X_deposit 55 = .ok (.aload_n 0, 1) := by decide +kernel
theorem d_X_deposit_56 : decode b_X_deposit 56 = .ok (.getfield 11, 3) := by decide +kernel
theorem d_X_deposit_59 : decode b_X_deposit 59 = .ok (.iload 4, 2) := by decide +kernel
theorem d_X_deposit_61 : decode b_X_deposit 61 = .ok (.aaload, 1) := by decide +kernel
theorem d_X_deposit_62 : decode b_X_deposit 62 = .ok (.iload_n 1, 1) := by decide +kernel
theorem d_X_deposit_63 : decode b_X_deposit 63 = .ok (.iload_n 2, 1) := by decide +kernel
theorem d_X_deposit_64 : decode b_X_deposit 64 = .ok (.iload_n 3, 1) := by decide +kernel
theorem d_X_deposit_65 : decode b_X_deposit 65 = .ok (.invokevirtual 59, 3) := by decide +kernel
theorem d_X_deposit_68 : decode b_X_deposit 68 = .ok (.iinc 4 1, 3) := by decide +kernel
theorem d_X_deposit_71 : decode b_X_deposit 71 = .ok (.goto (-22), 3) := by decide +kernel
theorem d_X_deposit_74 : decode b_X_deposit 74 = .ok (.iload_n 2, 1) := by decide +kernel
theorem d_X_deposit_75 : decode b_X_deposit 75 = .ok (.iconst 4, 1) := by decide +kernel
theorem d_X_deposit_76 : decode b_X_deposit 76 = .ok (.imul, 1) := by decide +kernel
theorem d_X_deposit_77 : decode b_X_deposit 77 = .ok (.ireturn, 1) := by decide +kernel
theorem d_X_blocks_0 : decode b_X_blocks 0 = .ok (.iload_n 1, 1) := by decide +kernel
theorem d_X_blocks_1 : decode b_X_blocks 1 = .ok (.invokestatic 51, 3) := by decide +kernel
theorem d_X_blocks_4 : decode b_X_blocks 4 = .ok (.ifCond .eq 12, 3) := by decide +kernel
theorem d_X_blocks_7 : decode b_X_blocks 7 = .ok (.aload_n 0, 1) := by decide +kernel
theorem d_X_blocks_8 : decode b_X_blocks 8 = .ok (.getfield 15, 3) := by decide +kernel
theorem d_X_blocks_11 : decode b_X_blocks 11 = .ok (.iload_n 1, 1) := by decide +kernel
theorem d_X_blocks_12 : decode b_X_blocks 12 = .ok (.iaload, 1) := by decide +kernel
theorem d_X_blocks_13 : decode b_X_blocks 13 = .ok (.goto 4, 3) := by decide +kernel
theorem d_X_blocks_16 : decode b_X_blocks 16 = .ok (.iconst 0, 1) := by decide +kernel
theorem d_X_blocks_17 : decode b_X_blocks 17 = .ok (.ireturn, 1) := by decide +kernel
theorem d_X_at_0 : decode b_X_at 0 = .ok (.iload_n 1, 1) := by decide +kernel
theorem d_X_at_1 : decode b_X_at 1 = .ok (.invokestatic 63, 3) := by decide +kernel
theorem d_X_at_4 : decode b_X_at 4 = .ok (.ifCond .eq 26, 3) := by decide +kernel
theorem d_X_at_7 : decode b_X_at 7 = .ok (.aload_n 0, 1) := by decide +kernel
theorem d_X_at_8 : decode b_X_at 8 = .ok (.iload_n 2, 1) := by decide +kernel
theorem d_X_at_9 : decode b_X_at 9 = .ok (.iload_n 3, 1) := by decide +kernel
theorem d_X_at_10 : decode b_X_at 10 = .ok (.invokevirtual 66, 3) := by decide +kernel
theorem d_X_at_13 : decode b_X_at 13 = .ok (.ifCond .eq 17, 3) := by decide +kernel
theorem d_X_at_16 : decode b_X_at 16 = .ok (.aload_n 0, 1) := by decide +kernel
theorem d_X_at_17 : decode b_X_at 17 = .ok (.getfield 11, 3) := by decide +kernel
theorem d_X_at_20 : decode b_X_at 20 = .ok (.iload_n 1, 1) := by decide +kernel
theorem d_X_at_21 : decode b_X_at 21 = .ok (.aaload, 1) := by decide +kernel
theorem d_X_at_22 : decode b_X_at 22 = .ok (.iload_n 2, 1) := by decide +kernel
theorem d_X_at_23 : decode b_X_at 23 = .ok (.iload_n 3, 1) := by decide +kernel
theorem d_X_at_24 : decode b_X_at 24 = .ok (.invokevirtual 70, 3) := by decide +kernel
theorem d_X_at_27 : decode b_X_at 27 = .ok (.goto 4, 3) := by decide +kernel
theorem d_X_at_30 : decode b_X_at 30 = .ok (.iconst (-1), 1) := by decide +kernel
theorem d_X_at_31 : decode b_X_at 31 = .ok (.ireturn, 1) := by decide +kernel
theorem d_X_damage_0 : decode b_X_damage 0 = .ok (.iload_n 1, 1) := by decide +kernel
theorem d_X_damage_1 : decode b_X_damage 1 = .ok (.invokestatic 63, 3) := by decide +kernel
theorem d_X_damage_4 : decode b_X_damage 4 = .ok (.ifCond .eq 12, 3) := by decide +kernel
theorem d_X_damage_7 : decode b_X_damage 7 = .ok (.aload_n 0, 1) := by decide +kernel
theorem d_X_damage_8 : decode b_X_damage 8 = .ok (.iload_n 2, 1) := by decide +kernel
theorem d_X_damage_9 : decode b_X_damage 9 = .ok (.iload_n 3, 1) := by decide +kernel
theorem d_X_damage_10 : decode b_X_damage 10 = .ok (.invokevirtual 66, 3) := by decide +kernel
theorem d_X_damage_13 : decode b_X_damage 13 = .ok (.ifCond .ne 5, 3) := by decide +kernel
theorem d_X_damage_16 : decode b_X_damage 16 = .ok (.iconst (-1), 1) := by decide +kernel
theorem d_X_damage_17 : decode b_X_damage 17 = .ok (.ireturn, 1) := by decide +kernel
theorem d_X_damage_18 : decode b_X_damage 18 = .ok (.aload_n 0, 1) := by decide +kernel
theorem d_X_damage_19 : decode b_X_damage 19 = .ok (.getfield 11, 3) := by decide +kernel
theorem d_X_damage_22 : decode b_X_damage 22 = .ok (.iload_n 1, 1) := by decide +kernel
theorem d_X_damage_23 : decode b_X_damage 23 = .ok (.aaload, 1) := by decide +kernel
theorem d_X_damage_24 : decode b_X_damage 24 = .ok (.iload_n 2, 1) := by decide +kernel
theorem d_X_damage_25 : decode b_X_damage 25 = .ok (.iload_n 3, 1) := by decide +kernel
theorem d_X_damage_26 : decode b_X_damage 26 = .ok (.iload 4, 2) := by decide +kernel
theorem d_X_damage_28 : decode b_X_damage 28 = .ok (.sipush 255, 3) := by decide +kernel
theorem d_X_damage_31 : decode b_X_damage 31 = .ok (.iand, 1) := by decide +kernel
theorem d_X_damage_32 : decode b_X_damage 32 = .ok (.invokevirtual 74, 3) := by decide +kernel
theorem d_X_damage_35 : decode b_X_damage 35 = .ok (.aload_n 0, 1) := by decide +kernel
theorem d_X_damage_36 : decode b_X_damage 36 = .ok (.getfield 11, 3) := by decide +kernel
theorem d_X_damage_39 : decode b_X_damage 39 = .ok (.iload_n 1, 1) := by decide +kernel
theorem d_X_damage_40 : decode b_X_damage 40 = .ok (.aaload, 1) := by decide +kernel
theorem d_X_damage_41 : decode b_X_damage 41 = .ok (.iload_n 2, 1) := by decide +kernel
theorem d_X_damage_42 : decode b_X_damage 42 = .ok (.iload_n 3, 1) := by decide +kernel
theorem d_X_damage_43 : decode b_X_damage 43 = .ok (.invokevirtual 70, 3) := by decide +kernel
theorem d_X_damage_46 : decode b_X_damage 46 = .ok (.ireturn, 1) := by decide +kernel
theorem d_X_sum_0 : decode b_X_sum 0 = .ok (.iload_n 1, 1) := by decide +kernel
theorem d_X_sum_1 : decode b_X_sum 1 = .ok (.invokestatic 63, 3) := by decide +kernel
theorem d_X_sum_4 : decode b_X_sum 4 = .ok (.ifCond .eq 26, 3) := by decide +kernel
theorem d_X_sum_7 : decode b_X_sum 7 = .ok (.iload_n 3, 1) := by decide +kernel
theorem d_X_sum_8 : decode b_X_sum 8 = .ok (.invokestatic 77, 3) := by decide +kernel
theorem d_X_sum_11 : decode b_X_sum 11 = .ok (.ifCond .eq 19, 3) := by decide +kernel
theorem d_X_sum_14 : decode b_X_sum 14 = .ok (.iload_n 2, 1) := by decide +kernel
theorem d_X_sum_15 : decode b_X_sum 15 = .ok (.invokestatic 51, 3) := by decide +kernel
theorem d_X_sum_18 : decode b_X_sum 18 = .ok (.ifCond .eq 12, 3) := by decide +kernel
theorem d_X_sum_21 : decode b_X_sum 21 = .ok (.aload_n 0, 1) := by decide +kernel
theorem d_X_sum_22 : decode b_X_sum 22 = .ok (.getfield 15, 3) := by decide +kernel
theorem d_X_sum_25 : decode b_X_sum 25 = .ok (.iload_n 2, 1) := by decide +kernel
theorem d_X_sum_26 : decode b_X_sum 26 = .ok (.iaload, 1) := by decide +kernel
theorem d_X_sum_27 : decode b_X_sum 27 = .ok (.ifCond .ne 5, 3) := by decide +kernel
theorem d_X_sum_30 : decode b_X_sum 30 = .ok (.lconst 0, 1) := by decide +kernel
theorem d_X_sum_31 : decode b_X_sum 31 = .ok (.lreturn, 1) := by decide +kernel
theorem d_X_sum_32 : decode b_X_sum 32 = .ok (.aload_n 0, 1) := by decide +kernel
theorem d_X_sum_33 : decode b_X_sum 33 = .ok (.getfield 11, 3) := by decide +kernel
theorem d_X_sum_36 : decode b_X_sum 36 = .ok (.iload_n 1, 1) := by decide +kernel
theorem d_X_sum_37 : decode b_X_sum 37 = .ok (.aaload, 1) := by decide +kernel
theorem d_X_sum_38 : decode b_X_sum 38 = .ok (.iload_n 2, 1) := by decide +kernel
theorem d_X_sum_39 : decode b_X_sum 39 = .ok (.iload_n 3, 1) := by decide +kernel
theorem d_X_sum_40 : decode b_X_sum 40 = .ok (.aload_n 0, 1) := by decide +kernel
theorem d_X_sum_41 : decode b_X_sum 41 = .ok (.getfield 15, 3) := by decide +kernel
theorem d_X_sum_44 : decode b_X_sum 44 = .ok (.iload_n 2, 1) := by decide +kernel
theorem d_X_sum_45 : decode b_X_sum 45 = .ok (.iaload, 1) := by decide +kernel
theorem d_X_sum_46 : decode b_X_sum 46 = .ok (.lload 4, 2) := by decide +kernel
theorem d_X_sum_48 : decode b_X_sum 48 = .ok (.invokevirtual 80, 3) := by decide +kernel
theorem d_X_sum_51 : decode b_X_sum 51 = .ok (.lreturn, 1) := by decide +kernel
theorem d_X_poll_0 : decode b_X_poll 0 = .ok (.iload_n 1, 1) := by decide +kernel
theorem d_X_poll_1 : decode b_X_poll 1 = .ok (.invokestatic 51, 3) := by decide +kernel
theorem d_X_poll_4 : decode b_X_poll 4 = .ok (.ifCond .eq 10, 3) := by decide +kernel
theorem d_X_poll_7 : decode b_X_poll 7 = .ok (.iload_n 2, 1) := by decide +kernel
theorem d_X_poll_8 : decode b_X_poll 8 = .ok (.invokestatic 77, 3) := by decide +kernel
theorem d_X_poll_11 : decode b_X_poll 11 = .ok (.ifCond .ne 5, 3) := by decide +kernel
theorem d_X_poll_14 : decode b_X_poll 14 = .ok (.iconst (-1), 1) := by decide +kernel
theorem d_X_poll_15 : decode b_X_poll 15 = .ok (.ireturn, 1) := by decide +kernel
theorem d_X_poll_16 : decode b_X_poll 16 = .ok (.iload_n 2, 1) := by decide +kernel
theorem d_X_poll_17 : decode b_X_poll 17 = .ok (.aload_n 0, 1) := by decide +kernel
theorem d_X_poll_18 : decode b_X_poll 18 = .ok (.getfield 15, 3) := by decide +kernel
theorem d_X_poll_21 : decode b_X_poll 21 = .ok (.iload_n 1, 1) := by decide +kernel
theorem d_X_poll_22 : decode b_X_poll 22 = .ok (.iaload, 1) := by decide +kernel
theorem d_X_poll_23 : decode b_X_poll 23 = .ok (.if_icmp .lt 6, 3) := by decide +kernel
theorem d_X_poll_26 : decode b_X_poll 26 = .ok (.bipush (-2), 2) := by decide +kernel
theorem d_X_poll_28 : decode b_X_poll 28 = .ok (.ireturn, 1) := by decide +kernel
theorem d_X_poll_29 : decode b_X_poll 29 = .ok (.aload_n 0, 1) := by decide +kernel
theorem d_X_poll_30 : decode b_X_poll 30 = .ok (.invokevirtual 84, 3) := by decide +kernel
theorem d_X_poll_33 : decode b_X_poll 33 = .ok (.astore 5, 2) := by decide +kernel
theorem d_X_poll_35 : decode b_X_poll 35 = .ok (.aload 5, 2) := by decide +kernel
theorem d_X_poll_37 : decode b_X_poll 37 = .ok (.ifnull 13, 3) := by decide +kernel
theorem d_X_poll_40 : decode b_X_poll 40 = .ok (.aload_n 0, 1) := by decide +kernel
theorem d_X_poll_41 : decode b_X_poll 41 = .ok (.getfield 42, 3) := by decide +kernel
theorem d_X_poll_44 : decode b_X_poll 44 = .ok (.sipush 512, 3) := by decide +kernel
theorem d_X_poll_47 : decode b_X_poll 47 = .ok (.if_icmp .lt 6, 3) := by decide +kernel
theorem d_X_poll_50 : decode b_X_poll 50 = .ok (.bipush (-3), 2) := by decide +kernel
theorem d_X_poll_52 : decode b_X_poll 52 = .ok (.ireturn, 1) := by decide +kernel
theorem d_X_poll_53 : decode b_X_poll 53 = .ok (.aload_n 0, 1) := by decide +kernel
theorem d_X_poll_54 : decode b_X_poll 54 = .ok (.dup, 1) := by decide +kernel
theorem d_X_poll_55 : decode b_X_poll 55 = .ok (.getfield 42, 3) := by decide +kernel
theorem d_X_poll_58 : decode b_X_poll 58 = .ok (.iconst 1, 1) := by decide +kernel
theorem d_X_poll_59 : decode b_X_poll 59 = .ok (.iadd, 1) := by decide +kernel
theorem d_X_poll_60 : decode b_X_poll 60 = .ok (.putfield 42, 3) := by decide +kernel
theorem d_X_poll_63 : decode b_X_poll 63 = .ok (.aload_n 0, 1) := by decide +kernel
theorem d_X_poll_64 : decode b_X_poll 64 = .ok (.getfield 32, 3) := by decide +kernel
theorem d_X_poll_67 : decode b_X_poll 67 = .ok (.aload_n 0, 1) := by decide +kernel
theorem d_X_poll_68 : decode b_X_poll 68 = .ok (.getfield 42, 3) := by decide +kernel
theorem d_X_poll_71 : decode b_X_poll 71 = .ok (.iconst 0, 1) := by decide +kernel
theorem d_X_poll_72 : decode b_X_poll 72 = .ok (.iastore, 1) := by decide +kernel
theorem d_X_poll_73 : decode b_X_poll 73 = .ok (.aload 5, 2) := by decide +kernel
theorem d_X_poll_75 : decode b_X_poll 75 = .ok (.aload_n 0, 1) := by decide +kernel
theorem d_X_poll_76 : decode b_X_poll 76 = .ok (.getfield 42, 3) := by decide +kernel
theorem d_X_poll_79 : decode b_X_poll 79 = .ok (.iload_n 1, 1) := by decide +kernel
theorem d_X_poll_80 : decode b_X_poll 80 = .ok (.iload_n 2, 1) := by decide +kernel
theorem d_X_poll_81 : decode b_X_poll 81 = .ok (.lload_n 3, 1) := by decide +kernel
theorem d_X_poll_82 : decode b_X_poll 82 = .ok (.aload_n 0, 1) := by decide +kernel
theorem d_X_poll_83 : decode b_X_poll 83 = .ok (.getfield 38, 3) := by decide +kernel
theorem d_X_poll_86 : decode b_X_poll 86 = .ok (.getfield 88, 3) := by decide +kernel
theorem d_X_poll_89 : decode b_X_poll 89 = .ok (.invokevirtual 91, 3) := by decide +kernel
theorem d_X_poll_92 : decode b_X_poll 92 = .ok (.aload_n 0, 1) := by decide +kernel
theorem d_X_poll_93 : decode b_X_poll 93 = .ok (.aload 5, 2) := by decide +kernel
theorem d_X_poll_95 : decode b_X_poll 95 = .ok (.invokevirtual 95, 3) := by decide +kernel
theorem d_X_poll_98 : decode b_X_poll 98 = .ok (.pop, 1) := by decide +kernel
theorem d_X_poll_99 : decode b_X_poll 99 = .ok (.aload_n 0, 1) := by decide +kernel
theorem d_X_poll_100 : decode b_X_poll 100 = .ok (.getfield 42, 3) := by decide +kernel
theorem d_X_poll_103 : decode b_X_poll 103 = .ok (.ireturn, 1) := by decide +kernel
theorem d_X_again_0 : decode b_X_again 0 = .ok (.aload_n 0, 1) := by decide +kernel
theorem d_X_again_1 : decode b_X_again 1 = .ok (.iload_n 1, 1) := by decide +kernel
theorem d_X_again_2 : decode b_X_again 2 = .ok (.invokevirtual 99, 3) := by decide +kernel
theorem d_X_again_5 : decode b_X_again 5 = .ok (.ifCond .ne 5, 3) := by decide +kernel
theorem d_X_again_8 : decode b_X_again 8 = .ok (.iconst (-1), 1) := by decide +kernel
theorem d_X_again_9 : decode b_X_again 9 = .ok (.ireturn, 1) := by decide +kernel
theorem d_X_again_10 : decode b_X_again 10 = .ok (.aload_n 0, 1) := by decide +kernel
theorem d_X_again_11 : decode b_X_again 11 = .ok (.iload_n 1, 1) := by decide +kernel
theorem d_X_again_12 : decode b_X_again 12 = .ok (.invokevirtual 102, 3) := by decide +kernel
theorem d_X_again_15 : decode b_X_again 15 = .ok (.astore_n 2, 1) := by decide +kernel
theorem d_X_again_16 : decode b_X_again 16 = .ok (.aload_n 2, 1) := by decide +kernel
theorem d_X_again_17 : decode b_X_again 17 = .ok (.ifnonnull 8, 3) := by decide +kernel
theorem d_X_again_20 : decode b_X_again 20 = .ok (.bipush (-2), 2) := by decide +kernel
theorem d_X_again_22 : decode b_X_again 22 = .ok (.goto 8, 3) := by decide +kernel
theorem d_X_again_25 : decode b_X_again 25 = .ok (.aload_n 0, 1) := by decide +kernel
theorem d_X_again_26 : decode b_X_again 26 = .ok (.aload_n 2, 1) := by decide +kernel
theorem d_X_again_27 : decode b_X_again 27 = .ok (.invokevirtual 95, 3) := by decide +kernel
theorem d_X_again_30 : decode b_X_again 30 = .ok (.ireturn, 1) := by decide +kernel
theorem d_X_step_0 : decode b_X_step 0 = .ok (.aload_n 0, 1) := by decide +kernel
theorem d_X_step_1 : decode b_X_step 1 = .ok (.getfield 22, 3) := by decide +kernel
theorem d_X_step_4 : decode b_X_step 4 = .ok (.getfield 106, 3) := by decide +kernel
theorem d_X_step_7 : decode b_X_step 7 = .ok (.ifCond .ne 5, 3) := by decide +kernel
theorem d_X_step_10 : decode b_X_step 10 = .ok (.iconst 0, 1) := by decide +kernel
theorem d_X_step_11 : decode b_X_step 11 = .ok (.ireturn, 1) := by decide +kernel
theorem d_X_step_12 : decode b_X_step 12 = .ok (.aload_n 0, 1) := by decide +kernel
theorem d_X_step_13 : decode b_X_step 13 = .ok (.getfield 22, 3) := by decide +kernel
theorem d_X_step_16 : decode b_X_step 16 = .ok (.getfield 109, 3) := by decide +kernel
theorem d_X_step_19 : decode b_X_step 19 = .ok (.iconst 0, 1) := by decide +kernel
theorem d_X_step_20 : decode b_X_step 20 = .ok (.iaload, 1) := by decide +kernel
theorem d_X_step_21 : decode b_X_step 21 = .ok (.istore_n 1, 1) := by decide +kernel
theorem d_X_step_22 : decode b_X_step 22 = .ok (.aload_n 0, 1) := by decide +kernel
theorem d_X_step_23 : decode b_X_step 23 = .ok (.getfield 22, 3) := by decide +kernel
theorem d_X_step_26 : decode b_X_step 26 = .ok (.getfield 112, 3) := by decide +kernel
theorem d_X_step_29 : decode b_X_step 29 = .ok (.iconst 0, 1) := by decide +kernel
theorem d_X_step_30 : decode b_X_step 30 = .ok (.iaload, 1) := by decide +kernel
theorem d_X_step_31 : decode b_X_step 31 = .ok (.istore_n 2, 1) := by decide +kernel
theorem d_X_step_32 : decode b_X_step 32 = .ok (.aload_n 0, 1) := by decide +kernel
theorem d_X_step_33 : decode b_X_step 33 = .ok (.getfield 22, 3) := by decide +kernel
theorem d_X_step_36 : decode b_X_step 36 = .ok (.getfield 114, 3) := by decide +kernel
theorem d_X_step_39 : decode b_X_step 39 = .ok (.iconst 0, 1) := by decide +kernel
theorem d_X_step_40 : decode b_X_step 40 = .ok (.laload, 1) := by decide +kernel
theorem d_X_step_41 : decode b_X_step 41 = .ok (.lstore_n 3, 1) := by decide +kernel
theorem d_X_step_42 : decode b_X_step 42 = .ok (.aload_n 0, 1) := by decide +kernel
theorem d_X_step_43 : decode b_X_step 43 = .ok (.aload_n 0, 1) := by decide +kernel
theorem d_X_step_44 : decode b_X_step 44 = .ok (.getfield 22, 3) := by decide +kernel
theorem d_X_step_47 : decode b_X_step 47 = .ok (.getfield 118, 3) := by decide +kernel
theorem d_X_step_50 : decode b_X_step 50 = .ok (.iconst 0, 1) := by decide +kernel
theorem d_X_step_51 : decode b_X_step 51 = .ok (.iaload, 1) := by decide +kernel
theorem d_X_step_52 : decode b_X_step 52 = .ok (.invokevirtual 102, 3) := by decide +kernel
theorem d_X_step_55 : decode b_X_step 55 = .ok (.astore 5, 2) := by decide +kernel
theorem d_X_step_57 : decode b_X_step 57 = .ok (.aload_n 0, 1) := by decide +kernel
theorem d_X_step_58 : decode b_X_step 58 = .ok (.getfield 22, 3) := by decide +kernel
theorem d_X_step_61 : decode b_X_step 61 = .ok (.iconst 0, 1) := by decide +kernel
theorem d_X_step_62 : decode b_X_step 62 = .ok (.invokevirtual 121, 3) := by decide +kernel
theorem d_X_step_65 : decode b_X_step 65 = .ok (.aload 5, 2) := by decide +kernel
theorem d_X_step_67 : decode b_X_step 67 = .ok (.ifnull 12, 3) := by decide +kernel
theorem d_X_step_70 : decode b_X_step 70 = .ok (.aload_n 0, 1) := by decide +kernel
theorem d_X_step_71 : decode b_X_step 71 = .ok (.aload 5, 2) := by decide +kernel
theorem d_X_step_73 : decode b_X_step 73 = .ok (.iload_n 1, 1) := by decide +kernel
theorem d_X_step_74 : decode b_X_step 74 = .ok (.iload_n 2, 1) := by decide +kernel
theorem d_X_step_75 : decode b_X_step 75 = .ok (.lload_n 3, 1) := by decide +kernel
theorem d_X_step_76 : decode b_X_step 76 = .ok (.invokevirtual 125, 3) := by decide +kernel
theorem d_X_step_79 : decode b_X_step 79 = .ok (.iload_n 1, 1) := by decide +kernel
theorem d_X_step_80 : decode b_X_step 80 = .ok (.ireturn, 1) := by decide +kernel
theorem d_X_lose_0 : decode b_X_lose 0 = .ok (.aload_n 0, 1) := by decide +kernel
theorem d_X_lose_1 : decode b_X_lose 1 = .ok (.getfield 22, 3) := by decide +kernel
theorem d_X_lose_4 : decode b_X_lose 4 = .ok (.iload_n 1, 1) := by decide +kernel
theorem d_X_lose_5 : decode b_X_lose 5 = .ok (.invokevirtual 129, 3) := by decide +kernel
theorem d_X_lose_8 : decode b_X_lose 8 = .ok (.ifCond .ne 5, 3) := by decide +kernel
theorem d_X_lose_11 : decode b_X_lose 11 = .ok (.iconst (-1), 1) := by decide +kernel
theorem d_X_lose_12 : decode b_X_lose 12 = .ok (.ireturn, 1) := by decide +kernel
theorem d_X_lose_13 : decode b_X_lose 13 = .ok (.aload_n 0, 1) := by decide +kernel
theorem d_X_lose_14 : decode b_X_lose 14 = .ok (.getfield 22, 3) := by decide +kernel
theorem d_X_lose_17 : decode b_X_lose 17 = .ok (.getfield 109, 3) := by decide +kernel
theorem d_X_lose_20 : decode b_X_lose 20 = .ok (.iload_n 1, 1) := by decide +kernel
theorem d_X_lose_21 : decode b_X_lose 21 = .ok (.iaload, 1) := by decide +kernel
theorem d_X_lose_22 : decode b_X_lose 22 = .ok (.istore_n 2, 1) := by decide +kernel
theorem d_X_lose_23 : decode b_X_lose 23 = .ok (.aload_n 0, 1) := by decide +kernel
theorem d_X_lose_24 : decode b_X_lose 24 = .ok (.getfield 22, 3) := by decide +kernel
theorem d_X_lose_27 : decode b_X_lose 27 = .ok (.iload_n 1, 1) := by decide +kernel
theorem d_X_lose_28 : decode b_X_lose 28 = .ok (.invokevirtual 121, 3) := by decide +kernel
theorem d_X_lose_31 : decode b_X_lose 31 = .ok (.iload_n 2, 1) := by decide +kernel
theorem d_X_lose_32 : decode b_X_lose 32 = .ok (.ireturn, 1) := by decide +kernel
theorem d_X_twice_0 : decode b_X_twice 0 = .ok (.aload_n 0, 1) := by decide +kernel
theorem d_X_twice_1 : decode b_X_twice 1 = .ok (.getfield 22, 3) := by decide +kernel
theorem d_X_twice_4 : decode b_X_twice 4 = .ok (.iload_n 1, 1) := by decide +kernel
theorem d_X_twice_5 : decode b_X_twice 5 = .ok (.invokevirtual 129, 3) := by decide +kernel
theorem d_X_twice_8 : decode b_X_twice 8 = .ok (.ifCond .ne 5, 3) := by decide +kernel
theorem d_X_twice_11 : decode b_X_twice 11 = .ok (.iconst (-1), 1) := by decide +kernel
theorem d_X_twice_12 : decode b_X_twice 12 = .ok (.ireturn, 1) := by decide +kernel
theorem d_X_twice_13 : decode b_X_twice 13 = .ok (.aload_n 0, 1) := by decide +kernel
theorem d_X_twice_14 : decode b_X_twice 14 = .ok (.getfield 22, 3) := by decide +kernel
theorem d_X_twice_17 : decode b_X_twice 17 = .ok (.getfield 106, 3) := by decide +kernel
theorem d_X_twice_20 : decode b_X_twice 20 = .ok (.bipush 24, 2) := by decide +kernel
theorem d_X_twice_22 : decode b_X_twice 22 = .ok (.if_icmp .ne 6, 3) := by decide +kernel
theorem d_X_twice_25 : decode b_X_twice 25 = .ok (.bipush (-3), 2) := by decide +kernel
theorem d_X_twice_27 : decode b_X_twice 27 = .ok (.ireturn, 1) := by decide +kernel
theorem d_X_twice_28 : decode b_X_twice 28 = .ok (.aload_n 0, 1) := by decide +kernel
theorem d_X_twice_29 : decode b_X_twice 29 = .ok (.getfield 22, 3) := by decide +kernel
theorem d_X_twice_32 : decode b_X_twice 32 = .ok (.aload_n 0, 1) := by decide +kernel
theorem d_X_twice_33 : decode b_X_twice 33 = .ok (.getfield 22, 3) := by decide +kernel
theorem d_X_twice_36 : decode b_X_twice 36 = .ok (.getfield 109, 3) := by decide +kernel
theorem d_X_twice_39 : decode b_X_twice 39 = .ok (.iload_n 1, 1) := by decide +kernel
theorem d_X_twice_40 : decode b_X_twice 40 = .ok (.iaload, 1) := by decide +kernel
theorem d_X_twice_41 : decode b_X_twice 41 = .ok (.aload_n 0, 1) := by decide +kernel
theorem d_X_twice_42 : decode b_X_twice 42 = .ok (.getfield 22, 3) := by decide +kernel
theorem d_X_twice_45 : decode b_X_twice 45 = .ok (.getfield 118, 3) := by decide +kernel
theorem d_X_twice_48 : decode b_X_twice 48 = .ok (.iload_n 1, 1) := by decide +kernel
theorem d_X_twice_49 : decode b_X_twice 49 = .ok (.iaload, 1) := by decide +kernel
theorem d_X_twice_50 : decode b_X_twice 50 = .ok (.aload_n 0, 1) := by decide +kernel
theorem d_X_twice_51 : decode b_X_twice 51 = .ok (.getfield 22, 3) := by decide +kernel
theorem d_X_twice_54 : decode b_X_twice 54 = .ok (.getfield 112, 3) := by decide +kernel
theorem d_X_twice_57 : decode b_X_twice 57 = .ok (.iload_n 1, 1) := by decide +kernel
theorem d_X_twice_58 : decode b_X_twice 58 = .ok (.iaload, 1) := by decide +kernel
theorem d_X_twice_59 : decode b_X_twice 59 = .ok (.aload_n 0, 1) := by decide +kernel
theorem d_X_twice_60 : decode b_X_twice 60 = .ok (.getfield 22, 3) := by decide +kernel
theorem d_X_twice_63 : decode b_X_twice 63 = .ok (.getfield 114, 3) := by decide +kernel
theorem d_X_twice_66 : decode b_X_twice 66 = .ok (.iload_n 1, 1) := by decide +kernel
theorem d_X_twice_67 : decode b_X_twice 67 = .ok (.laload, 1) := by decide +kernel
theorem d_X_twice_68 : decode b_X_twice 68 = .ok (.invokevirtual 132, 3) := by decide +kernel
theorem d_X_twice_71 : decode b_X_twice 71 = .ok (.aload_n 0, 1) := by decide +kernel
theorem d_X_twice_72 : decode b_X_twice 72 = .ok (.getfield 22, 3) := by decide +kernel
theorem d_X_twice_75 : decode b_X_twice 75 = .ok (.getfield 106, 3) := by decide +kernel
theorem d_X_twice_78 : decode b_X_twice 78 = .ok (.ireturn, 1) := by decide +kernel
theorem d_X_letters_0 : decode b_X_letters 0 = .ok (.aload_n 0, 1) := by decide +kernel
theorem d_X_letters_1 : decode b_X_letters 1 = .ok (.getfield 22, 3) := by decide +kernel
theorem d_X_letters_4 : decode b_X_letters 4 = .ok (.getfield 106, 3) := by decide +kernel
theorem d_X_letters_7 : decode b_X_letters 7 = .ok (.ireturn, 1) := by decide +kernel
theorem d_X_letter_0 : decode b_X_letter 0 = .ok (.aload_n 0, 1) := by decide +kernel
end
section
theorem d_X_letter_1 : decode b_X_letter 1 = .ok (.getfield 22, 3) := by decide +kernel
theorem d_X_letter_4 : decode b_X_letter 4 = .ok (.iload_n 1, 1) := by decide +kernel
theorem d_X_letter_5 : decode b_X_letter 5 = .ok (.invokevirtual 129, 3) := by decide +kernel
theorem d_X_letter_8 : decode b_X_letter 8 = .ok (.ifCond .ne 5, 3) := by decide +kernel
theorem d_X_letter_11 : decode b_X_letter 11 = .ok (.iconst (-1), 1) := by decide +kernel
theorem d_X_letter_12 : decode b_X_letter 12 = .ok (.ireturn, 1) := by decide +kernel
theorem d_X_letter_13 : decode b_X_letter 13 = .ok (.iload_n 2, 1) := by decide +kernel
theorem d_X_letter_14 : decode b_X_letter 14 = .ok (.tableswitch 56 0 2 #[26, 36, 46], 26) := by decide +kernel
theorem d_X_letter_40 : decode b_X_letter 40 = .ok (.aload_n 0, 1) := by decide +kernel
theorem d_X_letter_41 : decode b_X_letter 41 = .ok (.getfield 22, 3) := by decide +kernel
theorem d_X_letter_44 : decode b_X_letter 44 = .ok (.getfield 109, 3) := by decide +kernel
theorem d_X_letter_47 : decode b_X_letter 47 = .ok (.iload_n 1, 1) := by decide +kernel
theorem d_X_letter_48 : decode b_X_letter 48 = .ok (.iaload, 1) := by decide +kernel
theorem d_X_letter_49 : decode b_X_letter 49 = .ok (.ireturn, 1) := by decide +kernel
theorem d_X_letter_50 : decode b_X_letter 50 = .ok (.aload_n 0, 1) := by decide +kernel
theorem d_X_letter_51 : decode b_X_letter 51 = .ok (.getfield 22, 3) := by decide +kernel
theorem d_X_letter_54 : decode b_X_letter 54 = .ok (.getfield 118, 3) := by decide +kernel
theorem d_X_letter_57 : decode b_X_letter 57 = .ok (.iload_n 1, 1) := by decide +kernel
theorem d_X_letter_58 : decode b_X_letter 58 = .ok (.iaload, 1) := by decide +kernel
theorem d_X_letter_59 : decode b_X_letter 59 = .ok (.ireturn, 1) := by decide +kernel
theorem d_X_letter_60 : decode b_X_letter 60 = .ok (.aload_n 0, 1) := by decide +kernel
theorem d_X_letter_61 : decode b_X_letter 61 = .ok (.getfield 22, 3) := by decide +kernel
theorem d_X_letter_64 : decode b_X_letter 64 = .ok (.getfield 112, 3) := by decide +kernel
theorem d_X_letter_67 : decode b_X_letter 67 = .ok (.iload_n 1, 1) := by decide +kernel
theorem d_X_letter_68 : decode b_X_letter 68 = .ok (.iaload, 1) := by decide +kernel
theorem d_X_letter_69 : decode b_X_letter 69 = .ok (.ireturn, 1) := by decide +kernel
theorem d_X_letter_70 : decode b_X_letter 70 = .ok (.iconst (-1), 1) := by decide +kernel
theorem d_X_letter_71 : decode b_X_letter 71 = .ok (.ireturn, 1) := by decide +kernel
theorem d_X_giveUp_0 : decode b_X_giveUp 0 = .ok (.aload_n 0, 1) := by decide +kernel
theorem d_X_giveUp_1 : decode b_X_giveUp 1 = .ok (.iload_n 1, 1) := by decide +kernel
theorem d_X_giveUp_2 : decode b_X_giveUp 2 = .ok (.invokevirtual 102, 3) := by decide +kernel
theorem d_X_giveUp_5 : decode b_X_giveUp 5 = .ok (.astore_n 2, 1) := by decide +kernel
theorem d_X_giveUp_6 : decode b_X_giveUp 6 = .ok (.aload_n 2, 1) := by decide +kernel
theorem d_X_giveUp_7 : decode b_X_giveUp 7 = .ok (.ifnonnull 5, 3) := by decide +kernel
theorem d_X_giveUp_10 : decode b_X_giveUp 10 = .ok (.iconst 0, 1) := by decide +kernel
theorem d_X_giveUp_11 : decode b_X_giveUp 11 = .ok (.ireturn, 1) := by decide +kernel
theorem d_X_giveUp_12 : decode b_X_giveUp 12 = .ok (.aload_n 0, 1) := by decide +kernel
theorem d_X_giveUp_13 : decode b_X_giveUp 13 = .ok (.aload_n 2, 1) := by decide +kernel
theorem d_X_giveUp_14 : decode b_X_giveUp 14 = .ok (.iconst 4, 1) := by decide +kernel
theorem d_X_giveUp_15 : decode b_X_giveUp 15 = .ok (.invokevirtual 136, 3) := by decide +kernel
theorem d_X_giveUp_18 : decode b_X_giveUp 18 = .ok (.iconst 1, 1) := by decide +kernel
theorem d_X_giveUp_19 : decode b_X_giveUp 19 = .ok (.ireturn, 1) := by decide +kernel
theorem d_X_result_0 : decode b_X_result 0 = .ok (.aload_n 0, 1) := by decide +kernel
theorem d_X_result_1 : decode b_X_result 1 = .ok (.iload_n 1, 1) := by decide +kernel
theorem d_X_result_2 : decode b_X_result 2 = .ok (.invokevirtual 99, 3) := by decide +kernel
theorem d_X_result_5 : decode b_X_result 5 = .ok (.ifCond .eq 12, 3) := by decide +kernel
theorem d_X_result_8 : decode b_X_result 8 = .ok (.aload_n 0, 1) := by decide +kernel
theorem d_X_result_9 : decode b_X_result 9 = .ok (.getfield 32, 3) := by decide +kernel
theorem d_X_result_12 : decode b_X_result 12 = .ok (.iload_n 1, 1) := by decide +kernel
theorem d_X_result_13 : decode b_X_result 13 = .ok (.iaload, 1) := by decide +kernel
theorem d_X_result_14 : decode b_X_result 14 = .ok (.goto 4, 3) := by decide +kernel
theorem d_X_result_17 : decode b_X_result 17 = .ok (.iconst (-1), 1) := by decide +kernel
theorem d_X_result_18 : decode b_X_result 18 = .ok (.ireturn, 1) := by decide +kernel
theorem d_X_close_0 : decode b_X_close 0 = .ok (.iload_n 1, 1) := by decide +kernel
theorem d_X_close_1 : decode b_X_close 1 = .ok (.invokestatic 63, 3) := by decide +kernel
theorem d_X_close_4 : decode b_X_close 4 = .ok (.ifCond .eq 15, 3) := by decide +kernel
theorem d_X_close_7 : decode b_X_close 7 = .ok (.aload_n 0, 1) := by decide +kernel
theorem d_X_close_8 : decode b_X_close 8 = .ok (.getfield 11, 3) := by decide +kernel
theorem d_X_close_11 : decode b_X_close 11 = .ok (.iload_n 1, 1) := by decide +kernel
theorem d_X_close_12 : decode b_X_close 12 = .ok (.aaload, 1) := by decide +kernel
theorem d_X_close_13 : decode b_X_close 13 = .ok (.getfield 140, 3) := by decide +kernel
theorem d_X_close_16 : decode b_X_close 16 = .ok (.ifCond .ne 5, 3) := by decide +kernel
theorem d_X_close_19 : decode b_X_close 19 = .ok (.iconst 0, 1) := by decide +kernel
theorem d_X_close_20 : decode b_X_close 20 = .ok (.ireturn, 1) := by decide +kernel
theorem d_X_close_21 : decode b_X_close 21 = .ok (.aload_n 0, 1) := by decide +kernel
theorem d_X_close_22 : decode b_X_close 22 = .ok (.getfield 11, 3) := by decide +kernel
theorem d_X_close_25 : decode b_X_close 25 = .ok (.iload_n 1, 1) := by decide +kernel
theorem d_X_close_26 : decode b_X_close 26 = .ok (.aaload, 1) := by decide +kernel
theorem d_X_close_27 : decode b_X_close 27 = .ok (.iconst 0, 1) := by decide +kernel
theorem d_X_close_28 : decode b_X_close 28 = .ok (.putfield 140, 3) := by decide +kernel
theorem d_X_close_31 : decode b_X_close 31 = .ok (.iconst 1, 1) := by decide +kernel
theorem d_X_close_32 : decode b_X_close 32 = .ok (.ireturn, 1) := by decide +kernel
theorem d_X_open_0 : decode b_X_open 0 = .ok (.iload_n 1, 1) := by decide +kernel
theorem d_X_open_1 : decode b_X_open 1 = .ok (.invokestatic 63, 3) := by decide +kernel
theorem d_X_open_4 : decode b_X_open 4 = .ok (.ifCond .eq 15, 3) := by decide +kernel
theorem d_X_open_7 : decode b_X_open 7 = .ok (.aload_n 0, 1) := by decide +kernel
theorem d_X_open_8 : decode b_X_open 8 = .ok (.getfield 11, 3) := by decide +kernel
theorem d_X_open_11 : decode b_X_open 11 = .ok (.iload_n 1, 1) := by decide +kernel
theorem d_X_open_12 : decode b_X_open 12 = .ok (.aaload, 1) := by decide +kernel
theorem d_X_open_13 : decode b_X_open 13 = .ok (.getfield 140, 3) := by decide +kernel
theorem d_X_open_16 : decode b_X_open 16 = .ok (.ifCond .eq 5, 3) := by decide +kernel
theorem d_X_open_19 : decode b_X_open 19 = .ok (.iconst 0, 1) := by decide +kernel
theorem d_X_open_20 : decode b_X_open 20 = .ok (.ireturn, 1) := by decide +kernel
theorem d_X_open_21 : decode b_X_open 21 = .ok (.aload_n 0, 1) := by decide +kernel
theorem d_X_open_22 : decode b_X_open 22 = .ok (.getfield 11, 3) := by decide +kernel
theorem d_X_open_25 : decode b_X_open 25 = .ok (.iload_n 1, 1) := by decide +kernel
theorem d_X_open_26 : decode b_X_open 26 = .ok (.aaload, 1) := by decide +kernel
theorem d_X_open_27 : decode b_X_open 27 = .ok (.iconst 1, 1) := by decide +kernel
theorem d_X_open_28 : decode b_X_open 28 = .ok (.putfield 140, 3) := by decide +kernel
theorem d_X_open_31 : decode b_X_open 31 = .ok (.iconst 1, 1) := by decide +kernel
theorem d_X_open_32 : decode b_X_open 32 = .ok (.ireturn, 1) := by decide +kernel
theorem d_X_round_0 : decode b_X_round 0 = .ok (.aload_n 0, 1) := by decide +kernel
theorem d_X_round_1 : decode b_X_round 1 = .ok (.getfield 38, 3) := by decide +kernel
theorem d_X_round_4 : decode b_X_round 4 = .ok (.getfield 88, 3) := by decide +kernel
theorem d_X_round_7 : decode b_X_round 7 = .ok (.ireturn, 1) := by decide +kernel
theorem d_X_done_0 : decode b_X_done 0 = .ok (.aload_n 0, 1) := by decide +kernel
theorem d_X_done_1 : decode b_X_done 1 = .ok (.getfield 38, 3) := by decide +kernel
theorem d_X_done_4 : decode b_X_done 4 = .ok (.getfield 144, 3) := by decide +kernel
theorem d_X_done_7 : decode b_X_done 7 = .ok (.ireturn, 1) := by decide +kernel
theorem d_X_mends_0 : decode b_X_mends 0 = .ok (.iload_n 1, 1) := by decide +kernel
theorem d_X_mends_1 : decode b_X_mends 1 = .ok (.invokestatic 63, 3) := by decide +kernel
theorem d_X_mends_4 : decode b_X_mends 4 = .ok (.ifCond .eq 15, 3) := by decide +kernel
theorem d_X_mends_7 : decode b_X_mends 7 = .ok (.aload_n 0, 1) := by decide +kernel
theorem d_X_mends_8 : decode b_X_mends 8 = .ok (.getfield 11, 3) := by decide +kernel
theorem d_X_mends_11 : decode b_X_mends 11 = .ok (.iload_n 1, 1) := by decide +kernel
theorem d_X_mends_12 : decode b_X_mends 12 = .ok (.aaload, 1) := by decide +kernel
theorem d_X_mends_13 : decode b_X_mends 13 = .ok (.getfield 152, 3) := by decide +kernel
theorem d_X_mends_16 : decode b_X_mends 16 = .ok (.goto 4, 3) := by decide +kernel
theorem d_X_mends_19 : decode b_X_mends 19 = .ok (.iconst (-1), 1) := by decide +kernel
theorem d_X_mends_20 : decode b_X_mends 20 = .ok (.ireturn, 1) := by decide +kernel
theorem d_X_disputes_0 : decode b_X_disputes 0 = .ok (.aload_n 0, 1) := by decide +kernel
theorem d_X_disputes_1 : decode b_X_disputes 1 = .ok (.getfield 46, 3) := by decide +kernel
theorem d_X_disputes_4 : decode b_X_disputes 4 = .ok (.ireturn, 1) := by decide +kernel
theorem d_M_isHouse_0 : decode b_M_isHouse 0 = .ok (.iload_n 0, 1) := by decide +kernel
theorem d_M_isHouse_1 : decode b_M_isHouse 1 = .ok (.ifCond .lt 12, 3) := by decide +kernel
theorem d_M_isHouse_4 : decode b_M_isHouse 4 = .ok (.iload_n 0, 1) := by decide +kernel
theorem d_M_isHouse_5 : decode b_M_isHouse 5 = .ok (.iconst 3, 1) := by decide +kernel
theorem d_M_isHouse_6 : decode b_M_isHouse 6 = .ok (.if_icmp .ge 7, 3) := by decide +kernel
theorem d_M_isHouse_9 : decode b_M_isHouse 9 = .ok (.iconst 1, 1) := by decide +kernel
theorem d_M_isHouse_10 : decode b_M_isHouse 10 = .ok (.goto 4, 3) := by decide +kernel
theorem d_M_isHouse_13 : decode b_M_isHouse 13 = .ok (.iconst 0, 1) := by decide +kernel
theorem d_M_isHouse_14 : decode b_M_isHouse 14 = .ok (.ireturn, 1) := by decide +kernel
theorem d_M_blocksOf_0 : decode b_M_blocksOf 0 = .ok (.iload_n 1, 1) := by decide +kernel
theorem d_M_blocksOf_1 : decode b_M_blocksOf 1 = .ok (.ifCond .lt 18, 3) := by decide +kernel
theorem d_M_blocksOf_4 : decode b_M_blocksOf 4 = .ok (.iload_n 1, 1) := by decide +kernel
theorem d_M_blocksOf_5 : decode b_M_blocksOf 5 = .ok (.bipush 6, 2) := by decide +kernel
theorem d_M_blocksOf_7 : decode b_M_blocksOf 7 = .ok (.if_icmp .ge 12, 3) := by decide +kernel
theorem d_M_blocksOf_10 : decode b_M_blocksOf 10 = .ok (.aload_n 0, 1) := by decide +kernel
theorem d_M_blocksOf_11 : decode b_M_blocksOf 11 = .ok (.getfield 13, 3) := by decide +kernel
theorem d_M_blocksOf_14 : decode b_M_blocksOf 14 = .ok (.iload_n 1, 1) := by decide +kernel
theorem d_M_blocksOf_15 : decode b_M_blocksOf 15 = .ok (.iaload, 1) := by decide +kernel
theorem d_M_blocksOf_16 : decode b_M_blocksOf 16 = .ok (.goto 4, 3) := by decide +kernel
theorem d_M_blocksOf_19 : decode b_M_blocksOf 19 = .ok (.iconst 0, 1) := by decide +kernel
theorem d_M_blocksOf_20 : decode b_M_blocksOf 20 = .ok (.ireturn, 1) := by decide +kernel
theorem d_M_isByte_0 : decode b_M_isByte 0 = .ok (.iload_n 1, 1) := by decide +kernel
theorem d_M_isByte_1 : decode b_M_isByte 1 = .ok (.invokestatic 76, 3) := by decide +kernel
theorem d_M_isByte_4 : decode b_M_isByte 4 = .ok (.ifCond .eq 22, 3) := by decide +kernel
theorem d_M_isByte_7 : decode b_M_isByte 7 = .ok (.iload_n 3, 1) := by decide +kernel
theorem d_M_isByte_8 : decode b_M_isByte 8 = .ok (.ifCond .lt 18, 3) := by decide +kernel
theorem d_M_isByte_11 : decode b_M_isByte 11 = .ok (.iload_n 3, 1) := by decide +kernel
theorem d_M_isByte_12 : decode b_M_isByte 12 = .ok (.iconst 4, 1) := by decide +kernel
theorem d_M_isByte_13 : decode b_M_isByte 13 = .ok (.aload_n 0, 1) := by decide +kernel
theorem d_M_isByte_14 : decode b_M_isByte 14 = .ok (.iload_n 2, 1) := by decide +kernel
theorem d_M_isByte_15 : decode b_M_isByte 15 = .ok (.invokevirtual 80, 3) := by decide +kernel
theorem d_M_isByte_18 : decode b_M_isByte 18 = .ok (.imul, 1) := by decide +kernel
theorem d_M_isByte_19 : decode b_M_isByte 19 = .ok (.if_icmp .ge 7, 3) := by decide +kernel
theorem d_M_isByte_22 : decode b_M_isByte 22 = .ok (.iconst 1, 1) := by decide +kernel
theorem d_M_isByte_23 : decode b_M_isByte 23 = .ok (.goto 4, 3) := by decide +kernel
theorem d_M_isByte_26 : decode b_M_isByte 26 = .ok (.iconst 0, 1) := by decide +kernel
theorem d_M_isByte_27 : decode b_M_isByte 27 = .ok (.ireturn, 1) := by decide +kernel
theorem d_M_blocks_0 : decode b_M_blocks 0 = .ok (.aload_n 0, 1) := by decide +kernel
theorem d_M_blocks_1 : decode b_M_blocks 1 = .ok (.iload_n 1, 1) := by decide +kernel
theorem d_M_blocks_2 : decode b_M_blocks 2 = .ok (.invokevirtual 80, 3) := by decide +kernel
theorem d_M_blocks_5 : decode b_M_blocks 5 = .ok (.ireturn, 1) := by decide +kernel
theorem d_M_at_0 : decode b_M_at 0 = .ok (.aload_n 0, 1) := by decide +kernel
theorem d_M_at_1 : decode b_M_at 1 = .ok (.iload_n 1, 1) := by decide +kernel
theorem d_M_at_2 : decode b_M_at 2 = .ok (.iload_n 2, 1) := by decide +kernel
theorem d_M_at_3 : decode b_M_at 3 = .ok (.iload_n 3, 1) := by decide +kernel
theorem d_M_at_4 : decode b_M_at 4 = .ok (.invokevirtual 84, 3) := by decide +kernel
theorem d_M_at_7 : decode b_M_at 7 = .ok (.ifCond .eq 23, 3) := by decide +kernel
theorem d_M_at_10 : decode b_M_at 10 = .ok (.aload_n 0, 1) := by decide +kernel
theorem d_M_at_11 : decode b_M_at 11 = .ok (.getfield 7, 3) := by decide +kernel
theorem d_M_at_14 : decode b_M_at 14 = .ok (.sipush 384, 3) := by decide +kernel
theorem d_M_at_17 : decode b_M_at 17 = .ok (.iload_n 1, 1) := by decide +kernel
theorem d_M_at_18 : decode b_M_at 18 = .ok (.imul, 1) := by decide +kernel
theorem d_M_at_19 : decode b_M_at 19 = .ok (.bipush 64, 2) := by decide +kernel
theorem d_M_at_21 : decode b_M_at 21 = .ok (.iload_n 2, 1) := by decide +kernel
theorem d_M_at_22 : decode b_M_at 22 = .ok (.imul, 1) := by decide +kernel
theorem d_M_at_23 : decode b_M_at 23 = .ok (.iadd, 1) := by decide +kernel
theorem d_M_at_24 : decode b_M_at 24 = .ok (.iload_n 3, 1) := by decide +kernel
theorem d_M_at_25 : decode b_M_at 25 = .ok (.iadd, 1) := by decide +kernel
theorem d_M_at_26 : decode b_M_at 26 = .ok (.iaload, 1) := by decide +kernel
theorem d_M_at_27 : decode b_M_at 27 = .ok (.goto 4, 3) := by decide +kernel
theorem d_M_at_30 : decode b_M_at 30 = .ok (.iconst (-1), 1) := by decide +kernel
theorem d_M_at_31 : decode b_M_at 31 = .ok (.ireturn, 1) := by decide +kernel
theorem d_M_damage_0 : decode b_M_damage 0 = .ok (.aload_n 0, 1) := by decide +kernel
theorem d_M_damage_1 : decode b_M_damage 1 = .ok (.iload_n 1, 1) := by decide +kernel
theorem d_M_damage_2 : decode b_M_damage 2 = .ok (.iload_n 2, 1) := by decide +kernel
theorem d_M_damage_3 : decode b_M_damage 3 = .ok (.iload_n 3, 1) := by decide +kernel
theorem d_M_damage_4 : decode b_M_damage 4 = .ok (.invokevirtual 84, 3) := by decide +kernel
theorem d_M_damage_7 : decode b_M_damage 7 = .ok (.ifCond .ne 5, 3) := by decide +kernel
theorem d_M_damage_10 : decode b_M_damage 10 = .ok (.iconst (-1), 1) := by decide +kernel
theorem d_M_damage_11 : decode b_M_damage 11 = .ok (.ireturn, 1) := by decide +kernel
theorem d_M_damage_12 : decode b_M_damage 12 = .ok (.aload_n 0, 1) := by decide +kernel
theorem d_M_damage_13 : decode b_M_damage 13 = .ok (.getfield 7, 3) := by decide +kernel
theorem d_M_damage_16 : decode b_M_damage 16 = .ok (.sipush 384, 3) := by decide +kernel
theorem d_M_damage_19 : decode b_M_damage 19 = .ok (.iload_n 1, 1) := by decide +kernel
theorem d_M_damage_20 : decode b_M_damage 20 = .ok (.imul, 1) := by decide +kernel
theorem d_M_damage_21 : decode b_M_damage 21 = .ok (.bipush 64, 2) := by decide +kernel
theorem d_M_damage_23 : decode b_M_damage 23 = .ok (.iload_n 2, 1) := by decide +kernel
theorem d_M_damage_24 : decode b_M_damage 24 = .ok (.imul, 1) := by decide +kernel
theorem d_M_damage_25 : decode b_M_damage 25 = .ok (.iadd, 1) := by decide +kernel
theorem d_M_damage_26 : decode b_M_damage 26 = .ok (.iload_n 3, 1) := by decide +kernel
theorem d_M_damage_27 : decode b_M_damage 27 = .ok (.iadd, 1) := by decide +kernel
theorem d_M_damage_28 : decode b_M_damage 28 = .ok (.aload_n 0, 1) := by decide +kernel
theorem d_M_damage_29 : decode b_M_damage 29 = .ok (.getfield 7, 3) := by decide +kernel
theorem d_M_damage_32 : decode b_M_damage 32 = .ok (.sipush 384, 3) := by decide +kernel
theorem d_M_damage_35 : decode b_M_damage 35 = .ok (.iload_n 1, 1) := by decide +kernel
theorem d_M_damage_36 : decode b_M_damage 36 = .ok (.imul, 1) := by decide +kernel
theorem d_M_damage_37 : decode b_M_damage 37 = .ok (.bipush 64, 2) := by decide +kernel
theorem d_M_damage_39 : decode b_M_damage 39 = .ok (.iload_n 2, 1) := by decide +kernel
theorem d_M_damage_40 : decode b_M_damage 40 = .ok (.imul, 1) := by decide +kernel
theorem d_M_damage_41 : decode b_M_damage 41 = .ok (.iadd, 1) := by decide +kernel
theorem d_M_damage_42 : decode b_M_damage 42 = .ok (.iload_n 3, 1) := by decide +kernel
theorem d_M_damage_43 : decode b_M_damage 43 = .ok (.iadd, 1) := by decide +kernel
theorem d_M_damage_44 : decode b_M_damage 44 = .ok (.iaload, 1) := by decide +kernel
theorem d_M_damage_45 : decode b_M_damage 45 = .ok (.iload 4, 2) := by decide +kernel
theorem d_M_damage_47 : decode b_M_damage 47 = .ok (.sipush 255, 3) := by decide +kernel
theorem d_M_damage_50 : decode b_M_damage 50 = .ok (.iand, 1) := by decide +kernel
theorem d_M_damage_51 : decode b_M_damage 51 = .ok (.ixor, 1) := by decide +kernel
theorem d_M_damage_52 : decode b_M_damage 52 = .ok (.iastore, 1) := by decide +kernel
theorem d_M_damage_53 : decode b_M_damage 53 = .ok (.aload_n 0, 1) := by decide +kernel
theorem d_M_damage_54 : decode b_M_damage 54 = .ok (.getfield 7, 3) := by decide +kernel
theorem d_M_damage_57 : decode b_M_damage 57 = .ok (.sipush 384, 3) := by decide +kernel
theorem d_M_damage_60 : decode b_M_damage 60 = .ok (.iload_n 1, 1) := by decide +kernel
theorem d_M_damage_61 : decode b_M_damage 61 = .ok (.imul, 1) := by decide +kernel
theorem d_M_damage_62 : decode b_M_damage 62 = .ok (.bipush 64, 2) := by decide +kernel
theorem d_M_damage_64 : decode b_M_damage 64 = .ok (.iload_n 2, 1) := by decide +kernel
theorem d_M_damage_65 : decode b_M_damage 65 = .ok (.imul, 1) := by decide +kernel
theorem d_M_damage_66 : decode b_M_damage 66 = .ok (.iadd, 1) := by decide +kernel
theorem d_M_damage_67 : decode b_M_damage 67 = .ok (.iload_n 3, 1) := by decide +kernel
theorem d_M_damage_68 : decode b_M_damage 68 = .ok (.iadd, 1) := by decide +kernel
theorem d_M_damage_69 : decode b_M_damage 69 = .ok (.iaload, 1) := by decide +kernel
theorem d_M_damage_70 : decode b_M_damage 70 = .ok (.ireturn, 1) := by decide +kernel
theorem d_M_mix_0 : decode b_M_mix 0 = .ok (.lload_n 0, 1) := by decide +kernel
theorem d_M_mix_1 : decode b_M_mix 1 = .ok (.iload_n 2, 1) := by decide +kernel
theorem d_M_mix_2 : decode b_M_mix 2 = .ok (.i2l, 1) := by decide +kernel
theorem d_M_mix_3 : decode b_M_mix 3 = .ok (.lxor, 1) := by decide +kernel
theorem d_M_mix_4 : decode b_M_mix 4 = .ok (.ldc2_w 88, 3) := by decide +kernel
theorem d_M_mix_7 : decode b_M_mix 7 = .ok (.lmul, 1) := by decide +kernel
theorem d_M_mix_8 : decode b_M_mix 8 = .ok (.lreturn, 1) := by decide +kernel
theorem d_M_sizeOf_0 : decode b_M_sizeOf 0 = .ok (.iload_n 2, 1) := by decide +kernel
theorem d_M_sizeOf_1 : decode b_M_sizeOf 1 = .ok (.ifCond .lt 18, 3) := by decide +kernel
theorem d_M_sizeOf_4 : decode b_M_sizeOf 4 = .ok (.iload_n 2, 1) := by decide +kernel
theorem d_M_sizeOf_5 : decode b_M_sizeOf 5 = .ok (.bipush 7, 2) := by decide +kernel
theorem d_M_sizeOf_7 : decode b_M_sizeOf 7 = .ok (.if_icmp .gt 12, 3) := by decide +kernel
theorem d_M_sizeOf_10 : decode b_M_sizeOf 10 = .ok (.iload_n 2, 1) := by decide +kernel
theorem d_M_sizeOf_11 : decode b_M_sizeOf 11 = .ok (.aload_n 0, 1) := by decide +kernel
theorem d_M_sizeOf_12 : decode b_M_sizeOf 12 = .ok (.iload_n 1, 1) := by decide +kernel
theorem d_M_sizeOf_13 : decode b_M_sizeOf 13 = .ok (.invokevirtual 80, 3) := by decide +kernel
theorem d_M_sizeOf_16 : decode b_M_sizeOf 16 = .ok (.if_icmp .lt 7, 3) := by decide +kernel
theorem d_M_sizeOf_19 : decode b_M_sizeOf 19 = .ok (.iconst 0, 1) := by decide +kernel
theorem d_M_sizeOf_20 : decode b_M_sizeOf 20 = .ok (.goto 21, 3) := by decide +kernel
theorem d_M_sizeOf_23 : decode b_M_sizeOf 23 = .ok (.iload_n 2, 1) := by decide +kernel
theorem d_M_sizeOf_24 : decode b_M_sizeOf 24 = .ok (.bipush 8, 2) := by decide +kernel
theorem d_M_sizeOf_26 : decode b_M_sizeOf 26 = .ok (.iadd, 1) := by decide +kernel
theorem d_M_sizeOf_27 : decode b_M_sizeOf 27 = .ok (.aload_n 0, 1) := by decide +kernel
theorem d_M_sizeOf_28 : decode b_M_sizeOf 28 = .ok (.getfield 13, 3) := by decide +kernel
theorem d_M_sizeOf_31 : decode b_M_sizeOf 31 = .ok (.iload_n 1, 1) := by decide +kernel
theorem d_M_sizeOf_32 : decode b_M_sizeOf 32 = .ok (.iaload, 1) := by decide +kernel
theorem d_M_sizeOf_33 : decode b_M_sizeOf 33 = .ok (.if_icmp .ge 7, 3) := by decide +kernel
theorem d_M_sizeOf_36 : decode b_M_sizeOf 36 = .ok (.iconst 2, 1) := by decide +kernel
theorem d_M_sizeOf_37 : decode b_M_sizeOf 37 = .ok (.goto 4, 3) := by decide +kernel
theorem d_M_sizeOf_40 : decode b_M_sizeOf 40 = .ok (.iconst 1, 1) := by decide +kernel
theorem d_M_sizeOf_41 : decode b_M_sizeOf 41 = .ok (.ireturn, 1) := by decide +kernel
theorem d_M_sum_0 : decode b_M_sum 0 = .ok (.iload_n 1, 1) := by decide +kernel
theorem d_M_sum_1 : decode b_M_sum 1 = .ok (.invokestatic 76, 3) := by decide +kernel
theorem d_M_sum_4 : decode b_M_sum 4 = .ok (.ifCond .eq 21, 3) := by decide +kernel
theorem d_M_sum_7 : decode b_M_sum 7 = .ok (.iload_n 3, 1) := by decide +kernel
theorem d_M_sum_8 : decode b_M_sum 8 = .ok (.ifCond .lt 17, 3) := by decide +kernel
theorem d_M_sum_11 : decode b_M_sum 11 = .ok (.iload_n 3, 1) := by decide +kernel
theorem d_M_sum_12 : decode b_M_sum 12 = .ok (.bipush 7, 2) := by decide +kernel
theorem d_M_sum_14 : decode b_M_sum 14 = .ok (.if_icmp .gt 11, 3) := by decide +kernel
theorem d_M_sum_17 : decode b_M_sum 17 = .ok (.aload_n 0, 1) := by decide +kernel
theorem d_M_sum_18 : decode b_M_sum 18 = .ok (.iload_n 2, 1) := by decide +kernel
theorem d_M_sum_19 : decode b_M_sum 19 = .ok (.invokevirtual 80, 3) := by decide +kernel
theorem d_M_sum_22 : decode b_M_sum 22 = .ok (.ifCond .ne 5, 3) := by decide +kernel
theorem d_M_sum_25 : decode b_M_sum 25 = .ok (.lconst 0, 1) := by decide +kernel
theorem d_M_sum_26 : decode b_M_sum 26 = .ok (.lreturn, 1) := by decide +kernel
theorem d_M_sum_27 : decode b_M_sum 27 = .ok (.lload 4, 2) := by decide +kernel
theorem d_M_sum_29 : decode b_M_sum 29 = .ok (.lstore 6, 2) := by decide +kernel
theorem d_M_sum_31 : decode b_M_sum 31 = .ok (.iconst 0, 1) := by decide +kernel
theorem d_M_sum_32 : decode b_M_sum 32 = .ok (.istore 8, 2) := by decide +kernel
theorem d_M_sum_34 : decode b_M_sum 34 = .ok (.iload 8, 2) := by decide +kernel
theorem d_M_sum_36 : decode b_M_sum 36 = .ok (.aload_n 0, 1) := by decide +kernel
theorem d_M_sum_37 : decode b_M_sum 37 = .ok (.iload_n 2, 1) := by decide +kernel
theorem d_M_sum_38 : decode b_M_sum 38 = .ok (.iload_n 3, 1) := by decide +kernel
theorem d_M_sum_39 : decode b_M_sum 39 = .ok (.invokevirtual 90, 3) := by decide +kernel
theorem d_M_sum_42 : decode b_M_sum 42 = .ok (.if_icmp .ge 76, 3) := by decide +kernel
theorem d_M_sum_45 : decode b_M_sum 45 = .ok (.iload_n 3, 1) := by decide +kernel
theorem d_M_sum_46 : decode b_M_sum 46 = .ok (.bipush 8, 2) := by decide +kernel
theorem d_M_sum_48 : decode b_M_sum 48 = .ok (.iload 8, 2) := by decide +kernel
theorem d_M_sum_50 : decode b_M_sum 50 = .ok (.imul, 1) := by decide +kernel
theorem d_M_sum_51 : decode b_M_sum 51 = .ok (.iadd, 1) := by decide +kernel
theorem d_M_sum_52 : decode b_M_sum 52 = .ok (.istore 9, 2) := by decide +kernel
theorem d_M_sum_54 : decode b_M_sum 54 = .ok (.lload 6, 2) := by decide +kernel
theorem d_M_sum_56 : decode b_M_sum 56 = .ok (.iload_n 2, 1) := by decide +kernel
theorem d_M_sum_57 : decode b_M_sum 57 = .ok (.invokestatic 94, 3) := by decide +kernel
theorem d_M_sum_60 : decode b_M_sum 60 = .ok (.iload 9, 2) := by decide +kernel
theorem d_M_sum_62 : decode b_M_sum 62 = .ok (.invokestatic 94, 3) := by decide +kernel
theorem d_M_sum_65 : decode b_M_sum 65 = .ok (.lstore 6, 2) := by decide +kernel
theorem d_M_sum_67 : decode b_M_sum 67 = .ok (.iconst 0, 1) := by decide +kernel
theorem d_M_sum_68 : decode b_M_sum 68 = .ok (.istore 10, 2) := by decide +kernel
theorem d_M_sum_70 : decode b_M_sum 70 = .ok (.iload 10, 2) := by decide +kernel
theorem d_M_sum_72 : decode b_M_sum 72 = .ok (.iconst 4, 1) := by decide +kernel
theorem d_M_sum_73 : decode b_M_sum 73 = .ok (.if_icmp .ge 39, 3) := by decide +kernel
theorem d_M_sum_76 : decode b_M_sum 76 = .ok (.lload 6, 2) := by decide +kernel
theorem d_M_sum_78 : decode b_M_sum 78 = .ok (.aload_n 0, 1) := by decide +kernel
theorem d_M_sum_79 : decode b_M_sum 79 = .ok (.getfield 7, 3) := by decide +kernel
theorem d_M_sum_82 : decode b_M_sum 82 = .ok (.sipush 384, 3) := by decide +kernel
theorem d_M_sum_85 : decode b_M_sum 85 = .ok (.iload_n 1, 1) := by decide +kernel
theorem d_M_sum_86 : decode b_M_sum 86 = .ok (.imul, 1) := by decide +kernel
theorem d_M_sum_87 : decode b_M_sum 87 = .ok (.bipush 64, 2) := by decide +kernel
theorem d_M_sum_89 : decode b_M_sum 89 = .ok (.iload_n 2, 1) := by decide +kernel
theorem d_M_sum_90 : decode b_M_sum 90 = .ok (.imul, 1) := by decide +kernel
theorem d_M_sum_91 : decode b_M_sum 91 = .ok (.iadd, 1) := by decide +kernel
theorem d_M_sum_92 : decode b_M_sum 92 = .ok (.iconst 4, 1) := by decide +kernel
theorem d_M_sum_93 : decode b_M_sum 93 = .ok (.iload 9, 2) := by decide +kernel
theorem d_M_sum_95 : decode b_M_sum 95 = .ok (.imul, 1) := by decide +kernel
theorem d_M_sum_96 : decode b_M_sum 96 = .ok (.iadd, 1) := by decide +kernel
theorem d_M_sum_97 : decode b_M_sum 97 = .ok (.iload 10, 2) := by decide +kernel
theorem d_M_sum_99 : decode b_M_sum 99 = .ok (.iadd, 1) := by decide +kernel
theorem d_M_sum_100 : decode b_M_sum 100 = .ok (.iaload, 1) := by decide +kernel
theorem d_M_sum_101 : decode b_M_sum 101 = .ok (.invokestatic 94, 3) := by decide +kernel
theorem d_M_sum_104 : decode b_M_sum 104 = .ok (.lstore 6, 2) := by decide +kernel
theorem d_M_sum_106 : decode b_M_sum 106 = .ok (.iinc 10 1, 3) := by decide +kernel
theorem d_M_sum_109 : decode b_M_sum 109 = .ok (.goto (-39), 3) := by decide +kernel
theorem d_M_sum_112 : decode b_M_sum 112 = .ok (.iinc 8 1, 3) := by decide +kernel
theorem d_M_sum_115 : decode b_M_sum 115 = .ok (.goto (-81), 3) := by decide +kernel
theorem d_M_sum_118 : decode b_M_sum 118 = .ok (.lload 6, 2) := by decide +kernel
theorem d_M_sum_120 : decode b_M_sum 120 = .ok (.lreturn, 1) := by decide +kernel
theorem d_M_come_0 : decode b_M_come 0 = .ok (.aload_n 0, 1) := by decide +kernel
theorem d_M_come_1 : decode b_M_come 1 = .ok (.getfield 98, 3) := by decide +kernel
theorem d_M_come_4 : decode b_M_come 4 = .ok (.istore 4, 2) := by decide +kernel
theorem d_M_come_6 : decode b_M_come 6 = .ok (.aload_n 0, 1) := by decide +kernel
theorem d_M_come_7 : decode b_M_come 7 = .ok (.getfield 51, 3) := by decide +kernel
theorem d_M_come_10 : decode b_M_come 10 = .ok (.iload 4, 2) := by decide +kernel
theorem d_M_come_12 : decode b_M_come 12 = .ok (.iload_n 1, 1) := by decide +kernel
theorem d_M_come_13 : decode b_M_come 13 = .ok (.iastore, 1) := by decide +kernel
theorem d_M_come_14 : decode b_M_come 14 = .ok (.aload_n 0, 1) := by decide +kernel
theorem d_M_come_15 : decode b_M_come 15 = .ok (.getfield 54, 3) := by decide +kernel
theorem d_M_come_18 : decode b_M_come 18 = .ok (.iload 4, 2) := by decide +kernel
theorem d_M_come_20 : decode b_M_come 20 = .ok (.iload_n 2, 1) := by decide +kernel
theorem d_M_come_21 : decode b_M_come 21 = .ok (.iastore, 1) := by decide +kernel
theorem d_M_come_22 : decode b_M_come 22 = .ok (.aload_n 0, 1) := by decide +kernel
theorem d_M_come_23 : decode b_M_come 23 = .ok (.getfield 57, 3) := by decide +kernel
theorem d_M_come_26 : decode b_M_come 26 = .ok (.iload 4, 2) := by decide +kernel
theorem d_M_come_28 : decode b_M_come 28 = .ok (.iload_n 3, 1) := by decide +kernel
theorem d_M_come_29 : decode b_M_come 29 = .ok (.iastore, 1) := by decide +kernel
theorem d_M_come_30 : decode b_M_come 30 = .ok (.aload_n 0, 1) := by decide +kernel
theorem d_M_come_31 : decode b_M_come 31 = .ok (.aload_n 0, 1) := by decide +kernel
theorem d_M_come_32 : decode b_M_come 32 = .ok (.getfield 98, 3) := by decide +kernel
theorem d_M_come_35 : decode b_M_come 35 = .ok (.bipush 24, 2) := by decide +kernel
theorem d_M_come_37 : decode b_M_come 37 = .ok (.if_icmp .ge 12, 3) := by decide +kernel
theorem d_M_come_40 : decode b_M_come 40 = .ok (.aload_n 0, 1) := by decide +kernel
theorem d_M_come_41 : decode b_M_come 41 = .ok (.getfield 98, 3) := by decide +kernel
theorem d_M_come_44 : decode b_M_come 44 = .ok (.iconst 1, 1) := by decide +kernel
theorem d_M_come_45 : decode b_M_come 45 = .ok (.iadd, 1) := by decide +kernel
theorem d_M_come_46 : decode b_M_come 46 = .ok (.goto 5, 3) := by decide +kernel
theorem d_M_come_49 : decode b_M_come 49 = .ok (.bipush 24, 2) := by decide +kernel
theorem d_M_come_51 : decode b_M_come 51 = .ok (.putfield 98, 3) := by decide +kernel
theorem d_M_come_54 : decode b_M_come 54 = .ok (.iload 4, 2) := by decide +kernel
theorem d_M_come_56 : decode b_M_come 56 = .ok (.ireturn, 1) := by decide +kernel
theorem d_M_isLetter_0 : decode b_M_isLetter 0 = .ok (.iload_n 1, 1) := by decide +kernel
theorem d_M_isLetter_1 : decode b_M_isLetter 1 = .ok (.ifCond .lt 15, 3) := by decide +kernel
theorem d_M_isLetter_4 : decode b_M_isLetter 4 = .ok (.iload_n 1, 1) := by decide +kernel
theorem d_M_isLetter_5 : decode b_M_isLetter 5 = .ok (.aload_n 0, 1) := by decide +kernel
theorem d_M_isLetter_6 : decode b_M_isLetter 6 = .ok (.getfield 98, 3) := by decide +kernel
theorem d_M_isLetter_9 : decode b_M_isLetter 9 = .ok (.if_icmp .ge 7, 3) := by decide +kernel
theorem d_M_isLetter_12 : decode b_M_isLetter 12 = .ok (.iconst 1, 1) := by decide +kernel
theorem d_M_isLetter_13 : decode b_M_isLetter 13 = .ok (.goto 4, 3) := by decide +kernel
theorem d_M_isLetter_16 : decode b_M_isLetter 16 = .ok (.iconst 0, 1) := by decide +kernel
theorem d_M_isLetter_17 : decode b_M_isLetter 17 = .ok (.ireturn, 1) := by decide +kernel
theorem d_M_copyLetter_0 : decode b_M_copyLetter 0 = .ok (.aload_n 0, 1) := by decide +kernel
theorem d_M_copyLetter_1 : decode b_M_copyLetter 1 = .ok (.getfield 51, 3) := by decide +kernel
theorem d_M_copyLetter_4 : decode b_M_copyLetter 4 = .ok (.iload_n 2, 1) := by decide +kernel
theorem d_M_copyLetter_5 : decode b_M_copyLetter 5 = .ok (.aload_n 0, 1) := by decide +kernel
theorem d_M_copyLetter_6 : decode b_M_copyLetter 6 = .ok (.getfield 51, 3) := by decide +kernel
theorem d_M_copyLetter_9 : decode b_M_copyLetter 9 = .ok (.iload_n 1, 1) := by decide +kernel
theorem d_M_copyLetter_10 : decode b_M_copyLetter 10 = .ok (.iaload, 1) := by decide +kernel
theorem d_M_copyLetter_11 : decode b_M_copyLetter 11 = .ok (.iastore, 1) := by decide +kernel
theorem d_M_copyLetter_12 : decode b_M_copyLetter 12 = .ok (.aload_n 0, 1) := by decide +kernel
theorem d_M_copyLetter_13 : decode b_M_copyLetter 13 = .ok (.getfield 54, 3) := by decide +kernel
theorem d_M_copyLetter_16 : decode b_M_copyLetter 16 = .ok (.iload_n 2, 1) := by decide +kernel
theorem d_M_copyLetter_17 : decode b_M_copyLetter 17 = .ok (.aload_n 0, 1) := by decide +kernel
theorem d_M_copyLetter_18 : decode b_M_copyLetter 18 = .ok (.getfield 54, 3) := by decide +kernel
theorem d_M_copyLetter_21 : decode b_M_copyLetter 21 = .ok (.iload_n 1, 1) := by decide +kernel
theorem d_M_copyLetter_22 : decode b_M_copyLetter 22 = .ok (.iaload, 1) := by decide +kernel
theorem d_M_copyLetter_23 : decode b_M_copyLetter 23 = .ok (.iastore, 1) := by decide +kernel
theorem d_M_copyLetter_24 : decode b_M_copyLetter 24 = .ok (.aload_n 0, 1) := by decide +kernel
theorem d_M_copyLetter_25 : decode b_M_copyLetter 25 = .ok (.getfield 57, 3) := by decide +kernel
theorem d_M_copyLetter_28 : decode b_M_copyLetter 28 = .ok (.iload_n 2, 1) := by decide +kernel
theorem d_M_copyLetter_29 : decode b_M_copyLetter 29 = .ok (.aload_n 0, 1) := by decide +kernel
theorem d_M_copyLetter_30 : decode b_M_copyLetter 30 = .ok (.getfield 57, 3) := by decide +kernel
theorem d_M_copyLetter_33 : decode b_M_copyLetter 33 = .ok (.iload_n 1, 1) := by decide +kernel
theorem d_M_copyLetter_34 : decode b_M_copyLetter 34 = .ok (.iaload, 1) := by decide +kernel
theorem d_M_copyLetter_35 : decode b_M_copyLetter 35 = .ok (.iastore, 1) := by decide +kernel
theorem d_M_copyLetter_36 : decode b_M_copyLetter 36 = .ok (.aload_n 0, 1) := by decide +kernel
theorem d_M_copyLetter_37 : decode b_M_copyLetter 37 = .ok (.getfield 60, 3) := by decide +kernel
theorem d_M_copyLetter_40 : decode b_M_copyLetter 40 = .ok (.iload_n 2, 1) := by decide +kernel
theorem d_M_copyLetter_41 : decode b_M_copyLetter 41 = .ok (.aload_n 0, 1) := by decide +kernel
theorem d_M_copyLetter_42 : decode b_M_copyLetter 42 = .ok (.getfield 60, 3) := by decide +kernel
theorem d_M_copyLetter_45 : decode b_M_copyLetter 45 = .ok (.iload_n 1, 1) := by decide +kernel
theorem d_M_copyLetter_46 : decode b_M_copyLetter 46 = .ok (.laload, 1) := by decide +kernel
theorem d_M_copyLetter_47 : decode b_M_copyLetter 47 = .ok (.lastore, 1) := by decide +kernel
theorem d_M_copyLetter_48 : decode b_M_copyLetter 48 = .ok (.iconst 0, 1) := by decide +kernel
theorem d_M_copyLetter_49 : decode b_M_copyLetter 49 = .ok (.istore_n 3, 1) := by decide +kernel
theorem d_M_copyLetter_50 : decode b_M_copyLetter 50 = .ok (.iload_n 3, 1) := by decide +kernel
theorem d_M_copyLetter_51 : decode b_M_copyLetter 51 = .ok (.bipush 8, 2) := by decide +kernel
theorem d_M_copyLetter_53 : decode b_M_copyLetter 53 = .ok (.if_icmp .ge 31, 3) := by decide +kernel
end
section
theorem d_M_copyLetter_56 : decode b_M_copyLetter 56 = .ok (.aload_n 0, 1) := by decide +kernel
theorem d_M_copyLetter_57 : decode b_M_copyLetter 57 = .ok (.getfield 63, 3) := by decide +kernel
theorem d_M_copyLetter_60 : decode b_M_copyLetter 60 = .ok (.bipush 8, 2) := by decide +kernel
theorem d_M_copyLetter_62 : decode b_M_copyLetter 62 = .ok (.iload_n 2, 1) := by decide +kernel
theorem d_M_copyLetter_63 : decode b_M_copyLetter 63 = .ok (.imul, 1) := by decide +kernel
theorem d_M_copyLetter_64 : decode b_M_copyLetter 64 = .ok (.iload_n 3, 1) := by decide +kernel
theorem d_M_copyLetter_65 : decode b_M_copyLetter 65 = .ok (.iadd, 1) := by decide +kernel
theorem d_M_copyLetter_66 : decode b_M_copyLetter 66 = .ok (.aload_n 0, 1) := by decide +kernel
theorem d_M_copyLetter_67 : decode b_M_copyLetter 67 = .ok (.getfield 63, 3) := by decide +kernel
theorem d_M_copyLetter_70 : decode b_M_copyLetter 70 = .ok (.bipush 8, 2) := by decide +kernel
theorem d_M_copyLetter_72 : decode b_M_copyLetter 72 = .ok (.iload_n 1, 1) := by decide +kernel
theorem d_M_copyLetter_73 : decode b_M_copyLetter 73 = .ok (.imul, 1) := by decide +kernel
theorem d_M_copyLetter_74 : decode b_M_copyLetter 74 = .ok (.iload_n 3, 1) := by decide +kernel
theorem d_M_copyLetter_75 : decode b_M_copyLetter 75 = .ok (.iadd, 1) := by decide +kernel
theorem d_M_copyLetter_76 : decode b_M_copyLetter 76 = .ok (.iaload, 1) := by decide +kernel
theorem d_M_copyLetter_77 : decode b_M_copyLetter 77 = .ok (.iastore, 1) := by decide +kernel
theorem d_M_copyLetter_78 : decode b_M_copyLetter 78 = .ok (.iinc 3 1, 3) := by decide +kernel
theorem d_M_copyLetter_81 : decode b_M_copyLetter 81 = .ok (.goto (-31), 3) := by decide +kernel
theorem d_M_copyLetter_84 : decode b_M_copyLetter 84 = .ok (.return_, 1) := by decide +kernel
theorem d_M_leave_0 : decode b_M_leave 0 = .ok (.aload_n 0, 1) := by decide +kernel
theorem d_M_leave_1 : decode b_M_leave 1 = .ok (.iload_n 1, 1) := by decide +kernel
theorem d_M_leave_2 : decode b_M_leave 2 = .ok (.bipush 24, 2) := by decide +kernel
theorem d_M_leave_4 : decode b_M_leave 4 = .ok (.invokevirtual 101, 3) := by decide +kernel
theorem d_M_leave_7 : decode b_M_leave 7 = .ok (.iload_n 1, 1) := by decide +kernel
theorem d_M_leave_8 : decode b_M_leave 8 = .ok (.istore_n 2, 1) := by decide +kernel
theorem d_M_leave_9 : decode b_M_leave 9 = .ok (.iload_n 2, 1) := by decide +kernel
theorem d_M_leave_10 : decode b_M_leave 10 = .ok (.iconst 1, 1) := by decide +kernel
theorem d_M_leave_11 : decode b_M_leave 11 = .ok (.iadd, 1) := by decide +kernel
theorem d_M_leave_12 : decode b_M_leave 12 = .ok (.aload_n 0, 1) := by decide +kernel
theorem d_M_leave_13 : decode b_M_leave 13 = .ok (.getfield 98, 3) := by decide +kernel
theorem d_M_leave_16 : decode b_M_leave 16 = .ok (.if_icmp .ge 17, 3) := by decide +kernel
theorem d_M_leave_19 : decode b_M_leave 19 = .ok (.aload_n 0, 1) := by decide +kernel
theorem d_M_leave_20 : decode b_M_leave 20 = .ok (.iload_n 2, 1) := by decide +kernel
theorem d_M_leave_21 : decode b_M_leave 21 = .ok (.iconst 1, 1) := by decide +kernel
theorem d_M_leave_22 : decode b_M_leave 22 = .ok (.iadd, 1) := by decide +kernel
theorem d_M_leave_23 : decode b_M_leave 23 = .ok (.iload_n 2, 1) := by decide +kernel
theorem d_M_leave_24 : decode b_M_leave 24 = .ok (.invokevirtual 101, 3) := by decide +kernel
theorem d_M_leave_27 : decode b_M_leave 27 = .ok (.iinc 2 1, 3) := by decide +kernel
theorem d_M_leave_30 : decode b_M_leave 30 = .ok (.goto (-21), 3) := by decide +kernel
theorem d_M_leave_33 : decode b_M_leave 33 = .ok (.aload_n 0, 1) := by decide +kernel
theorem d_M_leave_34 : decode b_M_leave 34 = .ok (.dup, 1) := by decide +kernel
theorem d_M_leave_35 : decode b_M_leave 35 = .ok (.getfield 98, 3) := by decide +kernel
theorem d_M_leave_38 : decode b_M_leave 38 = .ok (.iconst 1, 1) := by decide +kernel
theorem d_M_leave_39 : decode b_M_leave 39 = .ok (.isub, 1) := by decide +kernel
theorem d_M_leave_40 : decode b_M_leave 40 = .ok (.putfield 98, 3) := by decide +kernel
theorem d_M_leave_43 : decode b_M_leave 43 = .ok (.return_, 1) := by decide +kernel
theorem d_M_lose_0 : decode b_M_lose 0 = .ok (.aload_n 0, 1) := by decide +kernel
theorem d_M_lose_1 : decode b_M_lose 1 = .ok (.iload_n 1, 1) := by decide +kernel
theorem d_M_lose_2 : decode b_M_lose 2 = .ok (.invokevirtual 105, 3) := by decide +kernel
theorem d_M_lose_5 : decode b_M_lose 5 = .ok (.ifCond .ne 5, 3) := by decide +kernel
theorem d_M_lose_8 : decode b_M_lose 8 = .ok (.iconst (-1), 1) := by decide +kernel
theorem d_M_lose_9 : decode b_M_lose 9 = .ok (.ireturn, 1) := by decide +kernel
theorem d_M_lose_10 : decode b_M_lose 10 = .ok (.aload_n 0, 1) := by decide +kernel
theorem d_M_lose_11 : decode b_M_lose 11 = .ok (.getfield 51, 3) := by decide +kernel
theorem d_M_lose_14 : decode b_M_lose 14 = .ok (.iload_n 1, 1) := by decide +kernel
theorem d_M_lose_15 : decode b_M_lose 15 = .ok (.iaload, 1) := by decide +kernel
theorem d_M_lose_16 : decode b_M_lose 16 = .ok (.istore_n 2, 1) := by decide +kernel
theorem d_M_lose_17 : decode b_M_lose 17 = .ok (.aload_n 0, 1) := by decide +kernel
theorem d_M_lose_18 : decode b_M_lose 18 = .ok (.iload_n 1, 1) := by decide +kernel
theorem d_M_lose_19 : decode b_M_lose 19 = .ok (.invokevirtual 108, 3) := by decide +kernel
theorem d_M_lose_22 : decode b_M_lose 22 = .ok (.iload_n 2, 1) := by decide +kernel
theorem d_M_lose_23 : decode b_M_lose 23 = .ok (.ireturn, 1) := by decide +kernel
theorem d_M_twice_0 : decode b_M_twice 0 = .ok (.aload_n 0, 1) := by decide +kernel
theorem d_M_twice_1 : decode b_M_twice 1 = .ok (.iload_n 1, 1) := by decide +kernel
theorem d_M_twice_2 : decode b_M_twice 2 = .ok (.invokevirtual 105, 3) := by decide +kernel
theorem d_M_twice_5 : decode b_M_twice 5 = .ok (.ifCond .ne 5, 3) := by decide +kernel
theorem d_M_twice_8 : decode b_M_twice 8 = .ok (.iconst (-1), 1) := by decide +kernel
theorem d_M_twice_9 : decode b_M_twice 9 = .ok (.ireturn, 1) := by decide +kernel
theorem d_M_twice_10 : decode b_M_twice 10 = .ok (.aload_n 0, 1) := by decide +kernel
theorem d_M_twice_11 : decode b_M_twice 11 = .ok (.getfield 98, 3) := by decide +kernel
theorem d_M_twice_14 : decode b_M_twice 14 = .ok (.bipush 24, 2) := by decide +kernel
theorem d_M_twice_16 : decode b_M_twice 16 = .ok (.if_icmp .ne 6, 3) := by decide +kernel
theorem d_M_twice_19 : decode b_M_twice 19 = .ok (.bipush (-3), 2) := by decide +kernel
theorem d_M_twice_21 : decode b_M_twice 21 = .ok (.ireturn, 1) := by decide +kernel
theorem d_M_twice_22 : decode b_M_twice 22 = .ok (.aload_n 0, 1) := by decide +kernel
theorem d_M_twice_23 : decode b_M_twice 23 = .ok (.iload_n 1, 1) := by decide +kernel
theorem d_M_twice_24 : decode b_M_twice 24 = .ok (.aload_n 0, 1) := by decide +kernel
theorem d_M_twice_25 : decode b_M_twice 25 = .ok (.getfield 98, 3) := by decide +kernel
theorem d_M_twice_28 : decode b_M_twice 28 = .ok (.invokevirtual 101, 3) := by decide +kernel
theorem d_M_twice_31 : decode b_M_twice 31 = .ok (.aload_n 0, 1) := by decide +kernel
theorem d_M_twice_32 : decode b_M_twice 32 = .ok (.dup, 1) := by decide +kernel
theorem d_M_twice_33 : decode b_M_twice 33 = .ok (.getfield 98, 3) := by decide +kernel
theorem d_M_twice_36 : decode b_M_twice 36 = .ok (.iconst 1, 1) := by decide +kernel
theorem d_M_twice_37 : decode b_M_twice 37 = .ok (.iadd, 1) := by decide +kernel
theorem d_M_twice_38 : decode b_M_twice 38 = .ok (.putfield 98, 3) := by decide +kernel
theorem d_M_twice_41 : decode b_M_twice 41 = .ok (.aload_n 0, 1) := by decide +kernel
theorem d_M_twice_42 : decode b_M_twice 42 = .ok (.getfield 98, 3) := by decide +kernel
theorem d_M_twice_45 : decode b_M_twice 45 = .ok (.ireturn, 1) := by decide +kernel
theorem d_M_letters_0 : decode b_M_letters 0 = .ok (.aload_n 0, 1) := by decide +kernel
theorem d_M_letters_1 : decode b_M_letters 1 = .ok (.getfield 98, 3) := by decide +kernel
theorem d_M_letters_4 : decode b_M_letters 4 = .ok (.ireturn, 1) := by decide +kernel
theorem d_M_letter_0 : decode b_M_letter 0 = .ok (.aload_n 0, 1) := by decide +kernel
theorem d_M_letter_1 : decode b_M_letter 1 = .ok (.iload_n 1, 1) := by decide +kernel
theorem d_M_letter_2 : decode b_M_letter 2 = .ok (.invokevirtual 105, 3) := by decide +kernel
theorem d_M_letter_5 : decode b_M_letter 5 = .ok (.ifCond .eq 12, 3) := by decide +kernel
theorem d_M_letter_8 : decode b_M_letter 8 = .ok (.iload_n 2, 1) := by decide +kernel
theorem d_M_letter_9 : decode b_M_letter 9 = .ok (.ifCond .lt 8, 3) := by decide +kernel
theorem d_M_letter_12 : decode b_M_letter 12 = .ok (.iload_n 2, 1) := by decide +kernel
theorem d_M_letter_13 : decode b_M_letter 13 = .ok (.iconst 2, 1) := by decide +kernel
theorem d_M_letter_14 : decode b_M_letter 14 = .ok (.if_icmp .le 5, 3) := by decide +kernel
theorem d_M_letter_17 : decode b_M_letter 17 = .ok (.iconst (-1), 1) := by decide +kernel
theorem d_M_letter_18 : decode b_M_letter 18 = .ok (.ireturn, 1) := by decide +kernel
theorem d_M_letter_19 : decode b_M_letter 19 = .ok (.iload_n 2, 1) := by decide +kernel
theorem d_M_letter_20 : decode b_M_letter 20 = .ok (.ifCond .ne 12, 3) := by decide +kernel
theorem d_M_letter_23 : decode b_M_letter 23 = .ok (.aload_n 0, 1) := by decide +kernel
theorem d_M_letter_24 : decode b_M_letter 24 = .ok (.getfield 51, 3) := by decide +kernel
theorem d_M_letter_27 : decode b_M_letter 27 = .ok (.iload_n 1, 1) := by decide +kernel
theorem d_M_letter_28 : decode b_M_letter 28 = .ok (.iaload, 1) := by decide +kernel
theorem d_M_letter_29 : decode b_M_letter 29 = .ok (.goto 23, 3) := by decide +kernel
theorem d_M_letter_32 : decode b_M_letter 32 = .ok (.iload_n 2, 1) := by decide +kernel
theorem d_M_letter_33 : decode b_M_letter 33 = .ok (.iconst 1, 1) := by decide +kernel
theorem d_M_letter_34 : decode b_M_letter 34 = .ok (.if_icmp .ne 12, 3) := by decide +kernel
theorem d_M_letter_37 : decode b_M_letter 37 = .ok (.aload_n 0, 1) := by decide +kernel
theorem d_M_letter_38 : decode b_M_letter 38 = .ok (.getfield 54, 3) := by decide +kernel
theorem d_M_letter_41 : decode b_M_letter 41 = .ok (.iload_n 1, 1) := by decide +kernel
theorem d_M_letter_42 : decode b_M_letter 42 = .ok (.iaload, 1) := by decide +kernel
theorem d_M_letter_43 : decode b_M_letter 43 = .ok (.goto 9, 3) := by decide +kernel
theorem d_M_letter_46 : decode b_M_letter 46 = .ok (.aload_n 0, 1) := by decide +kernel
theorem d_M_letter_47 : decode b_M_letter 47 = .ok (.getfield 57, 3) := by decide +kernel
theorem d_M_letter_50 : decode b_M_letter 50 = .ok (.iload_n 1, 1) := by decide +kernel
theorem d_M_letter_51 : decode b_M_letter 51 = .ok (.iaload, 1) := by decide +kernel
theorem d_M_letter_52 : decode b_M_letter 52 = .ok (.ireturn, 1) := by decide +kernel
theorem d_M_placeOf_0 : decode b_M_placeOf 0 = .ok (.iconst (-1), 1) := by decide +kernel
theorem d_M_placeOf_1 : decode b_M_placeOf 1 = .ok (.istore_n 2, 1) := by decide +kernel
theorem d_M_placeOf_2 : decode b_M_placeOf 2 = .ok (.iconst 0, 1) := by decide +kernel
theorem d_M_placeOf_3 : decode b_M_placeOf 3 = .ok (.istore_n 3, 1) := by decide +kernel
theorem d_M_placeOf_4 : decode b_M_placeOf 4 = .ok (.iload_n 3, 1) := by decide +kernel
theorem d_M_placeOf_5 : decode b_M_placeOf 5 = .ok (.bipush 6, 2) := by decide +kernel
theorem d_M_placeOf_7 : decode b_M_placeOf 7 = .ok (.if_icmp .ge 29, 3) := by decide +kernel
theorem d_M_placeOf_10 : decode b_M_placeOf 10 = .ok (.iload_n 1, 1) := by decide +kernel
theorem d_M_placeOf_11 : decode b_M_placeOf 11 = .ok (.ifCond .le 17, 3) := by decide +kernel
theorem d_M_placeOf_14 : decode b_M_placeOf 14 = .ok (.aload_n 0, 1) := by decide +kernel
theorem d_M_placeOf_15 : decode b_M_placeOf 15 = .ok (.getfield 23, 3) := by decide +kernel
theorem d_M_placeOf_18 : decode b_M_placeOf 18 = .ok (.iload_n 3, 1) := by decide +kernel
theorem d_M_placeOf_19 : decode b_M_placeOf 19 = .ok (.iaload, 1) := by decide +kernel
theorem d_M_placeOf_20 : decode b_M_placeOf 20 = .ok (.iload_n 1, 1) := by decide +kernel
theorem d_M_placeOf_21 : decode b_M_placeOf 21 = .ok (.if_icmp .ne 7, 3) := by decide +kernel
theorem d_M_placeOf_24 : decode b_M_placeOf 24 = .ok (.iload_n 3, 1) := by decide +kernel
theorem d_M_placeOf_25 : decode b_M_placeOf 25 = .ok (.goto 4, 3) := by decide +kernel
theorem d_M_placeOf_28 : decode b_M_placeOf 28 = .ok (.iload_n 2, 1) := by decide +kernel
theorem d_M_placeOf_29 : decode b_M_placeOf 29 = .ok (.istore_n 2, 1) := by decide +kernel
theorem d_M_placeOf_30 : decode b_M_placeOf 30 = .ok (.iinc 3 1, 3) := by decide +kernel
theorem d_M_placeOf_33 : decode b_M_placeOf 33 = .ok (.goto (-29), 3) := by decide +kernel
theorem d_M_placeOf_36 : decode b_M_placeOf 36 = .ok (.iload_n 2, 1) := by decide +kernel
theorem d_M_placeOf_37 : decode b_M_placeOf 37 = .ok (.ireturn, 1) := by decide +kernel
theorem d_M_poll_0 : decode b_M_poll 0 = .ok (.iload_n 1, 1) := by decide +kernel
theorem d_M_poll_1 : decode b_M_poll 1 = .ok (.ifCond .lt 18, 3) := by decide +kernel
theorem d_M_poll_4 : decode b_M_poll 4 = .ok (.iload_n 1, 1) := by decide +kernel
theorem d_M_poll_5 : decode b_M_poll 5 = .ok (.iconst 5, 1) := by decide +kernel
theorem d_M_poll_6 : decode b_M_poll 6 = .ok (.if_icmp .gt 13, 3) := by decide +kernel
theorem d_M_poll_9 : decode b_M_poll 9 = .ok (.iload_n 2, 1) := by decide +kernel
theorem d_M_poll_10 : decode b_M_poll 10 = .ok (.ifCond .lt 9, 3) := by decide +kernel
theorem d_M_poll_13 : decode b_M_poll 13 = .ok (.iload_n 2, 1) := by decide +kernel
theorem d_M_poll_14 : decode b_M_poll 14 = .ok (.bipush 7, 2) := by decide +kernel
theorem d_M_poll_16 : decode b_M_poll 16 = .ok (.if_icmp .le 5, 3) := by decide +kernel
theorem d_M_poll_19 : decode b_M_poll 19 = .ok (.iconst (-1), 1) := by decide +kernel
theorem d_M_poll_20 : decode b_M_poll 20 = .ok (.ireturn, 1) := by decide +kernel
theorem d_M_poll_21 : decode b_M_poll 21 = .ok (.aload_n 0, 1) := by decide +kernel
theorem d_M_poll_22 : decode b_M_poll 22 = .ok (.iload_n 1, 1) := by decide +kernel
theorem d_M_poll_23 : decode b_M_poll 23 = .ok (.iload_n 2, 1) := by decide +kernel
theorem d_M_poll_24 : decode b_M_poll 24 = .ok (.invokevirtual 90, 3) := by decide +kernel
theorem d_M_poll_27 : decode b_M_poll 27 = .ok (.ifCond .ne 6, 3) := by decide +kernel
theorem d_M_poll_30 : decode b_M_poll 30 = .ok (.bipush (-2), 2) := by decide +kernel
theorem d_M_poll_32 : decode b_M_poll 32 = .ok (.ireturn, 1) := by decide +kernel
theorem d_M_poll_33 : decode b_M_poll 33 = .ok (.iconst (-1), 1) := by decide +kernel
theorem d_M_poll_34 : decode b_M_poll 34 = .ok (.istore 5, 2) := by decide +kernel
theorem d_M_poll_36 : decode b_M_poll 36 = .ok (.iconst 5, 1) := by decide +kernel
theorem d_M_poll_37 : decode b_M_poll 37 = .ok (.istore 6, 2) := by decide +kernel
theorem d_M_poll_39 : decode b_M_poll 39 = .ok (.iload 6, 2) := by decide +kernel
theorem d_M_poll_41 : decode b_M_poll 41 = .ok (.ifCond .lt 28, 3) := by decide +kernel
theorem d_M_poll_44 : decode b_M_poll 44 = .ok (.aload_n 0, 1) := by decide +kernel
theorem d_M_poll_45 : decode b_M_poll 45 = .ok (.getfield 23, 3) := by decide +kernel
theorem d_M_poll_48 : decode b_M_poll 48 = .ok (.iload 6, 2) := by decide +kernel
theorem d_M_poll_50 : decode b_M_poll 50 = .ok (.iaload, 1) := by decide +kernel
theorem d_M_poll_51 : decode b_M_poll 51 = .ok (.ifCond .ne 8, 3) := by decide +kernel
theorem d_M_poll_54 : decode b_M_poll 54 = .ok (.iload 6, 2) := by decide +kernel
theorem d_M_poll_56 : decode b_M_poll 56 = .ok (.goto 5, 3) := by decide +kernel
theorem d_M_poll_59 : decode b_M_poll 59 = .ok (.iload 5, 2) := by decide +kernel
theorem d_M_poll_61 : decode b_M_poll 61 = .ok (.istore 5, 2) := by decide +kernel
theorem d_M_poll_63 : decode b_M_poll 63 = .ok (.iinc 6 (-1), 3) := by decide +kernel
theorem d_M_poll_66 : decode b_M_poll 66 = .ok (.goto (-27), 3) := by decide +kernel
theorem d_M_poll_69 : decode b_M_poll 69 = .ok (.iload 5, 2) := by decide +kernel
theorem d_M_poll_71 : decode b_M_poll 71 = .ok (.ifCond .ge 6, 3) := by decide +kernel
theorem d_M_poll_74 : decode b_M_poll 74 = .ok (.bipush (-3), 2) := by decide +kernel
theorem d_M_poll_76 : decode b_M_poll 76 = .ok (.ireturn, 1) := by decide +kernel
theorem d_M_poll_77 : decode b_M_poll 77 = .ok (.aload_n 0, 1) := by decide +kernel
theorem d_M_poll_78 : decode b_M_poll 78 = .ok (.dup, 1) := by decide +kernel
theorem d_M_poll_79 : decode b_M_poll 79 = .ok (.getfield 112, 3) := by decide +kernel
theorem d_M_poll_82 : decode b_M_poll 82 = .ok (.iconst 1, 1) := by decide +kernel
theorem d_M_poll_83 : decode b_M_poll 83 = .ok (.iadd, 1) := by decide +kernel
theorem d_M_poll_84 : decode b_M_poll 84 = .ok (.putfield 112, 3) := by decide +kernel
theorem d_M_poll_87 : decode b_M_poll 87 = .ok (.aload_n 0, 1) := by decide +kernel
theorem d_M_poll_88 : decode b_M_poll 88 = .ok (.getfield 23, 3) := by decide +kernel
theorem d_M_poll_91 : decode b_M_poll 91 = .ok (.iload 5, 2) := by decide +kernel
theorem d_M_poll_93 : decode b_M_poll 93 = .ok (.aload_n 0, 1) := by decide +kernel
theorem d_M_poll_94 : decode b_M_poll 94 = .ok (.getfield 112, 3) := by decide +kernel
theorem d_M_poll_97 : decode b_M_poll 97 = .ok (.iastore, 1) := by decide +kernel
theorem d_M_poll_98 : decode b_M_poll 98 = .ok (.aload_n 0, 1) := by decide +kernel
theorem d_M_poll_99 : decode b_M_poll 99 = .ok (.getfield 26, 3) := by decide +kernel
theorem d_M_poll_102 : decode b_M_poll 102 = .ok (.iload 5, 2) := by decide +kernel
theorem d_M_poll_104 : decode b_M_poll 104 = .ok (.iload_n 1, 1) := by decide +kernel
theorem d_M_poll_105 : decode b_M_poll 105 = .ok (.iastore, 1) := by decide +kernel
theorem d_M_poll_106 : decode b_M_poll 106 = .ok (.aload_n 0, 1) := by decide +kernel
theorem d_M_poll_107 : decode b_M_poll 107 = .ok (.getfield 29, 3) := by decide +kernel
theorem d_M_poll_110 : decode b_M_poll 110 = .ok (.iload 5, 2) := by decide +kernel
theorem d_M_poll_112 : decode b_M_poll 112 = .ok (.iload_n 2, 1) := by decide +kernel
theorem d_M_poll_113 : decode b_M_poll 113 = .ok (.iastore, 1) := by decide +kernel
theorem d_M_poll_114 : decode b_M_poll 114 = .ok (.aload_n 0, 1) := by decide +kernel
theorem d_M_poll_115 : decode b_M_poll 115 = .ok (.getfield 32, 3) := by decide +kernel
theorem d_M_poll_118 : decode b_M_poll 118 = .ok (.iload 5, 2) := by decide +kernel
theorem d_M_poll_120 : decode b_M_poll 120 = .ok (.lload_n 3, 1) := by decide +kernel
theorem d_M_poll_121 : decode b_M_poll 121 = .ok (.lastore, 1) := by decide +kernel
theorem d_M_poll_122 : decode b_M_poll 122 = .ok (.aload_n 0, 1) := by decide +kernel
theorem d_M_poll_123 : decode b_M_poll 123 = .ok (.getfield 36, 3) := by decide +kernel
theorem d_M_poll_126 : decode b_M_poll 126 = .ok (.iload 5, 2) := by decide +kernel
theorem d_M_poll_128 : decode b_M_poll 128 = .ok (.aload_n 0, 1) := by decide +kernel
theorem d_M_poll_129 : decode b_M_poll 129 = .ok (.getfield 66, 3) := by decide +kernel
theorem d_M_poll_132 : decode b_M_poll 132 = .ok (.iastore, 1) := by decide +kernel
theorem d_M_poll_133 : decode b_M_poll 133 = .ok (.aload_n 0, 1) := by decide +kernel
theorem d_M_poll_134 : decode b_M_poll 134 = .ok (.getfield 39, 3) := by decide +kernel
theorem d_M_poll_137 : decode b_M_poll 137 = .ok (.iload 5, 2) := by decide +kernel
theorem d_M_poll_139 : decode b_M_poll 139 = .ok (.iconst 0, 1) := by decide +kernel
theorem d_M_poll_140 : decode b_M_poll 140 = .ok (.iastore, 1) := by decide +kernel
theorem d_M_poll_141 : decode b_M_poll 141 = .ok (.aload_n 0, 1) := by decide +kernel
theorem d_M_poll_142 : decode b_M_poll 142 = .ok (.getfield 42, 3) := by decide +kernel
theorem d_M_poll_145 : decode b_M_poll 145 = .ok (.iload 5, 2) := by decide +kernel
theorem d_M_poll_147 : decode b_M_poll 147 = .ok (.iconst 0, 1) := by decide +kernel
theorem d_M_poll_148 : decode b_M_poll 148 = .ok (.iastore, 1) := by decide +kernel
theorem d_M_poll_149 : decode b_M_poll 149 = .ok (.aload_n 0, 1) := by decide +kernel
theorem d_M_poll_150 : decode b_M_poll 150 = .ok (.getfield 20, 3) := by decide +kernel
theorem d_M_poll_153 : decode b_M_poll 153 = .ok (.aload_n 0, 1) := by decide +kernel
theorem d_M_poll_154 : decode b_M_poll 154 = .ok (.getfield 112, 3) := by decide +kernel
theorem d_M_poll_157 : decode b_M_poll 157 = .ok (.iconst 0, 1) := by decide +kernel
theorem d_M_poll_158 : decode b_M_poll 158 = .ok (.iastore, 1) := by decide +kernel
theorem d_M_poll_159 : decode b_M_poll 159 = .ok (.iconst 0, 1) := by decide +kernel
theorem d_M_poll_160 : decode b_M_poll 160 = .ok (.istore 6, 2) := by decide +kernel
theorem d_M_poll_162 : decode b_M_poll 162 = .ok (.iload 6, 2) := by decide +kernel
theorem d_M_poll_164 : decode b_M_poll 164 = .ok (.iconst 3, 1) := by decide +kernel
theorem d_M_poll_165 : decode b_M_poll 165 = .ok (.if_icmp .ge 21, 3) := by decide +kernel
theorem d_M_poll_168 : decode b_M_poll 168 = .ok (.aload_n 0, 1) := by decide +kernel
theorem d_M_poll_169 : decode b_M_poll 169 = .ok (.iconst 1, 1) := by decide +kernel
theorem d_M_poll_170 : decode b_M_poll 170 = .ok (.aload_n 0, 1) := by decide +kernel
theorem d_M_poll_171 : decode b_M_poll 171 = .ok (.getfield 112, 3) := by decide +kernel
theorem d_M_poll_174 : decode b_M_poll 174 = .ok (.iload 6, 2) := by decide +kernel
theorem d_M_poll_176 : decode b_M_poll 176 = .ok (.invokevirtual 115, 3) := by decide +kernel
theorem d_M_poll_179 : decode b_M_poll 179 = .ok (.pop, 1) := by decide +kernel
theorem d_M_poll_180 : decode b_M_poll 180 = .ok (.iinc 6 1, 3) := by decide +kernel
theorem d_M_poll_183 : decode b_M_poll 183 = .ok (.goto (-21), 3) := by decide +kernel
theorem d_M_poll_186 : decode b_M_poll 186 = .ok (.aload_n 0, 1) := by decide +kernel
theorem d_M_poll_187 : decode b_M_poll 187 = .ok (.getfield 112, 3) := by decide +kernel
theorem d_M_poll_190 : decode b_M_poll 190 = .ok (.ireturn, 1) := by decide +kernel
theorem d_M_again_0 : decode b_M_again 0 = .ok (.iload_n 1, 1) := by decide +kernel
theorem d_M_again_1 : decode b_M_again 1 = .ok (.iconst 1, 1) := by decide +kernel
theorem d_M_again_2 : decode b_M_again 2 = .ok (.if_icmp .lt 11, 3) := by decide +kernel
theorem d_M_again_5 : decode b_M_again 5 = .ok (.iload_n 1, 1) := by decide +kernel
theorem d_M_again_6 : decode b_M_again 6 = .ok (.aload_n 0, 1) := by decide +kernel
theorem d_M_again_7 : decode b_M_again 7 = .ok (.getfield 112, 3) := by decide +kernel
theorem d_M_again_10 : decode b_M_again 10 = .ok (.if_icmp .le 5, 3) := by decide +kernel
theorem d_M_again_13 : decode b_M_again 13 = .ok (.iconst (-1), 1) := by decide +kernel
theorem d_M_again_14 : decode b_M_again 14 = .ok (.ireturn, 1) := by decide +kernel
theorem d_M_again_15 : decode b_M_again 15 = .ok (.aload_n 0, 1) := by decide +kernel
theorem d_M_again_16 : decode b_M_again 16 = .ok (.iload_n 1, 1) := by decide +kernel
theorem d_M_again_17 : decode b_M_again 17 = .ok (.invokevirtual 119, 3) := by decide +kernel
theorem d_M_again_20 : decode b_M_again 20 = .ok (.istore_n 2, 1) := by decide +kernel
theorem d_M_again_21 : decode b_M_again 21 = .ok (.iload_n 2, 1) := by decide +kernel
theorem d_M_again_22 : decode b_M_again 22 = .ok (.ifCond .ge 6, 3) := by decide +kernel
theorem d_M_again_25 : decode b_M_again 25 = .ok (.bipush (-2), 2) := by decide +kernel
theorem d_M_again_27 : decode b_M_again 27 = .ok (.ireturn, 1) := by decide +kernel
theorem d_M_again_28 : decode b_M_again 28 = .ok (.aload_n 0, 1) := by decide +kernel
theorem d_M_again_29 : decode b_M_again 29 = .ok (.getfield 39, 3) := by decide +kernel
theorem d_M_again_32 : decode b_M_again 32 = .ok (.iload_n 2, 1) := by decide +kernel
theorem d_M_again_33 : decode b_M_again 33 = .ok (.iaload, 1) := by decide +kernel
theorem d_M_again_34 : decode b_M_again 34 = .ok (.bipush 7, 2) := by decide +kernel
theorem d_M_again_36 : decode b_M_again 36 = .ok (.if_icmp .ne 7, 3) := by decide +kernel
theorem d_M_again_39 : decode b_M_again 39 = .ok (.iconst 3, 1) := by decide +kernel
theorem d_M_again_40 : decode b_M_again 40 = .ok (.goto 4, 3) := by decide +kernel
theorem d_M_again_43 : decode b_M_again 43 = .ok (.iconst 1, 1) := by decide +kernel
theorem d_M_again_44 : decode b_M_again 44 = .ok (.istore_n 3, 1) := by decide +kernel
theorem d_M_again_45 : decode b_M_again 45 = .ok (.aload_n 0, 1) := by decide +kernel
theorem d_M_again_46 : decode b_M_again 46 = .ok (.getfield 39, 3) := by decide +kernel
theorem d_M_again_49 : decode b_M_again 49 = .ok (.iload_n 2, 1) := by decide +kernel
theorem d_M_again_50 : decode b_M_again 50 = .ok (.iaload, 1) := by decide +kernel
theorem d_M_again_51 : decode b_M_again 51 = .ok (.bipush 7, 2) := by decide +kernel
theorem d_M_again_53 : decode b_M_again 53 = .ok (.if_icmp .ne 12, 3) := by decide +kernel
theorem d_M_again_56 : decode b_M_again 56 = .ok (.aload_n 0, 1) := by decide +kernel
theorem d_M_again_57 : decode b_M_again 57 = .ok (.getfield 42, 3) := by decide +kernel
theorem d_M_again_60 : decode b_M_again 60 = .ok (.iload_n 2, 1) := by decide +kernel
theorem d_M_again_61 : decode b_M_again 61 = .ok (.iaload, 1) := by decide +kernel
theorem d_M_again_62 : decode b_M_again 62 = .ok (.goto 9, 3) := by decide +kernel
theorem d_M_again_65 : decode b_M_again 65 = .ok (.aload_n 0, 1) := by decide +kernel
theorem d_M_again_66 : decode b_M_again 66 = .ok (.getfield 39, 3) := by decide +kernel
theorem d_M_again_69 : decode b_M_again 69 = .ok (.iload_n 2, 1) := by decide +kernel
theorem d_M_again_70 : decode b_M_again 70 = .ok (.iaload, 1) := by decide +kernel
theorem d_M_again_71 : decode b_M_again 71 = .ok (.istore 4, 2) := by decide +kernel
theorem d_M_again_73 : decode b_M_again 73 = .ok (.iconst 0, 1) := by decide +kernel
theorem d_M_again_74 : decode b_M_again 74 = .ok (.istore 5, 2) := by decide +kernel
theorem d_M_again_76 : decode b_M_again 76 = .ok (.iconst 0, 1) := by decide +kernel
theorem d_M_again_77 : decode b_M_again 77 = .ok (.istore 6, 2) := by decide +kernel
theorem d_M_again_79 : decode b_M_again 79 = .ok (.iload 6, 2) := by decide +kernel
theorem d_M_again_81 : decode b_M_again 81 = .ok (.iconst 3, 1) := by decide +kernel
theorem d_M_again_82 : decode b_M_again 82 = .ok (.if_icmp .ge 31, 3) := by decide +kernel
theorem d_M_again_85 : decode b_M_again 85 = .ok (.iload 4, 2) := by decide +kernel
theorem d_M_again_87 : decode b_M_again 87 = .ok (.iload 6, 2) := by decide +kernel
theorem d_M_again_89 : decode b_M_again 89 = .ok (.ishr, 1) := by decide +kernel
theorem d_M_again_90 : decode b_M_again 90 = .ok (.iconst 1, 1) := by decide +kernel
theorem d_M_again_91 : decode b_M_again 91 = .ok (.iand, 1) := by decide +kernel
theorem d_M_again_92 : decode b_M_again 92 = .ok (.ifCond .ne 15, 3) := by decide +kernel
theorem d_M_again_95 : decode b_M_again 95 = .ok (.aload_n 0, 1) := by decide +kernel
theorem d_M_again_96 : decode b_M_again 96 = .ok (.iload_n 3, 1) := by decide +kernel
theorem d_M_again_97 : decode b_M_again 97 = .ok (.iload_n 1, 1) := by decide +kernel
theorem d_M_again_98 : decode b_M_again 98 = .ok (.iload 6, 2) := by decide +kernel
theorem d_M_again_100 : decode b_M_again 100 = .ok (.invokevirtual 115, 3) := by decide +kernel
theorem d_M_again_103 : decode b_M_again 103 = .ok (.pop, 1) := by decide +kernel
theorem d_M_again_104 : decode b_M_again 104 = .ok (.iinc 5 1, 3) := by decide +kernel
theorem d_M_again_107 : decode b_M_again 107 = .ok (.iinc 6 1, 3) := by decide +kernel
theorem d_M_again_110 : decode b_M_again 110 = .ok (.goto (-31), 3) := by decide +kernel
theorem d_M_again_113 : decode b_M_again 113 = .ok (.iload 5, 2) := by decide +kernel
theorem d_M_again_115 : decode b_M_again 115 = .ok (.ireturn, 1) := by decide +kernel
theorem d_M_count_0 : decode b_M_count 0 = .ok (.iconst 0, 1) := by decide +kernel
theorem d_M_count_1 : decode b_M_count 1 = .ok (.istore_n 2, 1) := by decide +kernel
theorem d_M_count_2 : decode b_M_count 2 = .ok (.iconst 0, 1) := by decide +kernel
theorem d_M_count_3 : decode b_M_count 3 = .ok (.istore_n 3, 1) := by decide +kernel
theorem d_M_count_4 : decode b_M_count 4 = .ok (.iload_n 3, 1) := by decide +kernel
theorem d_M_count_5 : decode b_M_count 5 = .ok (.bipush 48, 2) := by decide +kernel
theorem d_M_count_7 : decode b_M_count 7 = .ok (.if_icmp .ge 45, 3) := by decide +kernel
theorem d_M_count_10 : decode b_M_count 10 = .ok (.iload_n 2, 1) := by decide +kernel
theorem d_M_count_11 : decode b_M_count 11 = .ok (.aload_n 0, 1) := by decide +kernel
theorem d_M_count_12 : decode b_M_count 12 = .ok (.iload_n 3, 1) := by decide +kernel
theorem d_M_count_13 : decode b_M_count 13 = .ok (.bipush 8, 2) := by decide +kernel
theorem d_M_count_15 : decode b_M_count 15 = .ok (.idiv, 1) := by decide +kernel
theorem d_M_count_16 : decode b_M_count 16 = .ok (.iload_n 3, 1) := by decide +kernel
theorem d_M_count_17 : decode b_M_count 17 = .ok (.bipush 8, 2) := by decide +kernel
theorem d_M_count_19 : decode b_M_count 19 = .ok (.irem, 1) := by decide +kernel
theorem d_M_count_20 : decode b_M_count 20 = .ok (.invokevirtual 90, 3) := by decide +kernel
theorem d_M_count_23 : decode b_M_count 23 = .ok (.ifCond .le 20, 3) := by decide +kernel
theorem d_M_count_26 : decode b_M_count 26 = .ok (.iload_n 1, 1) := by decide +kernel
theorem d_M_count_27 : decode b_M_count 27 = .ok (.ifCond .eq 12, 3) := by decide +kernel
theorem d_M_count_30 : decode b_M_count 30 = .ok (.aload_n 0, 1) := by decide +kernel
theorem d_M_count_31 : decode b_M_count 31 = .ok (.getfield 70, 3) := by decide +kernel
theorem d_M_count_34 : decode b_M_count 34 = .ok (.iload_n 3, 1) := by decide +kernel
theorem d_M_count_35 : decode b_M_count 35 = .ok (.baload, 1) := by decide +kernel
theorem d_M_count_36 : decode b_M_count 36 = .ok (.ifCond .eq 7, 3) := by decide +kernel
theorem d_M_count_39 : decode b_M_count 39 = .ok (.iconst 1, 1) := by decide +kernel
theorem d_M_count_40 : decode b_M_count 40 = .ok (.goto 4, 3) := by decide +kernel
theorem d_M_count_43 : decode b_M_count 43 = .ok (.iconst 0, 1) := by decide +kernel
theorem d_M_count_44 : decode b_M_count 44 = .ok (.iadd, 1) := by decide +kernel
theorem d_M_count_45 : decode b_M_count 45 = .ok (.istore_n 2, 1) := by decide +kernel
theorem d_M_count_46 : decode b_M_count 46 = .ok (.iinc 3 1, 3) := by decide +kernel
theorem d_M_count_49 : decode b_M_count 49 = .ok (.goto (-45), 3) := by decide +kernel
theorem d_M_count_52 : decode b_M_count 52 = .ok (.iload_n 2, 1) := by decide +kernel
theorem d_M_count_53 : decode b_M_count 53 = .ok (.ireturn, 1) := by decide +kernel
theorem d_M_end_0 : decode b_M_end 0 = .ok (.aload_n 0, 1) := by decide +kernel
theorem d_M_end_1 : decode b_M_end 1 = .ok (.getfield 20, 3) := by decide +kernel
theorem d_M_end_4 : decode b_M_end 4 = .ok (.aload_n 0, 1) := by decide +kernel
theorem d_M_end_5 : decode b_M_end 5 = .ok (.getfield 23, 3) := by decide +kernel
theorem d_M_end_8 : decode b_M_end 8 = .ok (.iload_n 1, 1) := by decide +kernel
theorem d_M_end_9 : decode b_M_end 9 = .ok (.iaload, 1) := by decide +kernel
theorem d_M_end_10 : decode b_M_end 10 = .ok (.iload_n 2, 1) := by decide +kernel
theorem d_M_end_11 : decode b_M_end 11 = .ok (.iastore, 1) := by decide +kernel
theorem d_M_end_12 : decode b_M_end 12 = .ok (.aload_n 0, 1) := by decide +kernel
theorem d_M_end_13 : decode b_M_end 13 = .ok (.getfield 23, 3) := by decide +kernel
theorem d_M_end_16 : decode b_M_end 16 = .ok (.iload_n 1, 1) := by decide +kernel
theorem d_M_end_17 : decode b_M_end 17 = .ok (.iconst 0, 1) := by decide +kernel
theorem d_M_end_18 : decode b_M_end 18 = .ok (.iastore, 1) := by decide +kernel
theorem d_M_end_19 : decode b_M_end 19 = .ok (.aload_n 0, 1) := by decide +kernel
theorem d_M_end_20 : decode b_M_end 20 = .ok (.dup, 1) := by decide +kernel
theorem d_M_end_21 : decode b_M_end 21 = .ok (.getfield 122, 3) := by decide +kernel
theorem d_M_end_24 : decode b_M_end 24 = .ok (.iload_n 2, 1) := by decide +kernel
theorem d_M_end_25 : decode b_M_end 25 = .ok (.iconst 3, 1) := by decide +kernel
theorem d_M_end_26 : decode b_M_end 26 = .ok (.if_icmp .ne 7, 3) := by decide +kernel
theorem d_M_end_29 : decode b_M_end 29 = .ok (.iconst 1, 1) := by decide +kernel
theorem d_M_end_30 : decode b_M_end 30 = .ok (.goto 4, 3) := by decide +kernel
theorem d_M_end_33 : decode b_M_end 33 = .ok (.iconst 0, 1) := by decide +kernel
theorem d_M_end_34 : decode b_M_end 34 = .ok (.iadd, 1) := by decide +kernel
theorem d_M_end_35 : decode b_M_end 35 = .ok (.putfield 122, 3) := by decide +kernel
theorem d_M_end_38 : decode b_M_end 38 = .ok (.iload_n 2, 1) := by decide +kernel
theorem d_M_end_39 : decode b_M_end 39 = .ok (.iconst 2, 1) := by decide +kernel
theorem d_M_end_40 : decode b_M_end 40 = .ok (.if_icmp .gt 16, 3) := by decide +kernel
theorem d_M_end_43 : decode b_M_end 43 = .ok (.aload_n 0, 1) := by decide +kernel
theorem d_M_end_44 : decode b_M_end 44 = .ok (.getfield 36, 3) := by decide +kernel
theorem d_M_end_47 : decode b_M_end 47 = .ok (.iload_n 1, 1) := by decide +kernel
theorem d_M_end_48 : decode b_M_end 48 = .ok (.iaload, 1) := by decide +kernel
theorem d_M_end_49 : decode b_M_end 49 = .ok (.aload_n 0, 1) := by decide +kernel
theorem d_M_end_50 : decode b_M_end 50 = .ok (.getfield 66, 3) := by decide +kernel
theorem d_M_end_53 : decode b_M_end 53 = .ok (.if_icmp .eq 4, 3) := by decide +kernel
theorem d_M_end_56 : decode b_M_end 56 = .ok (.return_, 1) := by decide +kernel
theorem d_M_end_57 : decode b_M_end 57 = .ok (.aload_n 0, 1) := by decide +kernel
theorem d_M_end_58 : decode b_M_end 58 = .ok (.getfield 70, 3) := by decide +kernel
theorem d_M_end_61 : decode b_M_end 61 = .ok (.bipush 8, 2) := by decide +kernel
theorem d_M_end_63 : decode b_M_end 63 = .ok (.aload_n 0, 1) := by decide +kernel
theorem d_M_end_64 : decode b_M_end 64 = .ok (.getfield 26, 3) := by decide +kernel
theorem d_M_end_67 : decode b_M_end 67 = .ok (.iload_n 1, 1) := by decide +kernel
theorem d_M_end_68 : decode b_M_end 68 = .ok (.iaload, 1) := by decide +kernel
theorem d_M_end_69 : decode b_M_end 69 = .ok (.imul, 1) := by decide +kernel
theorem d_M_end_70 : decode b_M_end 70 = .ok (.aload_n 0, 1) := by decide +kernel
theorem d_M_end_71 : decode b_M_end 71 = .ok (.getfield 29, 3) := by decide +kernel
theorem d_M_end_74 : decode b_M_end 74 = .ok (.iload_n 1, 1) := by decide +kernel
theorem d_M_end_75 : decode b_M_end 75 = .ok (.iaload, 1) := by decide +kernel
theorem d_M_end_76 : decode b_M_end 76 = .ok (.iadd, 1) := by decide +kernel
theorem d_M_end_77 : decode b_M_end 77 = .ok (.iconst 1, 1) := by decide +kernel
end
section
theorem d_M_end_78 : decode b_M_end 78 = .ok (.bastore, 1) := by decide +kernel
theorem d_M_end_79 : decode b_M_end 79 = .ok (.aload_n 0, 1) := by decide +kernel
theorem d_M_end_80 : decode b_M_end 80 = .ok (.iconst 1, 1) := by decide +kernel
theorem d_M_end_81 : decode b_M_end 81 = .ok (.invokevirtual 125, 3) := by decide +kernel
theorem d_M_end_84 : decode b_M_end 84 = .ok (.aload_n 0, 1) := by decide +kernel
theorem d_M_end_85 : decode b_M_end 85 = .ok (.iconst 0, 1) := by decide +kernel
theorem d_M_end_86 : decode b_M_end 86 = .ok (.invokevirtual 125, 3) := by decide +kernel
theorem d_M_end_89 : decode b_M_end 89 = .ok (.if_icmp .ge 4, 3) := by decide +kernel
theorem d_M_end_92 : decode b_M_end 92 = .ok (.return_, 1) := by decide +kernel
theorem d_M_end_93 : decode b_M_end 93 = .ok (.aload_n 0, 1) := by decide +kernel
theorem d_M_end_94 : decode b_M_end 94 = .ok (.dup, 1) := by decide +kernel
theorem d_M_end_95 : decode b_M_end 95 = .ok (.getfield 66, 3) := by decide +kernel
theorem d_M_end_98 : decode b_M_end 98 = .ok (.iconst 1, 1) := by decide +kernel
theorem d_M_end_99 : decode b_M_end 99 = .ok (.iadd, 1) := by decide +kernel
theorem d_M_end_100 : decode b_M_end 100 = .ok (.putfield 66, 3) := by decide +kernel
theorem d_M_end_103 : decode b_M_end 103 = .ok (.iconst 0, 1) := by decide +kernel
theorem d_M_end_104 : decode b_M_end 104 = .ok (.istore_n 3, 1) := by decide +kernel
theorem d_M_end_105 : decode b_M_end 105 = .ok (.iload_n 3, 1) := by decide +kernel
theorem d_M_end_106 : decode b_M_end 106 = .ok (.bipush 48, 2) := by decide +kernel
theorem d_M_end_108 : decode b_M_end 108 = .ok (.if_icmp .ge 16, 3) := by decide +kernel
theorem d_M_end_111 : decode b_M_end 111 = .ok (.aload_n 0, 1) := by decide +kernel
theorem d_M_end_112 : decode b_M_end 112 = .ok (.getfield 70, 3) := by decide +kernel
theorem d_M_end_115 : decode b_M_end 115 = .ok (.iload_n 3, 1) := by decide +kernel
theorem d_M_end_116 : decode b_M_end 116 = .ok (.iconst 0, 1) := by decide +kernel
theorem d_M_end_117 : decode b_M_end 117 = .ok (.bastore, 1) := by decide +kernel
theorem d_M_end_118 : decode b_M_end 118 = .ok (.iinc 3 1, 3) := by decide +kernel
theorem d_M_end_121 : decode b_M_end 121 = .ok (.goto (-16), 3) := by decide +kernel
theorem d_M_end_124 : decode b_M_end 124 = .ok (.return_, 1) := by decide +kernel
theorem d_M_takeSum_0 : decode b_M_takeSum 0 = .ok (.aload_n 0, 1) := by decide +kernel
theorem d_M_takeSum_1 : decode b_M_takeSum 1 = .ok (.getfield 39, 3) := by decide +kernel
theorem d_M_takeSum_4 : decode b_M_takeSum 4 = .ok (.iload_n 1, 1) := by decide +kernel
theorem d_M_takeSum_5 : decode b_M_takeSum 5 = .ok (.iaload, 1) := by decide +kernel
theorem d_M_takeSum_6 : decode b_M_takeSum 6 = .ok (.iload_n 2, 1) := by decide +kernel
theorem d_M_takeSum_7 : decode b_M_takeSum 7 = .ok (.ishr, 1) := by decide +kernel
theorem d_M_takeSum_8 : decode b_M_takeSum 8 = .ok (.iconst 1, 1) := by decide +kernel
theorem d_M_takeSum_9 : decode b_M_takeSum 9 = .ok (.iand, 1) := by decide +kernel
theorem d_M_takeSum_10 : decode b_M_takeSum 10 = .ok (.iconst 1, 1) := by decide +kernel
theorem d_M_takeSum_11 : decode b_M_takeSum 11 = .ok (.if_icmp .ne 4, 3) := by decide +kernel
theorem d_M_takeSum_14 : decode b_M_takeSum 14 = .ok (.return_, 1) := by decide +kernel
theorem d_M_takeSum_15 : decode b_M_takeSum 15 = .ok (.aload_n 0, 1) := by decide +kernel
theorem d_M_takeSum_16 : decode b_M_takeSum 16 = .ok (.getfield 39, 3) := by decide +kernel
theorem d_M_takeSum_19 : decode b_M_takeSum 19 = .ok (.iload_n 1, 1) := by decide +kernel
theorem d_M_takeSum_20 : decode b_M_takeSum 20 = .ok (.dup2, 1) := by decide +kernel
theorem d_M_takeSum_21 : decode b_M_takeSum 21 = .ok (.iaload, 1) := by decide +kernel
theorem d_M_takeSum_22 : decode b_M_takeSum 22 = .ok (.iconst 1, 1) := by decide +kernel
theorem d_M_takeSum_23 : decode b_M_takeSum 23 = .ok (.iload_n 2, 1) := by decide +kernel
theorem d_M_takeSum_24 : decode b_M_takeSum 24 = .ok (.ishl, 1) := by decide +kernel
theorem d_M_takeSum_25 : decode b_M_takeSum 25 = .ok (.ior, 1) := by decide +kernel
theorem d_M_takeSum_26 : decode b_M_takeSum 26 = .ok (.iastore, 1) := by decide +kernel
theorem d_M_takeSum_27 : decode b_M_takeSum 27 = .ok (.aload_n 0, 1) := by decide +kernel
theorem d_M_takeSum_28 : decode b_M_takeSum 28 = .ok (.getfield 45, 3) := by decide +kernel
theorem d_M_takeSum_31 : decode b_M_takeSum 31 = .ok (.iconst 3, 1) := by decide +kernel
theorem d_M_takeSum_32 : decode b_M_takeSum 32 = .ok (.iload_n 1, 1) := by decide +kernel
theorem d_M_takeSum_33 : decode b_M_takeSum 33 = .ok (.imul, 1) := by decide +kernel
theorem d_M_takeSum_34 : decode b_M_takeSum 34 = .ok (.iload_n 2, 1) := by decide +kernel
theorem d_M_takeSum_35 : decode b_M_takeSum 35 = .ok (.iadd, 1) := by decide +kernel
theorem d_M_takeSum_36 : decode b_M_takeSum 36 = .ok (.lload_n 3, 1) := by decide +kernel
theorem d_M_takeSum_37 : decode b_M_takeSum 37 = .ok (.lastore, 1) := by decide +kernel
theorem d_M_takeSum_38 : decode b_M_takeSum 38 = .ok (.aload_n 0, 1) := by decide +kernel
theorem d_M_takeSum_39 : decode b_M_takeSum 39 = .ok (.getfield 39, 3) := by decide +kernel
theorem d_M_takeSum_42 : decode b_M_takeSum 42 = .ok (.iload_n 1, 1) := by decide +kernel
theorem d_M_takeSum_43 : decode b_M_takeSum 43 = .ok (.iaload, 1) := by decide +kernel
theorem d_M_takeSum_44 : decode b_M_takeSum 44 = .ok (.bipush 7, 2) := by decide +kernel
theorem d_M_takeSum_46 : decode b_M_takeSum 46 = .ok (.if_icmp .ge 4, 3) := by decide +kernel
theorem d_M_takeSum_49 : decode b_M_takeSum 49 = .ok (.return_, 1) := by decide +kernel
theorem d_M_takeSum_50 : decode b_M_takeSum 50 = .ok (.aload_n 0, 1) := by decide +kernel
theorem d_M_takeSum_51 : decode b_M_takeSum 51 = .ok (.getfield 45, 3) := by decide +kernel
theorem d_M_takeSum_54 : decode b_M_takeSum 54 = .ok (.iconst 3, 1) := by decide +kernel
theorem d_M_takeSum_55 : decode b_M_takeSum 55 = .ok (.iload_n 1, 1) := by decide +kernel
theorem d_M_takeSum_56 : decode b_M_takeSum 56 = .ok (.imul, 1) := by decide +kernel
theorem d_M_takeSum_57 : decode b_M_takeSum 57 = .ok (.laload, 1) := by decide +kernel
theorem d_M_takeSum_58 : decode b_M_takeSum 58 = .ok (.aload_n 0, 1) := by decide +kernel
theorem d_M_takeSum_59 : decode b_M_takeSum 59 = .ok (.getfield 45, 3) := by decide +kernel
theorem d_M_takeSum_62 : decode b_M_takeSum 62 = .ok (.iconst 3, 1) := by decide +kernel
theorem d_M_takeSum_63 : decode b_M_takeSum 63 = .ok (.iload_n 1, 1) := by decide +kernel
theorem d_M_takeSum_64 : decode b_M_takeSum 64 = .ok (.imul, 1) := by decide +kernel
theorem d_M_takeSum_65 : decode b_M_takeSum 65 = .ok (.iconst 1, 1) := by decide +kernel
theorem d_M_takeSum_66 : decode b_M_takeSum 66 = .ok (.iadd, 1) := by decide +kernel
theorem d_M_takeSum_67 : decode b_M_takeSum 67 = .ok (.laload, 1) := by decide +kernel
theorem d_M_takeSum_68 : decode b_M_takeSum 68 = .ok (.lcmp, 1) := by decide +kernel
theorem d_M_takeSum_69 : decode b_M_takeSum 69 = .ok (.ifCond .ne 34, 3) := by decide +kernel
theorem d_M_takeSum_72 : decode b_M_takeSum 72 = .ok (.aload_n 0, 1) := by decide +kernel
theorem d_M_takeSum_73 : decode b_M_takeSum 73 = .ok (.getfield 45, 3) := by decide +kernel
theorem d_M_takeSum_76 : decode b_M_takeSum 76 = .ok (.iconst 3, 1) := by decide +kernel
theorem d_M_takeSum_77 : decode b_M_takeSum 77 = .ok (.iload_n 1, 1) := by decide +kernel
theorem d_M_takeSum_78 : decode b_M_takeSum 78 = .ok (.imul, 1) := by decide +kernel
theorem d_M_takeSum_79 : decode b_M_takeSum 79 = .ok (.laload, 1) := by decide +kernel
theorem d_M_takeSum_80 : decode b_M_takeSum 80 = .ok (.aload_n 0, 1) := by decide +kernel
theorem d_M_takeSum_81 : decode b_M_takeSum 81 = .ok (.getfield 45, 3) := by decide +kernel
theorem d_M_takeSum_84 : decode b_M_takeSum 84 = .ok (.iconst 3, 1) := by decide +kernel
theorem d_M_takeSum_85 : decode b_M_takeSum 85 = .ok (.iload_n 1, 1) := by decide +kernel
theorem d_M_takeSum_86 : decode b_M_takeSum 86 = .ok (.imul, 1) := by decide +kernel
theorem d_M_takeSum_87 : decode b_M_takeSum 87 = .ok (.iconst 2, 1) := by decide +kernel
theorem d_M_takeSum_88 : decode b_M_takeSum 88 = .ok (.iadd, 1) := by decide +kernel
theorem d_M_takeSum_89 : decode b_M_takeSum 89 = .ok (.laload, 1) := by decide +kernel
theorem d_M_takeSum_90 : decode b_M_takeSum 90 = .ok (.lcmp, 1) := by decide +kernel
theorem d_M_takeSum_91 : decode b_M_takeSum 91 = .ok (.ifCond .ne 12, 3) := by decide +kernel
theorem d_M_takeSum_94 : decode b_M_takeSum 94 = .ok (.aload_n 0, 1) := by decide +kernel
theorem d_M_takeSum_95 : decode b_M_takeSum 95 = .ok (.iload_n 1, 1) := by decide +kernel
theorem d_M_takeSum_96 : decode b_M_takeSum 96 = .ok (.iconst 1, 1) := by decide +kernel
theorem d_M_takeSum_97 : decode b_M_takeSum 97 = .ok (.invokevirtual 129, 3) := by decide +kernel
theorem d_M_takeSum_100 : decode b_M_takeSum 100 = .ok (.goto 32, 3) := by decide +kernel
theorem d_M_takeSum_103 : decode b_M_takeSum 103 = .ok (.iconst 0, 1) := by decide +kernel
theorem d_M_takeSum_104 : decode b_M_takeSum 104 = .ok (.istore 5, 2) := by decide +kernel
theorem d_M_takeSum_106 : decode b_M_takeSum 106 = .ok (.iload 5, 2) := by decide +kernel
theorem d_M_takeSum_108 : decode b_M_takeSum 108 = .ok (.iconst 3, 1) := by decide +kernel
theorem d_M_takeSum_109 : decode b_M_takeSum 109 = .ok (.if_icmp .ge 23, 3) := by decide +kernel
theorem d_M_takeSum_112 : decode b_M_takeSum 112 = .ok (.aload_n 0, 1) := by decide +kernel
theorem d_M_takeSum_113 : decode b_M_takeSum 113 = .ok (.iconst 3, 1) := by decide +kernel
theorem d_M_takeSum_114 : decode b_M_takeSum 114 = .ok (.aload_n 0, 1) := by decide +kernel
theorem d_M_takeSum_115 : decode b_M_takeSum 115 = .ok (.getfield 23, 3) := by decide +kernel
theorem d_M_takeSum_118 : decode b_M_takeSum 118 = .ok (.iload_n 1, 1) := by decide +kernel
theorem d_M_takeSum_119 : decode b_M_takeSum 119 = .ok (.iaload, 1) := by decide +kernel
theorem d_M_takeSum_120 : decode b_M_takeSum 120 = .ok (.iload 5, 2) := by decide +kernel
theorem d_M_takeSum_122 : decode b_M_takeSum 122 = .ok (.invokevirtual 115, 3) := by decide +kernel
theorem d_M_takeSum_125 : decode b_M_takeSum 125 = .ok (.pop, 1) := by decide +kernel
theorem d_M_takeSum_126 : decode b_M_takeSum 126 = .ok (.iinc 5 1, 3) := by decide +kernel
theorem d_M_takeSum_129 : decode b_M_takeSum 129 = .ok (.goto (-23), 3) := by decide +kernel
theorem d_M_takeSum_132 : decode b_M_takeSum 132 = .ok (.return_, 1) := by decide +kernel
theorem d_M_alike_0 : decode b_M_alike 0 = .ok (.iconst 1, 1) := by decide +kernel
theorem d_M_alike_1 : decode b_M_alike 1 = .ok (.istore 5, 2) := by decide +kernel
theorem d_M_alike_3 : decode b_M_alike 3 = .ok (.iconst 4, 1) := by decide +kernel
theorem d_M_alike_4 : decode b_M_alike 4 = .ok (.iload 4, 2) := by decide +kernel
theorem d_M_alike_6 : decode b_M_alike 6 = .ok (.imul, 1) := by decide +kernel
theorem d_M_alike_7 : decode b_M_alike 7 = .ok (.istore 6, 2) := by decide +kernel
theorem d_M_alike_9 : decode b_M_alike 9 = .ok (.iload 6, 2) := by decide +kernel
theorem d_M_alike_11 : decode b_M_alike 11 = .ok (.iconst 4, 1) := by decide +kernel
theorem d_M_alike_12 : decode b_M_alike 12 = .ok (.iload 4, 2) := by decide +kernel
theorem d_M_alike_14 : decode b_M_alike 14 = .ok (.imul, 1) := by decide +kernel
theorem d_M_alike_15 : decode b_M_alike 15 = .ok (.iconst 4, 1) := by decide +kernel
theorem d_M_alike_16 : decode b_M_alike 16 = .ok (.iadd, 1) := by decide +kernel
theorem d_M_alike_17 : decode b_M_alike 17 = .ok (.if_icmp .ge 58, 3) := by decide +kernel
theorem d_M_alike_20 : decode b_M_alike 20 = .ok (.iload 5, 2) := by decide +kernel
theorem d_M_alike_22 : decode b_M_alike 22 = .ok (.ifCond .eq 44, 3) := by decide +kernel
theorem d_M_alike_25 : decode b_M_alike 25 = .ok (.aload_n 0, 1) := by decide +kernel
theorem d_M_alike_26 : decode b_M_alike 26 = .ok (.getfield 48, 3) := by decide +kernel
theorem d_M_alike_29 : decode b_M_alike 29 = .ok (.bipush 24, 2) := by decide +kernel
theorem d_M_alike_31 : decode b_M_alike 31 = .ok (.iload_n 1, 1) := by decide +kernel
theorem d_M_alike_32 : decode b_M_alike 32 = .ok (.imul, 1) := by decide +kernel
theorem d_M_alike_33 : decode b_M_alike 33 = .ok (.bipush 8, 2) := by decide +kernel
theorem d_M_alike_35 : decode b_M_alike 35 = .ok (.iload_n 2, 1) := by decide +kernel
theorem d_M_alike_36 : decode b_M_alike 36 = .ok (.imul, 1) := by decide +kernel
theorem d_M_alike_37 : decode b_M_alike 37 = .ok (.iadd, 1) := by decide +kernel
theorem d_M_alike_38 : decode b_M_alike 38 = .ok (.iload 6, 2) := by decide +kernel
theorem d_M_alike_40 : decode b_M_alike 40 = .ok (.iadd, 1) := by decide +kernel
theorem d_M_alike_41 : decode b_M_alike 41 = .ok (.iaload, 1) := by decide +kernel
theorem d_M_alike_42 : decode b_M_alike 42 = .ok (.aload_n 0, 1) := by decide +kernel
theorem d_M_alike_43 : decode b_M_alike 43 = .ok (.getfield 48, 3) := by decide +kernel
theorem d_M_alike_46 : decode b_M_alike 46 = .ok (.bipush 24, 2) := by decide +kernel
theorem d_M_alike_48 : decode b_M_alike 48 = .ok (.iload_n 1, 1) := by decide +kernel
theorem d_M_alike_49 : decode b_M_alike 49 = .ok (.imul, 1) := by decide +kernel
theorem d_M_alike_50 : decode b_M_alike 50 = .ok (.bipush 8, 2) := by decide +kernel
theorem d_M_alike_52 : decode b_M_alike 52 = .ok (.iload_n 3, 1) := by decide +kernel
theorem d_M_alike_53 : decode b_M_alike 53 = .ok (.imul, 1) := by decide +kernel
theorem d_M_alike_54 : decode b_M_alike 54 = .ok (.iadd, 1) := by decide +kernel
theorem d_M_alike_55 : decode b_M_alike 55 = .ok (.iload 6, 2) := by decide +kernel
theorem d_M_alike_57 : decode b_M_alike 57 = .ok (.iadd, 1) := by decide +kernel
theorem d_M_alike_58 : decode b_M_alike 58 = .ok (.iaload, 1) := by decide +kernel
theorem d_M_alike_59 : decode b_M_alike 59 = .ok (.if_icmp .ne 7, 3) := by decide +kernel
theorem d_M_alike_62 : decode b_M_alike 62 = .ok (.iconst 1, 1) := by decide +kernel
theorem d_M_alike_63 : decode b_M_alike 63 = .ok (.goto 4, 3) := by decide +kernel
theorem d_M_alike_66 : decode b_M_alike 66 = .ok (.iconst 0, 1) := by decide +kernel
theorem d_M_alike_67 : decode b_M_alike 67 = .ok (.istore 5, 2) := by decide +kernel
theorem d_M_alike_69 : decode b_M_alike 69 = .ok (.iinc 6 1, 3) := by decide +kernel
theorem d_M_alike_72 : decode b_M_alike 72 = .ok (.goto (-63), 3) := by decide +kernel
theorem d_M_alike_75 : decode b_M_alike 75 = .ok (.iload 5, 2) := by decide +kernel
theorem d_M_alike_77 : decode b_M_alike 77 = .ok (.ireturn, 1) := by decide +kernel
theorem d_M_byteAt_0 : decode b_M_byteAt 0 = .ok (.sipush 384, 3) := by decide +kernel
theorem d_M_byteAt_3 : decode b_M_byteAt 3 = .ok (.iload_n 2, 1) := by decide +kernel
theorem d_M_byteAt_4 : decode b_M_byteAt 4 = .ok (.imul, 1) := by decide +kernel
theorem d_M_byteAt_5 : decode b_M_byteAt 5 = .ok (.bipush 64, 2) := by decide +kernel
theorem d_M_byteAt_7 : decode b_M_byteAt 7 = .ok (.aload_n 0, 1) := by decide +kernel
theorem d_M_byteAt_8 : decode b_M_byteAt 8 = .ok (.getfield 26, 3) := by decide +kernel
theorem d_M_byteAt_11 : decode b_M_byteAt 11 = .ok (.iload_n 1, 1) := by decide +kernel
theorem d_M_byteAt_12 : decode b_M_byteAt 12 = .ok (.iaload, 1) := by decide +kernel
theorem d_M_byteAt_13 : decode b_M_byteAt 13 = .ok (.imul, 1) := by decide +kernel
theorem d_M_byteAt_14 : decode b_M_byteAt 14 = .ok (.iadd, 1) := by decide +kernel
theorem d_M_byteAt_15 : decode b_M_byteAt 15 = .ok (.iconst 4, 1) := by decide +kernel
theorem d_M_byteAt_16 : decode b_M_byteAt 16 = .ok (.aload_n 0, 1) := by decide +kernel
theorem d_M_byteAt_17 : decode b_M_byteAt 17 = .ok (.getfield 29, 3) := by decide +kernel
theorem d_M_byteAt_20 : decode b_M_byteAt 20 = .ok (.iload_n 1, 1) := by decide +kernel
theorem d_M_byteAt_21 : decode b_M_byteAt 21 = .ok (.iaload, 1) := by decide +kernel
theorem d_M_byteAt_22 : decode b_M_byteAt 22 = .ok (.bipush 8, 2) := by decide +kernel
theorem d_M_byteAt_24 : decode b_M_byteAt 24 = .ok (.iload_n 3, 1) := by decide +kernel
theorem d_M_byteAt_25 : decode b_M_byteAt 25 = .ok (.iconst 4, 1) := by decide +kernel
theorem d_M_byteAt_26 : decode b_M_byteAt 26 = .ok (.idiv, 1) := by decide +kernel
theorem d_M_byteAt_27 : decode b_M_byteAt 27 = .ok (.imul, 1) := by decide +kernel
theorem d_M_byteAt_28 : decode b_M_byteAt 28 = .ok (.iadd, 1) := by decide +kernel
theorem d_M_byteAt_29 : decode b_M_byteAt 29 = .ok (.imul, 1) := by decide +kernel
theorem d_M_byteAt_30 : decode b_M_byteAt 30 = .ok (.iadd, 1) := by decide +kernel
theorem d_M_byteAt_31 : decode b_M_byteAt 31 = .ok (.iload_n 3, 1) := by decide +kernel
theorem d_M_byteAt_32 : decode b_M_byteAt 32 = .ok (.iconst 4, 1) := by decide +kernel
theorem d_M_byteAt_33 : decode b_M_byteAt 33 = .ok (.irem, 1) := by decide +kernel
theorem d_M_byteAt_34 : decode b_M_byteAt 34 = .ok (.iadd, 1) := by decide +kernel
theorem d_M_byteAt_35 : decode b_M_byteAt 35 = .ok (.ireturn, 1) := by decide +kernel
theorem d_M_isAsCopied_0 : decode b_M_isAsCopied 0 = .ok (.iconst 1, 1) := by decide +kernel
theorem d_M_isAsCopied_1 : decode b_M_isAsCopied 1 = .ok (.istore 4, 2) := by decide +kernel
theorem d_M_isAsCopied_3 : decode b_M_isAsCopied 3 = .ok (.iconst 0, 1) := by decide +kernel
theorem d_M_isAsCopied_4 : decode b_M_isAsCopied 4 = .ok (.istore 5, 2) := by decide +kernel
theorem d_M_isAsCopied_6 : decode b_M_isAsCopied 6 = .ok (.iload 5, 2) := by decide +kernel
theorem d_M_isAsCopied_8 : decode b_M_isAsCopied 8 = .ok (.iconst 4, 1) := by decide +kernel
theorem d_M_isAsCopied_9 : decode b_M_isAsCopied 9 = .ok (.iload_n 3, 1) := by decide +kernel
theorem d_M_isAsCopied_10 : decode b_M_isAsCopied 10 = .ok (.imul, 1) := by decide +kernel
theorem d_M_isAsCopied_11 : decode b_M_isAsCopied 11 = .ok (.if_icmp .ge 54, 3) := by decide +kernel
theorem d_M_isAsCopied_14 : decode b_M_isAsCopied 14 = .ok (.iload 4, 2) := by decide +kernel
theorem d_M_isAsCopied_16 : decode b_M_isAsCopied 16 = .ok (.ifCond .eq 40, 3) := by decide +kernel
theorem d_M_isAsCopied_19 : decode b_M_isAsCopied 19 = .ok (.aload_n 0, 1) := by decide +kernel
theorem d_M_isAsCopied_20 : decode b_M_isAsCopied 20 = .ok (.getfield 7, 3) := by decide +kernel
theorem d_M_isAsCopied_23 : decode b_M_isAsCopied 23 = .ok (.aload_n 0, 1) := by decide +kernel
theorem d_M_isAsCopied_24 : decode b_M_isAsCopied 24 = .ok (.iload_n 1, 1) := by decide +kernel
theorem d_M_isAsCopied_25 : decode b_M_isAsCopied 25 = .ok (.iload_n 2, 1) := by decide +kernel
theorem d_M_isAsCopied_26 : decode b_M_isAsCopied 26 = .ok (.iload 5, 2) := by decide +kernel
theorem d_M_isAsCopied_28 : decode b_M_isAsCopied 28 = .ok (.invokevirtual 132, 3) := by decide +kernel
theorem d_M_isAsCopied_31 : decode b_M_isAsCopied 31 = .ok (.iaload, 1) := by decide +kernel
theorem d_M_isAsCopied_32 : decode b_M_isAsCopied 32 = .ok (.aload_n 0, 1) := by decide +kernel
theorem d_M_isAsCopied_33 : decode b_M_isAsCopied 33 = .ok (.getfield 48, 3) := by decide +kernel
theorem d_M_isAsCopied_36 : decode b_M_isAsCopied 36 = .ok (.bipush 24, 2) := by decide +kernel
theorem d_M_isAsCopied_38 : decode b_M_isAsCopied 38 = .ok (.iload_n 1, 1) := by decide +kernel
theorem d_M_isAsCopied_39 : decode b_M_isAsCopied 39 = .ok (.imul, 1) := by decide +kernel
theorem d_M_isAsCopied_40 : decode b_M_isAsCopied 40 = .ok (.bipush 8, 2) := by decide +kernel
theorem d_M_isAsCopied_42 : decode b_M_isAsCopied 42 = .ok (.iload_n 2, 1) := by decide +kernel
theorem d_M_isAsCopied_43 : decode b_M_isAsCopied 43 = .ok (.imul, 1) := by decide +kernel
theorem d_M_isAsCopied_44 : decode b_M_isAsCopied 44 = .ok (.iadd, 1) := by decide +kernel
theorem d_M_isAsCopied_45 : decode b_M_isAsCopied 45 = .ok (.iload 5, 2) := by decide +kernel
theorem d_M_isAsCopied_47 : decode b_M_isAsCopied 47 = .ok (.iadd, 1) := by decide +kernel
theorem d_M_isAsCopied_48 : decode b_M_isAsCopied 48 = .ok (.iaload, 1) := by decide +kernel
theorem d_M_isAsCopied_49 : decode b_M_isAsCopied 49 = .ok (.if_icmp .ne 7, 3) := by decide +kernel
theorem d_M_isAsCopied_52 : decode b_M_isAsCopied 52 = .ok (.iconst 1, 1) := by decide +kernel
theorem d_M_isAsCopied_53 : decode b_M_isAsCopied 53 = .ok (.goto 4, 3) := by decide +kernel
theorem d_M_isAsCopied_56 : decode b_M_isAsCopied 56 = .ok (.iconst 0, 1) := by decide +kernel
theorem d_M_isAsCopied_57 : decode b_M_isAsCopied 57 = .ok (.istore 4, 2) := by decide +kernel
theorem d_M_isAsCopied_59 : decode b_M_isAsCopied 59 = .ok (.iinc 5 1, 3) := by decide +kernel
theorem d_M_isAsCopied_62 : decode b_M_isAsCopied 62 = .ok (.goto (-56), 3) := by decide +kernel
theorem d_M_isAsCopied_65 : decode b_M_isAsCopied 65 = .ok (.iload 4, 2) := by decide +kernel
theorem d_M_isAsCopied_67 : decode b_M_isAsCopied 67 = .ok (.ireturn, 1) := by decide +kernel
theorem d_M_mend_0 : decode b_M_mend 0 = .ok (.iconst 4, 1) := by decide +kernel
theorem d_M_mend_1 : decode b_M_mend 1 = .ok (.iload 4, 2) := by decide +kernel
theorem d_M_mend_3 : decode b_M_mend 3 = .ok (.imul, 1) := by decide +kernel
theorem d_M_mend_4 : decode b_M_mend 4 = .ok (.istore 5, 2) := by decide +kernel
theorem d_M_mend_6 : decode b_M_mend 6 = .ok (.iload 5, 2) := by decide +kernel
theorem d_M_mend_8 : decode b_M_mend 8 = .ok (.iconst 4, 1) := by decide +kernel
theorem d_M_mend_9 : decode b_M_mend 9 = .ok (.iload 4, 2) := by decide +kernel
theorem d_M_mend_11 : decode b_M_mend 11 = .ok (.imul, 1) := by decide +kernel
theorem d_M_mend_12 : decode b_M_mend 12 = .ok (.iconst 4, 1) := by decide +kernel
theorem d_M_mend_13 : decode b_M_mend 13 = .ok (.iadd, 1) := by decide +kernel
theorem d_M_mend_14 : decode b_M_mend 14 = .ok (.if_icmp .ge 39, 3) := by decide +kernel
theorem d_M_mend_17 : decode b_M_mend 17 = .ok (.aload_n 0, 1) := by decide +kernel
theorem d_M_mend_18 : decode b_M_mend 18 = .ok (.getfield 7, 3) := by decide +kernel
theorem d_M_mend_21 : decode b_M_mend 21 = .ok (.aload_n 0, 1) := by decide +kernel
theorem d_M_mend_22 : decode b_M_mend 22 = .ok (.iload_n 1, 1) := by decide +kernel
theorem d_M_mend_23 : decode b_M_mend 23 = .ok (.iload_n 2, 1) := by decide +kernel
theorem d_M_mend_24 : decode b_M_mend 24 = .ok (.iload 5, 2) := by decide +kernel
theorem d_M_mend_26 : decode b_M_mend 26 = .ok (.invokevirtual 132, 3) := by decide +kernel
theorem d_M_mend_29 : decode b_M_mend 29 = .ok (.aload_n 0, 1) := by decide +kernel
theorem d_M_mend_30 : decode b_M_mend 30 = .ok (.getfield 48, 3) := by decide +kernel
theorem d_M_mend_33 : decode b_M_mend 33 = .ok (.bipush 24, 2) := by decide +kernel
theorem d_M_mend_35 : decode b_M_mend 35 = .ok (.iload_n 1, 1) := by decide +kernel
theorem d_M_mend_36 : decode b_M_mend 36 = .ok (.imul, 1) := by decide +kernel
theorem d_M_mend_37 : decode b_M_mend 37 = .ok (.bipush 8, 2) := by decide +kernel
theorem d_M_mend_39 : decode b_M_mend 39 = .ok (.iload_n 3, 1) := by decide +kernel
theorem d_M_mend_40 : decode b_M_mend 40 = .ok (.imul, 1) := by decide +kernel
theorem d_M_mend_41 : decode b_M_mend 41 = .ok (.iadd, 1) := by decide +kernel
theorem d_M_mend_42 : decode b_M_mend 42 = .ok (.iload 5, 2) := by decide +kernel
theorem d_M_mend_44 : decode b_M_mend 44 = .ok (.iadd, 1) := by decide +kernel
theorem d_M_mend_45 : decode b_M_mend 45 = .ok (.iaload, 1) := by decide +kernel
theorem d_M_mend_46 : decode b_M_mend 46 = .ok (.iastore, 1) := by decide +kernel
theorem d_M_mend_47 : decode b_M_mend 47 = .ok (.iinc 5 1, 3) := by decide +kernel
theorem d_M_mend_50 : decode b_M_mend 50 = .ok (.goto (-44), 3) := by decide +kernel
theorem d_M_mend_53 : decode b_M_mend 53 = .ok (.aload_n 0, 1) := by decide +kernel
theorem d_M_mend_54 : decode b_M_mend 54 = .ok (.getfield 73, 3) := by decide +kernel
theorem d_M_mend_57 : decode b_M_mend 57 = .ok (.iload_n 2, 1) := by decide +kernel
theorem d_M_mend_58 : decode b_M_mend 58 = .ok (.dup2, 1) := by decide +kernel
theorem d_M_mend_59 : decode b_M_mend 59 = .ok (.iaload, 1) := by decide +kernel
theorem d_M_mend_60 : decode b_M_mend 60 = .ok (.iconst 1, 1) := by decide +kernel
theorem d_M_mend_61 : decode b_M_mend 61 = .ok (.iadd, 1) := by decide +kernel
theorem d_M_mend_62 : decode b_M_mend 62 = .ok (.iastore, 1) := by decide +kernel
theorem d_M_mend_63 : decode b_M_mend 63 = .ok (.return_, 1) := by decide +kernel
theorem d_M_decide_0 : decode b_M_decide 0 = .ok (.aload_n 0, 1) := by decide +kernel
theorem d_M_decide_1 : decode b_M_decide 1 = .ok (.aload_n 0, 1) := by decide +kernel
theorem d_M_decide_2 : decode b_M_decide 2 = .ok (.getfield 26, 3) := by decide +kernel
theorem d_M_decide_5 : decode b_M_decide 5 = .ok (.iload_n 1, 1) := by decide +kernel
theorem d_M_decide_6 : decode b_M_decide 6 = .ok (.iaload, 1) := by decide +kernel
theorem d_M_decide_7 : decode b_M_decide 7 = .ok (.aload_n 0, 1) := by decide +kernel
theorem d_M_decide_8 : decode b_M_decide 8 = .ok (.getfield 29, 3) := by decide +kernel
theorem d_M_decide_11 : decode b_M_decide 11 = .ok (.iload_n 1, 1) := by decide +kernel
theorem d_M_decide_12 : decode b_M_decide 12 = .ok (.iaload, 1) := by decide +kernel
theorem d_M_decide_13 : decode b_M_decide 13 = .ok (.invokevirtual 90, 3) := by decide +kernel
theorem d_M_decide_16 : decode b_M_decide 16 = .ok (.istore_n 2, 1) := by decide +kernel
theorem d_M_decide_17 : decode b_M_decide 17 = .ok (.iconst 0, 1) := by decide +kernel
theorem d_M_decide_18 : decode b_M_decide 18 = .ok (.istore_n 3, 1) := by decide +kernel
theorem d_M_decide_19 : decode b_M_decide 19 = .ok (.iconst 0, 1) := by decide +kernel
theorem d_M_decide_20 : decode b_M_decide 20 = .ok (.istore 4, 2) := by decide +kernel
theorem d_M_decide_22 : decode b_M_decide 22 = .ok (.iload 4, 2) := by decide +kernel
theorem d_M_decide_24 : decode b_M_decide 24 = .ok (.iload_n 2, 1) := by decide +kernel
theorem d_M_decide_25 : decode b_M_decide 25 = .ok (.if_icmp .ge 55, 3) := by decide +kernel
theorem d_M_decide_28 : decode b_M_decide 28 = .ok (.iload_n 3, 1) := by decide +kernel
theorem d_M_decide_29 : decode b_M_decide 29 = .ok (.ifCond .ne 39, 3) := by decide +kernel
theorem d_M_decide_32 : decode b_M_decide 32 = .ok (.aload_n 0, 1) := by decide +kernel
theorem d_M_decide_33 : decode b_M_decide 33 = .ok (.iload_n 1, 1) := by decide +kernel
theorem d_M_decide_34 : decode b_M_decide 34 = .ok (.iconst 0, 1) := by decide +kernel
theorem d_M_decide_35 : decode b_M_decide 35 = .ok (.iconst 1, 1) := by decide +kernel
theorem d_M_decide_36 : decode b_M_decide 36 = .ok (.iload 4, 2) := by decide +kernel
theorem d_M_decide_38 : decode b_M_decide 38 = .ok (.invokevirtual 135, 3) := by decide +kernel
theorem d_M_decide_41 : decode b_M_decide 41 = .ok (.ifCond .ne 31, 3) := by decide +kernel
theorem d_M_decide_44 : decode b_M_decide 44 = .ok (.aload_n 0, 1) := by decide +kernel
theorem d_M_decide_45 : decode b_M_decide 45 = .ok (.iload_n 1, 1) := by decide +kernel
theorem d_M_decide_46 : decode b_M_decide 46 = .ok (.iconst 0, 1) := by decide +kernel
theorem d_M_decide_47 : decode b_M_decide 47 = .ok (.iconst 2, 1) := by decide +kernel
theorem d_M_decide_48 : decode b_M_decide 48 = .ok (.iload 4, 2) := by decide +kernel
theorem d_M_decide_50 : decode b_M_decide 50 = .ok (.invokevirtual 135, 3) := by decide +kernel
theorem d_M_decide_53 : decode b_M_decide 53 = .ok (.ifCond .ne 19, 3) := by decide +kernel
theorem d_M_decide_56 : decode b_M_decide 56 = .ok (.aload_n 0, 1) := by decide +kernel
theorem d_M_decide_57 : decode b_M_decide 57 = .ok (.iload_n 1, 1) := by decide +kernel
theorem d_M_decide_58 : decode b_M_decide 58 = .ok (.iconst 1, 1) := by decide +kernel
theorem d_M_decide_59 : decode b_M_decide 59 = .ok (.iconst 2, 1) := by decide +kernel
theorem d_M_decide_60 : decode b_M_decide 60 = .ok (.iload 4, 2) := by decide +kernel
theorem d_M_decide_62 : decode b_M_decide 62 = .ok (.invokevirtual 135, 3) := by decide +kernel
theorem d_M_decide_65 : decode b_M_decide 65 = .ok (.ifCond .ne 7, 3) := by decide +kernel
theorem d_M_decide_68 : decode b_M_decide 68 = .ok (.iconst 1, 1) := by decide +kernel
theorem d_M_decide_69 : decode b_M_decide 69 = .ok (.goto 4, 3) := by decide +kernel
theorem d_M_decide_72 : decode b_M_decide 72 = .ok (.iconst 0, 1) := by decide +kernel
theorem d_M_decide_73 : decode b_M_decide 73 = .ok (.istore_n 3, 1) := by decide +kernel
theorem d_M_decide_74 : decode b_M_decide 74 = .ok (.iinc 4 1, 3) := by decide +kernel
theorem d_M_decide_77 : decode b_M_decide 77 = .ok (.goto (-55), 3) := by decide +kernel
theorem d_M_decide_80 : decode b_M_decide 80 = .ok (.iconst 1, 1) := by decide +kernel
theorem d_M_decide_81 : decode b_M_decide 81 = .ok (.istore 4, 2) := by decide +kernel
theorem d_M_decide_83 : decode b_M_decide 83 = .ok (.iconst 0, 1) := by decide +kernel
theorem d_M_decide_84 : decode b_M_decide 84 = .ok (.istore 5, 2) := by decide +kernel
theorem d_M_decide_86 : decode b_M_decide 86 = .ok (.iload 5, 2) := by decide +kernel
theorem d_M_decide_88 : decode b_M_decide 88 = .ok (.iconst 3, 1) := by decide +kernel
theorem d_M_decide_89 : decode b_M_decide 89 = .ok (.if_icmp .ge 42, 3) := by decide +kernel
theorem d_M_decide_92 : decode b_M_decide 92 = .ok (.iload 4, 2) := by decide +kernel
theorem d_M_decide_94 : decode b_M_decide 94 = .ok (.ifCond .eq 28, 3) := by decide +kernel
theorem d_M_decide_97 : decode b_M_decide 97 = .ok (.aload_n 0, 1) := by decide +kernel
theorem d_M_decide_98 : decode b_M_decide 98 = .ok (.getfield 16, 3) := by decide +kernel
theorem d_M_decide_101 : decode b_M_decide 101 = .ok (.iload 5, 2) := by decide +kernel
theorem d_M_decide_103 : decode b_M_decide 103 = .ok (.baload, 1) := by decide +kernel
theorem d_M_decide_104 : decode b_M_decide 104 = .ok (.ifCond .eq 18, 3) := by decide +kernel
theorem d_M_decide_107 : decode b_M_decide 107 = .ok (.aload_n 0, 1) := by decide +kernel
theorem d_M_decide_108 : decode b_M_decide 108 = .ok (.iload_n 1, 1) := by decide +kernel
theorem d_M_decide_109 : decode b_M_decide 109 = .ok (.iload 5, 2) := by decide +kernel
theorem d_M_decide_111 : decode b_M_decide 111 = .ok (.iload_n 2, 1) := by decide +kernel
theorem d_M_decide_112 : decode b_M_decide 112 = .ok (.invokevirtual 139, 3) := by decide +kernel
theorem d_M_decide_115 : decode b_M_decide 115 = .ok (.ifCond .eq 7, 3) := by decide +kernel
theorem d_M_decide_118 : decode b_M_decide 118 = .ok (.iconst 1, 1) := by decide +kernel
theorem d_M_decide_119 : decode b_M_decide 119 = .ok (.goto 4, 3) := by decide +kernel
theorem d_M_decide_122 : decode b_M_decide 122 = .ok (.iconst 0, 1) := by decide +kernel
theorem d_M_decide_123 : decode b_M_decide 123 = .ok (.istore 4, 2) := by decide +kernel
theorem d_M_decide_125 : decode b_M_decide 125 = .ok (.iinc 5 1, 3) := by decide +kernel
theorem d_M_decide_128 : decode b_M_decide 128 = .ok (.goto (-42), 3) := by decide +kernel
theorem d_M_decide_131 : decode b_M_decide 131 = .ok (.iload_n 3, 1) := by decide +kernel
theorem d_M_decide_132 : decode b_M_decide 132 = .ok (.ifCond .ne 102, 3) := by decide +kernel
theorem d_M_decide_135 : decode b_M_decide 135 = .ok (.iload 4, 2) := by decide +kernel
theorem d_M_decide_137 : decode b_M_decide 137 = .ok (.ifCond .eq 97, 3) := by decide +kernel
theorem d_M_decide_140 : decode b_M_decide 140 = .ok (.iconst 0, 1) := by decide +kernel
theorem d_M_decide_141 : decode b_M_decide 141 = .ok (.istore 5, 2) := by decide +kernel
theorem d_M_decide_143 : decode b_M_decide 143 = .ok (.iload 5, 2) := by decide +kernel
theorem d_M_decide_145 : decode b_M_decide 145 = .ok (.iload_n 2, 1) := by decide +kernel
theorem d_M_decide_146 : decode b_M_decide 146 = .ok (.if_icmp .ge 88, 3) := by decide +kernel
theorem d_M_decide_149 : decode b_M_decide 149 = .ok (.aload_n 0, 1) := by decide +kernel
theorem d_M_decide_150 : decode b_M_decide 150 = .ok (.iload_n 1, 1) := by decide +kernel
theorem d_M_decide_151 : decode b_M_decide 151 = .ok (.iconst 0, 1) := by decide +kernel
theorem d_M_decide_152 : decode b_M_decide 152 = .ok (.iconst 1, 1) := by decide +kernel
theorem d_M_decide_153 : decode b_M_decide 153 = .ok (.iload 5, 2) := by decide +kernel
theorem d_M_decide_155 : decode b_M_decide 155 = .ok (.invokevirtual 135, 3) := by decide +kernel
theorem d_M_decide_158 : decode b_M_decide 158 = .ok (.istore 6, 2) := by decide +kernel
theorem d_M_decide_160 : decode b_M_decide 160 = .ok (.aload_n 0, 1) := by decide +kernel
theorem d_M_decide_161 : decode b_M_decide 161 = .ok (.iload_n 1, 1) := by decide +kernel
theorem d_M_decide_162 : decode b_M_decide 162 = .ok (.iconst 0, 1) := by decide +kernel
theorem d_M_decide_163 : decode b_M_decide 163 = .ok (.iconst 2, 1) := by decide +kernel
theorem d_M_decide_164 : decode b_M_decide 164 = .ok (.iload 5, 2) := by decide +kernel
theorem d_M_decide_166 : decode b_M_decide 166 = .ok (.invokevirtual 135, 3) := by decide +kernel
theorem d_M_decide_169 : decode b_M_decide 169 = .ok (.istore 7, 2) := by decide +kernel
theorem d_M_decide_171 : decode b_M_decide 171 = .ok (.iload 6, 2) := by decide +kernel
theorem d_M_decide_173 : decode b_M_decide 173 = .ok (.ifCond .eq 17, 3) := by decide +kernel
theorem d_M_decide_176 : decode b_M_decide 176 = .ok (.iload 7, 2) := by decide +kernel
theorem d_M_decide_178 : decode b_M_decide 178 = .ok (.ifCond .ne 12, 3) := by decide +kernel
theorem d_M_decide_181 : decode b_M_decide 181 = .ok (.aload_n 0, 1) := by decide +kernel
theorem d_M_decide_182 : decode b_M_decide 182 = .ok (.iload_n 1, 1) := by decide +kernel
theorem d_M_decide_183 : decode b_M_decide 183 = .ok (.iconst 2, 1) := by decide +kernel
theorem d_M_decide_184 : decode b_M_decide 184 = .ok (.iconst 0, 1) := by decide +kernel
theorem d_M_decide_185 : decode b_M_decide 185 = .ok (.iload 5, 2) := by decide +kernel
theorem d_M_decide_187 : decode b_M_decide 187 = .ok (.invokevirtual 142, 3) := by decide +kernel
theorem d_M_decide_190 : decode b_M_decide 190 = .ok (.iload 7, 2) := by decide +kernel
theorem d_M_decide_192 : decode b_M_decide 192 = .ok (.ifCond .eq 17, 3) := by decide +kernel
theorem d_M_decide_195 : decode b_M_decide 195 = .ok (.iload 6, 2) := by decide +kernel
theorem d_M_decide_197 : decode b_M_decide 197 = .ok (.ifCond .ne 12, 3) := by decide +kernel
theorem d_M_decide_200 : decode b_M_decide 200 = .ok (.aload_n 0, 1) := by decide +kernel
theorem d_M_decide_201 : decode b_M_decide 201 = .ok (.iload_n 1, 1) := by decide +kernel
theorem d_M_decide_202 : decode b_M_decide 202 = .ok (.iconst 1, 1) := by decide +kernel
theorem d_M_decide_203 : decode b_M_decide 203 = .ok (.iconst 0, 1) := by decide +kernel
theorem d_M_decide_204 : decode b_M_decide 204 = .ok (.iload 5, 2) := by decide +kernel
theorem d_M_decide_206 : decode b_M_decide 206 = .ok (.invokevirtual 142, 3) := by decide +kernel
theorem d_M_decide_209 : decode b_M_decide 209 = .ok (.iload 6, 2) := by decide +kernel
theorem d_M_decide_211 : decode b_M_decide 211 = .ok (.ifCond .ne 17, 3) := by decide +kernel
theorem d_M_decide_214 : decode b_M_decide 214 = .ok (.iload 7, 2) := by decide +kernel
theorem d_M_decide_216 : decode b_M_decide 216 = .ok (.ifCond .ne 12, 3) := by decide +kernel
theorem d_M_decide_219 : decode b_M_decide 219 = .ok (.aload_n 0, 1) := by decide +kernel
theorem d_M_decide_220 : decode b_M_decide 220 = .ok (.iload_n 1, 1) := by decide +kernel
theorem d_M_decide_221 : decode b_M_decide 221 = .ok (.iconst 0, 1) := by decide +kernel
end
section
theorem d_M_decide_222 : decode b_M_decide 222 = .ok (.iconst 1, 1) := by decide +kernel
theorem d_M_decide_223 : decode b_M_decide 223 = .ok (.iload 5, 2) := by decide +kernel
theorem d_M_decide_225 : decode b_M_decide 225 = .ok (.invokevirtual 142, 3) := by decide +kernel
theorem d_M_decide_228 : decode b_M_decide 228 = .ok (.iinc 5 1, 3) := by decide +kernel
theorem d_M_decide_231 : decode b_M_decide 231 = .ok (.goto (-88), 3) := by decide +kernel
theorem d_M_decide_234 : decode b_M_decide 234 = .ok (.aload_n 0, 1) := by decide +kernel
theorem d_M_decide_235 : decode b_M_decide 235 = .ok (.iload_n 1, 1) := by decide +kernel
theorem d_M_decide_236 : decode b_M_decide 236 = .ok (.iload_n 3, 1) := by decide +kernel
theorem d_M_decide_237 : decode b_M_decide 237 = .ok (.ifCond .eq 7, 3) := by decide +kernel
theorem d_M_decide_240 : decode b_M_decide 240 = .ok (.iconst 3, 1) := by decide +kernel
theorem d_M_decide_241 : decode b_M_decide 241 = .ok (.goto 13, 3) := by decide +kernel
theorem d_M_decide_244 : decode b_M_decide 244 = .ok (.iload 4, 2) := by decide +kernel
theorem d_M_decide_246 : decode b_M_decide 246 = .ok (.ifCond .eq 7, 3) := by decide +kernel
theorem d_M_decide_249 : decode b_M_decide 249 = .ok (.iconst 2, 1) := by decide +kernel
theorem d_M_decide_250 : decode b_M_decide 250 = .ok (.goto 4, 3) := by decide +kernel
theorem d_M_decide_253 : decode b_M_decide 253 = .ok (.iconst 4, 1) := by decide +kernel
theorem d_M_decide_254 : decode b_M_decide 254 = .ok (.invokevirtual 129, 3) := by decide +kernel
theorem d_M_decide_257 : decode b_M_decide 257 = .ok (.return_, 1) := by decide +kernel
theorem d_M_takeCopy_0 : decode b_M_takeCopy 0 = .ok (.aload_n 0, 1) := by decide +kernel
theorem d_M_takeCopy_1 : decode b_M_takeCopy 1 = .ok (.getfield 39, 3) := by decide +kernel
theorem d_M_takeCopy_4 : decode b_M_takeCopy 4 = .ok (.iload_n 1, 1) := by decide +kernel
theorem d_M_takeCopy_5 : decode b_M_takeCopy 5 = .ok (.iaload, 1) := by decide +kernel
theorem d_M_takeCopy_6 : decode b_M_takeCopy 6 = .ok (.bipush 7, 2) := by decide +kernel
theorem d_M_takeCopy_8 : decode b_M_takeCopy 8 = .ok (.if_icmp .lt 17, 3) := by decide +kernel
theorem d_M_takeCopy_11 : decode b_M_takeCopy 11 = .ok (.aload_n 0, 1) := by decide +kernel
theorem d_M_takeCopy_12 : decode b_M_takeCopy 12 = .ok (.getfield 42, 3) := by decide +kernel
theorem d_M_takeCopy_15 : decode b_M_takeCopy 15 = .ok (.iload_n 1, 1) := by decide +kernel
theorem d_M_takeCopy_16 : decode b_M_takeCopy 16 = .ok (.iaload, 1) := by decide +kernel
theorem d_M_takeCopy_17 : decode b_M_takeCopy 17 = .ok (.iload_n 2, 1) := by decide +kernel
theorem d_M_takeCopy_18 : decode b_M_takeCopy 18 = .ok (.ishr, 1) := by decide +kernel
theorem d_M_takeCopy_19 : decode b_M_takeCopy 19 = .ok (.iconst 1, 1) := by decide +kernel
theorem d_M_takeCopy_20 : decode b_M_takeCopy 20 = .ok (.iand, 1) := by decide +kernel
theorem d_M_takeCopy_21 : decode b_M_takeCopy 21 = .ok (.iconst 1, 1) := by decide +kernel
theorem d_M_takeCopy_22 : decode b_M_takeCopy 22 = .ok (.if_icmp .ne 4, 3) := by decide +kernel
theorem d_M_takeCopy_25 : decode b_M_takeCopy 25 = .ok (.return_, 1) := by decide +kernel
theorem d_M_takeCopy_26 : decode b_M_takeCopy 26 = .ok (.aload_n 0, 1) := by decide +kernel
theorem d_M_takeCopy_27 : decode b_M_takeCopy 27 = .ok (.getfield 42, 3) := by decide +kernel
theorem d_M_takeCopy_30 : decode b_M_takeCopy 30 = .ok (.iload_n 1, 1) := by decide +kernel
theorem d_M_takeCopy_31 : decode b_M_takeCopy 31 = .ok (.dup2, 1) := by decide +kernel
theorem d_M_takeCopy_32 : decode b_M_takeCopy 32 = .ok (.iaload, 1) := by decide +kernel
theorem d_M_takeCopy_33 : decode b_M_takeCopy 33 = .ok (.iconst 1, 1) := by decide +kernel
theorem d_M_takeCopy_34 : decode b_M_takeCopy 34 = .ok (.iload_n 2, 1) := by decide +kernel
theorem d_M_takeCopy_35 : decode b_M_takeCopy 35 = .ok (.ishl, 1) := by decide +kernel
theorem d_M_takeCopy_36 : decode b_M_takeCopy 36 = .ok (.ior, 1) := by decide +kernel
theorem d_M_takeCopy_37 : decode b_M_takeCopy 37 = .ok (.iastore, 1) := by decide +kernel
theorem d_M_takeCopy_38 : decode b_M_takeCopy 38 = .ok (.iconst 0, 1) := by decide +kernel
theorem d_M_takeCopy_39 : decode b_M_takeCopy 39 = .ok (.istore_n 3, 1) := by decide +kernel
theorem d_M_takeCopy_40 : decode b_M_takeCopy 40 = .ok (.iload_n 3, 1) := by decide +kernel
theorem d_M_takeCopy_41 : decode b_M_takeCopy 41 = .ok (.bipush 8, 2) := by decide +kernel
theorem d_M_takeCopy_43 : decode b_M_takeCopy 43 = .ok (.if_icmp .ge 35, 3) := by decide +kernel
theorem d_M_takeCopy_46 : decode b_M_takeCopy 46 = .ok (.aload_n 0, 1) := by decide +kernel
theorem d_M_takeCopy_47 : decode b_M_takeCopy 47 = .ok (.getfield 48, 3) := by decide +kernel
theorem d_M_takeCopy_50 : decode b_M_takeCopy 50 = .ok (.bipush 24, 2) := by decide +kernel
theorem d_M_takeCopy_52 : decode b_M_takeCopy 52 = .ok (.iload_n 1, 1) := by decide +kernel
theorem d_M_takeCopy_53 : decode b_M_takeCopy 53 = .ok (.imul, 1) := by decide +kernel
theorem d_M_takeCopy_54 : decode b_M_takeCopy 54 = .ok (.bipush 8, 2) := by decide +kernel
theorem d_M_takeCopy_56 : decode b_M_takeCopy 56 = .ok (.iload_n 2, 1) := by decide +kernel
theorem d_M_takeCopy_57 : decode b_M_takeCopy 57 = .ok (.imul, 1) := by decide +kernel
theorem d_M_takeCopy_58 : decode b_M_takeCopy 58 = .ok (.iadd, 1) := by decide +kernel
theorem d_M_takeCopy_59 : decode b_M_takeCopy 59 = .ok (.iload_n 3, 1) := by decide +kernel
theorem d_M_takeCopy_60 : decode b_M_takeCopy 60 = .ok (.iadd, 1) := by decide +kernel
theorem d_M_takeCopy_61 : decode b_M_takeCopy 61 = .ok (.aload_n 0, 1) := by decide +kernel
theorem d_M_takeCopy_62 : decode b_M_takeCopy 62 = .ok (.getfield 63, 3) := by decide +kernel
theorem d_M_takeCopy_65 : decode b_M_takeCopy 65 = .ok (.sipush 192, 3) := by decide +kernel
theorem d_M_takeCopy_68 : decode b_M_takeCopy 68 = .ok (.iload_n 3, 1) := by decide +kernel
theorem d_M_takeCopy_69 : decode b_M_takeCopy 69 = .ok (.iadd, 1) := by decide +kernel
theorem d_M_takeCopy_70 : decode b_M_takeCopy 70 = .ok (.iaload, 1) := by decide +kernel
theorem d_M_takeCopy_71 : decode b_M_takeCopy 71 = .ok (.iastore, 1) := by decide +kernel
theorem d_M_takeCopy_72 : decode b_M_takeCopy 72 = .ok (.iinc 3 1, 3) := by decide +kernel
theorem d_M_takeCopy_75 : decode b_M_takeCopy 75 = .ok (.goto (-35), 3) := by decide +kernel
theorem d_M_takeCopy_78 : decode b_M_takeCopy 78 = .ok (.aload_n 0, 1) := by decide +kernel
theorem d_M_takeCopy_79 : decode b_M_takeCopy 79 = .ok (.getfield 42, 3) := by decide +kernel
theorem d_M_takeCopy_82 : decode b_M_takeCopy 82 = .ok (.iload_n 1, 1) := by decide +kernel
theorem d_M_takeCopy_83 : decode b_M_takeCopy 83 = .ok (.iaload, 1) := by decide +kernel
theorem d_M_takeCopy_84 : decode b_M_takeCopy 84 = .ok (.bipush 7, 2) := by decide +kernel
theorem d_M_takeCopy_86 : decode b_M_takeCopy 86 = .ok (.if_icmp .ne 8, 3) := by decide +kernel
theorem d_M_takeCopy_89 : decode b_M_takeCopy 89 = .ok (.aload_n 0, 1) := by decide +kernel
theorem d_M_takeCopy_90 : decode b_M_takeCopy 90 = .ok (.iload_n 1, 1) := by decide +kernel
theorem d_M_takeCopy_91 : decode b_M_takeCopy 91 = .ok (.invokevirtual 146, 3) := by decide +kernel
theorem d_M_takeCopy_94 : decode b_M_takeCopy 94 = .ok (.return_, 1) := by decide +kernel
theorem d_M_answer_0 : decode b_M_answer 0 = .ok (.aload_n 0, 1) := by decide +kernel
theorem d_M_answer_1 : decode b_M_answer 1 = .ok (.iload_n 2, 1) := by decide +kernel
theorem d_M_answer_2 : decode b_M_answer 2 = .ok (.iconst 1, 1) := by decide +kernel
theorem d_M_answer_3 : decode b_M_answer 3 = .ok (.if_icmp .ne 7, 3) := by decide +kernel
theorem d_M_answer_6 : decode b_M_answer 6 = .ok (.iconst 2, 1) := by decide +kernel
theorem d_M_answer_7 : decode b_M_answer 7 = .ok (.goto 4, 3) := by decide +kernel
theorem d_M_answer_10 : decode b_M_answer 10 = .ok (.iconst 4, 1) := by decide +kernel
theorem d_M_answer_11 : decode b_M_answer 11 = .ok (.aload_n 0, 1) := by decide +kernel
theorem d_M_answer_12 : decode b_M_answer 12 = .ok (.getfield 23, 3) := by decide +kernel
theorem d_M_answer_15 : decode b_M_answer 15 = .ok (.iload_n 1, 1) := by decide +kernel
theorem d_M_answer_16 : decode b_M_answer 16 = .ok (.iaload, 1) := by decide +kernel
theorem d_M_answer_17 : decode b_M_answer 17 = .ok (.iload_n 3, 1) := by decide +kernel
theorem d_M_answer_18 : decode b_M_answer 18 = .ok (.invokevirtual 115, 3) := by decide +kernel
theorem d_M_answer_21 : decode b_M_answer 21 = .ok (.istore 4, 2) := by decide +kernel
theorem d_M_answer_23 : decode b_M_answer 23 = .ok (.aload_n 0, 1) := by decide +kernel
theorem d_M_answer_24 : decode b_M_answer 24 = .ok (.getfield 60, 3) := by decide +kernel
theorem d_M_answer_27 : decode b_M_answer 27 = .ok (.iload 4, 2) := by decide +kernel
theorem d_M_answer_29 : decode b_M_answer 29 = .ok (.aload_n 0, 1) := by decide +kernel
theorem d_M_answer_30 : decode b_M_answer 30 = .ok (.iload_n 3, 1) := by decide +kernel
theorem d_M_answer_31 : decode b_M_answer 31 = .ok (.aload_n 0, 1) := by decide +kernel
theorem d_M_answer_32 : decode b_M_answer 32 = .ok (.getfield 26, 3) := by decide +kernel
theorem d_M_answer_35 : decode b_M_answer 35 = .ok (.iload_n 1, 1) := by decide +kernel
theorem d_M_answer_36 : decode b_M_answer 36 = .ok (.iaload, 1) := by decide +kernel
theorem d_M_answer_37 : decode b_M_answer 37 = .ok (.aload_n 0, 1) := by decide +kernel
theorem d_M_answer_38 : decode b_M_answer 38 = .ok (.getfield 29, 3) := by decide +kernel
theorem d_M_answer_41 : decode b_M_answer 41 = .ok (.iload_n 1, 1) := by decide +kernel
theorem d_M_answer_42 : decode b_M_answer 42 = .ok (.iaload, 1) := by decide +kernel
theorem d_M_answer_43 : decode b_M_answer 43 = .ok (.aload_n 0, 1) := by decide +kernel
theorem d_M_answer_44 : decode b_M_answer 44 = .ok (.getfield 32, 3) := by decide +kernel
theorem d_M_answer_47 : decode b_M_answer 47 = .ok (.iload_n 1, 1) := by decide +kernel
theorem d_M_answer_48 : decode b_M_answer 48 = .ok (.laload, 1) := by decide +kernel
theorem d_M_answer_49 : decode b_M_answer 49 = .ok (.invokevirtual 149, 3) := by decide +kernel
theorem d_M_answer_52 : decode b_M_answer 52 = .ok (.lastore, 1) := by decide +kernel
theorem d_M_answer_53 : decode b_M_answer 53 = .ok (.aload_n 0, 1) := by decide +kernel
theorem d_M_answer_54 : decode b_M_answer 54 = .ok (.aload_n 0, 1) := by decide +kernel
theorem d_M_answer_55 : decode b_M_answer 55 = .ok (.getfield 26, 3) := by decide +kernel
theorem d_M_answer_58 : decode b_M_answer 58 = .ok (.iload_n 1, 1) := by decide +kernel
theorem d_M_answer_59 : decode b_M_answer 59 = .ok (.iaload, 1) := by decide +kernel
theorem d_M_answer_60 : decode b_M_answer 60 = .ok (.aload_n 0, 1) := by decide +kernel
theorem d_M_answer_61 : decode b_M_answer 61 = .ok (.getfield 29, 3) := by decide +kernel
theorem d_M_answer_64 : decode b_M_answer 64 = .ok (.iload_n 1, 1) := by decide +kernel
theorem d_M_answer_65 : decode b_M_answer 65 = .ok (.iaload, 1) := by decide +kernel
theorem d_M_answer_66 : decode b_M_answer 66 = .ok (.invokevirtual 90, 3) := by decide +kernel
theorem d_M_answer_69 : decode b_M_answer 69 = .ok (.istore 5, 2) := by decide +kernel
theorem d_M_answer_71 : decode b_M_answer 71 = .ok (.iconst 0, 1) := by decide +kernel
theorem d_M_answer_72 : decode b_M_answer 72 = .ok (.istore 6, 2) := by decide +kernel
theorem d_M_answer_74 : decode b_M_answer 74 = .ok (.iload 6, 2) := by decide +kernel
theorem d_M_answer_76 : decode b_M_answer 76 = .ok (.iconst 4, 1) := by decide +kernel
theorem d_M_answer_77 : decode b_M_answer 77 = .ok (.iload 5, 2) := by decide +kernel
theorem d_M_answer_79 : decode b_M_answer 79 = .ok (.imul, 1) := by decide +kernel
theorem d_M_answer_80 : decode b_M_answer 80 = .ok (.if_icmp .ge 35, 3) := by decide +kernel
theorem d_M_answer_83 : decode b_M_answer 83 = .ok (.aload_n 0, 1) := by decide +kernel
theorem d_M_answer_84 : decode b_M_answer 84 = .ok (.getfield 63, 3) := by decide +kernel
theorem d_M_answer_87 : decode b_M_answer 87 = .ok (.bipush 8, 2) := by decide +kernel
theorem d_M_answer_89 : decode b_M_answer 89 = .ok (.iload 4, 2) := by decide +kernel
theorem d_M_answer_91 : decode b_M_answer 91 = .ok (.imul, 1) := by decide +kernel
theorem d_M_answer_92 : decode b_M_answer 92 = .ok (.iload 6, 2) := by decide +kernel
theorem d_M_answer_94 : decode b_M_answer 94 = .ok (.iadd, 1) := by decide +kernel
theorem d_M_answer_95 : decode b_M_answer 95 = .ok (.aload_n 0, 1) := by decide +kernel
theorem d_M_answer_96 : decode b_M_answer 96 = .ok (.getfield 7, 3) := by decide +kernel
theorem d_M_answer_99 : decode b_M_answer 99 = .ok (.aload_n 0, 1) := by decide +kernel
theorem d_M_answer_100 : decode b_M_answer 100 = .ok (.iload_n 1, 1) := by decide +kernel
theorem d_M_answer_101 : decode b_M_answer 101 = .ok (.iload_n 3, 1) := by decide +kernel
theorem d_M_answer_102 : decode b_M_answer 102 = .ok (.iload 6, 2) := by decide +kernel
theorem d_M_answer_104 : decode b_M_answer 104 = .ok (.invokevirtual 132, 3) := by decide +kernel
theorem d_M_answer_107 : decode b_M_answer 107 = .ok (.iaload, 1) := by decide +kernel
theorem d_M_answer_108 : decode b_M_answer 108 = .ok (.iastore, 1) := by decide +kernel
theorem d_M_answer_109 : decode b_M_answer 109 = .ok (.iinc 6 1, 3) := by decide +kernel
theorem d_M_answer_112 : decode b_M_answer 112 = .ok (.goto (-38), 3) := by decide +kernel
theorem d_M_answer_115 : decode b_M_answer 115 = .ok (.return_, 1) := by decide +kernel
theorem d_M_step_0 : decode b_M_step 0 = .ok (.aload_n 0, 1) := by decide +kernel
theorem d_M_step_1 : decode b_M_step 1 = .ok (.getfield 98, 3) := by decide +kernel
theorem d_M_step_4 : decode b_M_step 4 = .ok (.ifCond .ne 5, 3) := by decide +kernel
theorem d_M_step_7 : decode b_M_step 7 = .ok (.iconst 0, 1) := by decide +kernel
theorem d_M_step_8 : decode b_M_step 8 = .ok (.ireturn, 1) := by decide +kernel
theorem d_M_step_9 : decode b_M_step 9 = .ok (.aload_n 0, 1) := by decide +kernel
theorem d_M_step_10 : decode b_M_step 10 = .ok (.getfield 51, 3) := by decide +kernel
theorem d_M_step_13 : decode b_M_step 13 = .ok (.iconst 0, 1) := by decide +kernel
theorem d_M_step_14 : decode b_M_step 14 = .ok (.iaload, 1) := by decide +kernel
theorem d_M_step_15 : decode b_M_step 15 = .ok (.istore_n 1, 1) := by decide +kernel
theorem d_M_step_16 : decode b_M_step 16 = .ok (.aload_n 0, 1) := by decide +kernel
theorem d_M_step_17 : decode b_M_step 17 = .ok (.getfield 57, 3) := by decide +kernel
theorem d_M_step_20 : decode b_M_step 20 = .ok (.iconst 0, 1) := by decide +kernel
theorem d_M_step_21 : decode b_M_step 21 = .ok (.iaload, 1) := by decide +kernel
theorem d_M_step_22 : decode b_M_step 22 = .ok (.istore_n 2, 1) := by decide +kernel
theorem d_M_step_23 : decode b_M_step 23 = .ok (.aload_n 0, 1) := by decide +kernel
theorem d_M_step_24 : decode b_M_step 24 = .ok (.aload_n 0, 1) := by decide +kernel
theorem d_M_step_25 : decode b_M_step 25 = .ok (.getfield 54, 3) := by decide +kernel
theorem d_M_step_28 : decode b_M_step 28 = .ok (.iconst 0, 1) := by decide +kernel
theorem d_M_step_29 : decode b_M_step 29 = .ok (.iaload, 1) := by decide +kernel
theorem d_M_step_30 : decode b_M_step 30 = .ok (.invokevirtual 119, 3) := by decide +kernel
theorem d_M_step_33 : decode b_M_step 33 = .ok (.istore_n 3, 1) := by decide +kernel
theorem d_M_step_34 : decode b_M_step 34 = .ok (.aload_n 0, 1) := by decide +kernel
theorem d_M_step_35 : decode b_M_step 35 = .ok (.iconst 0, 1) := by decide +kernel
theorem d_M_step_36 : decode b_M_step 36 = .ok (.invokevirtual 108, 3) := by decide +kernel
theorem d_M_step_39 : decode b_M_step 39 = .ok (.iload_n 3, 1) := by decide +kernel
theorem d_M_step_40 : decode b_M_step 40 = .ok (.ifCond .lt 54, 3) := by decide +kernel
theorem d_M_step_43 : decode b_M_step 43 = .ok (.iload_n 1, 1) := by decide +kernel
theorem d_M_step_44 : decode b_M_step 44 = .ok (.iconst 2, 1) := by decide +kernel
theorem d_M_step_45 : decode b_M_step 45 = .ok (.if_icmp .ne 19, 3) := by decide +kernel
theorem d_M_step_48 : decode b_M_step 48 = .ok (.aload_n 0, 1) := by decide +kernel
theorem d_M_step_49 : decode b_M_step 49 = .ok (.iload_n 3, 1) := by decide +kernel
theorem d_M_step_50 : decode b_M_step 50 = .ok (.iload_n 2, 1) := by decide +kernel
theorem d_M_step_51 : decode b_M_step 51 = .ok (.aload_n 0, 1) := by decide +kernel
theorem d_M_step_52 : decode b_M_step 52 = .ok (.getfield 60, 3) := by decide +kernel
theorem d_M_step_55 : decode b_M_step 55 = .ok (.bipush 24, 2) := by decide +kernel
theorem d_M_step_57 : decode b_M_step 57 = .ok (.laload, 1) := by decide +kernel
theorem d_M_step_58 : decode b_M_step 58 = .ok (.invokevirtual 153, 3) := by decide +kernel
theorem d_M_step_61 : decode b_M_step 61 = .ok (.goto 33, 3) := by decide +kernel
theorem d_M_step_64 : decode b_M_step 64 = .ok (.iload_n 1, 1) := by decide +kernel
theorem d_M_step_65 : decode b_M_step 65 = .ok (.iconst 4, 1) := by decide +kernel
theorem d_M_step_66 : decode b_M_step 66 = .ok (.if_icmp .ne 12, 3) := by decide +kernel
theorem d_M_step_69 : decode b_M_step 69 = .ok (.aload_n 0, 1) := by decide +kernel
theorem d_M_step_70 : decode b_M_step 70 = .ok (.iload_n 3, 1) := by decide +kernel
theorem d_M_step_71 : decode b_M_step 71 = .ok (.iload_n 2, 1) := by decide +kernel
theorem d_M_step_72 : decode b_M_step 72 = .ok (.invokevirtual 157, 3) := by decide +kernel
theorem d_M_step_75 : decode b_M_step 75 = .ok (.goto 19, 3) := by decide +kernel
theorem d_M_step_78 : decode b_M_step 78 = .ok (.aload_n 0, 1) := by decide +kernel
theorem d_M_step_79 : decode b_M_step 79 = .ok (.getfield 16, 3) := by decide +kernel
theorem d_M_step_82 : decode b_M_step 82 = .ok (.iload_n 2, 1) := by decide +kernel
theorem d_M_step_83 : decode b_M_step 83 = .ok (.baload, 1) := by decide +kernel
theorem d_M_step_84 : decode b_M_step 84 = .ok (.ifCond .eq 10, 3) := by decide +kernel
theorem d_M_step_87 : decode b_M_step 87 = .ok (.aload_n 0, 1) := by decide +kernel
theorem d_M_step_88 : decode b_M_step 88 = .ok (.iload_n 3, 1) := by decide +kernel
theorem d_M_step_89 : decode b_M_step 89 = .ok (.iload_n 1, 1) := by decide +kernel
theorem d_M_step_90 : decode b_M_step 90 = .ok (.iload_n 2, 1) := by decide +kernel
theorem d_M_step_91 : decode b_M_step 91 = .ok (.invokevirtual 160, 3) := by decide +kernel
theorem d_M_step_94 : decode b_M_step 94 = .ok (.iload_n 1, 1) := by decide +kernel
theorem d_M_step_95 : decode b_M_step 95 = .ok (.ireturn, 1) := by decide +kernel
theorem d_M_giveUp_0 : decode b_M_giveUp 0 = .ok (.aload_n 0, 1) := by decide +kernel
theorem d_M_giveUp_1 : decode b_M_giveUp 1 = .ok (.iload_n 1, 1) := by decide +kernel
theorem d_M_giveUp_2 : decode b_M_giveUp 2 = .ok (.invokevirtual 119, 3) := by decide +kernel
theorem d_M_giveUp_5 : decode b_M_giveUp 5 = .ok (.istore_n 2, 1) := by decide +kernel
theorem d_M_giveUp_6 : decode b_M_giveUp 6 = .ok (.iload_n 2, 1) := by decide +kernel
theorem d_M_giveUp_7 : decode b_M_giveUp 7 = .ok (.ifCond .ge 5, 3) := by decide +kernel
theorem d_M_giveUp_10 : decode b_M_giveUp 10 = .ok (.iconst 0, 1) := by decide +kernel
theorem d_M_giveUp_11 : decode b_M_giveUp 11 = .ok (.ireturn, 1) := by decide +kernel
theorem d_M_giveUp_12 : decode b_M_giveUp 12 = .ok (.aload_n 0, 1) := by decide +kernel
theorem d_M_giveUp_13 : decode b_M_giveUp 13 = .ok (.iload_n 2, 1) := by decide +kernel
theorem d_M_giveUp_14 : decode b_M_giveUp 14 = .ok (.iconst 4, 1) := by decide +kernel
theorem d_M_giveUp_15 : decode b_M_giveUp 15 = .ok (.invokevirtual 129, 3) := by decide +kernel
theorem d_M_giveUp_18 : decode b_M_giveUp 18 = .ok (.iconst 1, 1) := by decide +kernel
theorem d_M_giveUp_19 : decode b_M_giveUp 19 = .ok (.ireturn, 1) := by decide +kernel
theorem d_M_result_0 : decode b_M_result 0 = .ok (.iload_n 1, 1) := by decide +kernel
theorem d_M_result_1 : decode b_M_result 1 = .ok (.iconst 1, 1) := by decide +kernel
theorem d_M_result_2 : decode b_M_result 2 = .ok (.if_icmp .lt 11, 3) := by decide +kernel
theorem d_M_result_5 : decode b_M_result 5 = .ok (.iload_n 1, 1) := by decide +kernel
theorem d_M_result_6 : decode b_M_result 6 = .ok (.aload_n 0, 1) := by decide +kernel
theorem d_M_result_7 : decode b_M_result 7 = .ok (.getfield 112, 3) := by decide +kernel
theorem d_M_result_10 : decode b_M_result 10 = .ok (.if_icmp .le 7, 3) := by decide +kernel
theorem d_M_result_13 : decode b_M_result 13 = .ok (.iconst (-1), 1) := by decide +kernel
theorem d_M_result_14 : decode b_M_result 14 = .ok (.goto 9, 3) := by decide +kernel
theorem d_M_result_17 : decode b_M_result 17 = .ok (.aload_n 0, 1) := by decide +kernel
theorem d_M_result_18 : decode b_M_result 18 = .ok (.getfield 20, 3) := by decide +kernel
theorem d_M_result_21 : decode b_M_result 21 = .ok (.iload_n 1, 1) := by decide +kernel
theorem d_M_result_22 : decode b_M_result 22 = .ok (.iaload, 1) := by decide +kernel
theorem d_M_result_23 : decode b_M_result 23 = .ok (.ireturn, 1) := by decide +kernel
theorem d_M_close_0 : decode b_M_close 0 = .ok (.iload_n 1, 1) := by decide +kernel
theorem d_M_close_1 : decode b_M_close 1 = .ok (.invokestatic 76, 3) := by decide +kernel
theorem d_M_close_4 : decode b_M_close 4 = .ok (.ifCond .eq 12, 3) := by decide +kernel
theorem d_M_close_7 : decode b_M_close 7 = .ok (.aload_n 0, 1) := by decide +kernel
theorem d_M_close_8 : decode b_M_close 8 = .ok (.getfield 16, 3) := by decide +kernel
theorem d_M_close_11 : decode b_M_close 11 = .ok (.iload_n 1, 1) := by decide +kernel
theorem d_M_close_12 : decode b_M_close 12 = .ok (.baload, 1) := by decide +kernel
theorem d_M_close_13 : decode b_M_close 13 = .ok (.ifCond .ne 5, 3) := by decide +kernel
theorem d_M_close_16 : decode b_M_close 16 = .ok (.iconst 0, 1) := by decide +kernel
theorem d_M_close_17 : decode b_M_close 17 = .ok (.ireturn, 1) := by decide +kernel
theorem d_M_close_18 : decode b_M_close 18 = .ok (.aload_n 0, 1) := by decide +kernel
theorem d_M_close_19 : decode b_M_close 19 = .ok (.getfield 16, 3) := by decide +kernel
theorem d_M_close_22 : decode b_M_close 22 = .ok (.iload_n 1, 1) := by decide +kernel
theorem d_M_close_23 : decode b_M_close 23 = .ok (.iconst 0, 1) := by decide +kernel
theorem d_M_close_24 : decode b_M_close 24 = .ok (.bastore, 1) := by decide +kernel
theorem d_M_close_25 : decode b_M_close 25 = .ok (.iconst 1, 1) := by decide +kernel
theorem d_M_close_26 : decode b_M_close 26 = .ok (.ireturn, 1) := by decide +kernel
theorem d_M_open_0 : decode b_M_open 0 = .ok (.iload_n 1, 1) := by decide +kernel
theorem d_M_open_1 : decode b_M_open 1 = .ok (.invokestatic 76, 3) := by decide +kernel
theorem d_M_open_4 : decode b_M_open 4 = .ok (.ifCond .eq 12, 3) := by decide +kernel
theorem d_M_open_7 : decode b_M_open 7 = .ok (.aload_n 0, 1) := by decide +kernel
theorem d_M_open_8 : decode b_M_open 8 = .ok (.getfield 16, 3) := by decide +kernel
theorem d_M_open_11 : decode b_M_open 11 = .ok (.iload_n 1, 1) := by decide +kernel
theorem d_M_open_12 : decode b_M_open 12 = .ok (.baload, 1) := by decide +kernel
theorem d_M_open_13 : decode b_M_open 13 = .ok (.ifCond .eq 5, 3) := by decide +kernel
theorem d_M_open_16 : decode b_M_open 16 = .ok (.iconst 0, 1) := by decide +kernel
theorem d_M_open_17 : decode b_M_open 17 = .ok (.ireturn, 1) := by decide +kernel
theorem d_M_open_18 : decode b_M_open 18 = .ok (.aload_n 0, 1) := by decide +kernel
theorem d_M_open_19 : decode b_M_open 19 = .ok (.getfield 16, 3) := by decide +kernel
theorem d_M_open_22 : decode b_M_open 22 = .ok (.iload_n 1, 1) := by decide +kernel
theorem d_M_open_23 : decode b_M_open 23 = .ok (.iconst 1, 1) := by decide +kernel
theorem d_M_open_24 : decode b_M_open 24 = .ok (.bastore, 1) := by decide +kernel
theorem d_M_open_25 : decode b_M_open 25 = .ok (.iconst 1, 1) := by decide +kernel
theorem d_M_open_26 : decode b_M_open 26 = .ok (.ireturn, 1) := by decide +kernel
theorem d_M_round_0 : decode b_M_round 0 = .ok (.aload_n 0, 1) := by decide +kernel
theorem d_M_round_1 : decode b_M_round 1 = .ok (.getfield 66, 3) := by decide +kernel
theorem d_M_round_4 : decode b_M_round 4 = .ok (.ireturn, 1) := by decide +kernel
theorem d_M_done_0 : decode b_M_done 0 = .ok (.aload_n 0, 1) := by decide +kernel
theorem d_M_done_1 : decode b_M_done 1 = .ok (.iconst 1, 1) := by decide +kernel
theorem d_M_done_2 : decode b_M_done 2 = .ok (.invokevirtual 125, 3) := by decide +kernel
theorem d_M_done_5 : decode b_M_done 5 = .ok (.ireturn, 1) := by decide +kernel
theorem d_M_parts_0 : decode b_M_parts 0 = .ok (.aload_n 0, 1) := by decide +kernel
theorem d_M_parts_1 : decode b_M_parts 1 = .ok (.iconst 0, 1) := by decide +kernel
theorem d_M_parts_2 : decode b_M_parts 2 = .ok (.invokevirtual 125, 3) := by decide +kernel
theorem d_M_parts_5 : decode b_M_parts 5 = .ok (.ireturn, 1) := by decide +kernel
theorem d_M_mends_0 : decode b_M_mends 0 = .ok (.iload_n 1, 1) := by decide +kernel
theorem d_M_mends_1 : decode b_M_mends 1 = .ok (.invokestatic 76, 3) := by decide +kernel
theorem d_M_mends_4 : decode b_M_mends 4 = .ok (.ifCond .eq 12, 3) := by decide +kernel
theorem d_M_mends_7 : decode b_M_mends 7 = .ok (.aload_n 0, 1) := by decide +kernel
theorem d_M_mends_8 : decode b_M_mends 8 = .ok (.getfield 73, 3) := by decide +kernel
theorem d_M_mends_11 : decode b_M_mends 11 = .ok (.iload_n 1, 1) := by decide +kernel
theorem d_M_mends_12 : decode b_M_mends 12 = .ok (.iaload, 1) := by decide +kernel
theorem d_M_mends_13 : decode b_M_mends 13 = .ok (.goto 4, 3) := by decide +kernel
theorem d_M_mends_16 : decode b_M_mends 16 = .ok (.iconst (-1), 1) := by decide +kernel
theorem d_M_mends_17 : decode b_M_mends 17 = .ok (.ireturn, 1) := by decide +kernel
theorem d_M_disputes_0 : decode b_M_disputes 0 = .ok (.aload_n 0, 1) := by decide +kernel
theorem d_M_disputes_1 : decode b_M_disputes 1 = .ok (.getfield 122, 3) := by decide +kernel
theorem d_M_disputes_4 : decode b_M_disputes 4 = .ok (.ireturn, 1) := by decide +kernel
end
section
abbrev rm_H_place : Room := { frames := 0, cells := 0, slots := 0, locals := 0 }
abbrev rm_H_shift : Room := { frames := 0, cells := 0, slots := 0, locals := 0 }
abbrev rm_H_byteOf : Room := { frames := 1, cells := 0, slots := 0, locals := 21 }
abbrev rm_H_flip : Room := { frames := 1, cells := 0, slots := 0, locals := 21 }
abbrev rm_H_mend : Room := { frames := 1, cells := 0, slots := 0, locals := 21 }
abbrev rm_H_bytesOfPart : Room := { frames := 1, cells := 0, slots := 0, locals := 21 }
abbrev rm_H_sumOfPart : Room := { frames := 2, cells := 0, slots := 0, locals := 43 }
abbrev rm_H_receive : Room := { frames := 2, cells := 0, slots := 0, locals := 44 }
abbrev rm_A_forget : Room := { frames := 0, cells := 0, slots := 0, locals := 0 }
abbrev rm_A_take : Room := { frames := 0, cells := 0, slots := 0, locals := 0 }
abbrev rm_A_isComplete : Room := { frames := 0, cells := 0, slots := 0, locals := 0 }
abbrev rm_A_areAlike : Room := { frames := 0, cells := 0, slots := 0, locals := 0 }
abbrev rm_R_has : Room := { frames := 0, cells := 0, slots := 0, locals := 0 }
abbrev rm_R_add : Room := { frames := 0, cells := 0, slots := 0, locals := 0 }
abbrev rm_R_remove : Room := { frames := 0, cells := 0, slots := 0, locals := 0 }
abbrev rm_D_finishPart : Room := { frames := 0, cells := 0, slots := 0, locals := 0 }
abbrev rm_D_endIfAllDone : Room := { frames := 0, cells := 0, slots := 0, locals := 0 }
abbrev rm_P_begin : Room := { frames := 1, cells := 0, slots := 0, locals := 21 }
abbrev rm_P_copiedBlock : Room := { frames := 0, cells := 0, slots := 0, locals := 0 }
abbrev rm_P_copiesAllDiffer : Room := { frames := 1, cells := 0, slots := 0, locals := 22 }
theorem z_bi16 : (Int8.ofInt (16)).toInt32 = 16 := by decide
theorem z_k4 : Int32.ofInt (4) = 4 := by decide
theorem z_bi8 : (Int8.ofInt (8)).toInt32 = 8 := by decide
theorem dp_H_place : y_H_place.cls ≠ "java/lang/invoke/MethodHandle" ∧ y_H_place.cls ≠ "java/lang/invoke/VarHandle" ∧ (parseMethodDescriptor y_H_place.desc).map (fun d => d.parameters.length) = some 2 := by decide +kernel
theorem dp_H_shift : y_H_shift.cls ≠ "java/lang/invoke/MethodHandle" ∧ y_H_shift.cls ≠ "java/lang/invoke/VarHandle" ∧ (parseMethodDescriptor y_H_shift.desc).map (fun d => d.parameters.length) = some 1 := by decide +kernel
theorem z_si255 : (Int16.ofInt (255)).toInt32 = 255 := by decide
theorem z_k1 : Int32.ofInt (1) = 1 := by decide
theorem z_bi32 : (Int8.ofInt (32)).toInt32 = 32 := by decide
theorem z_k0 : Int32.ofInt (0) = 0 := by decide
theorem dp_H_byteOf : y_H_byteOf.cls ≠ "java/lang/invoke/MethodHandle" ∧ y_H_byteOf.cls ≠ "java/lang/invoke/VarHandle" ∧ (parseMethodDescriptor y_H_byteOf.desc).map (fun d => d.parameters.length) = some 2 := by decide +kernel
theorem z_k8 : Int32.ofInt (8) = 8 := by decide
theorem z_bi31 : (Int8.ofInt (31)).toInt32 = 31 := by decide
theorem dp_H_flip : y_H_flip.cls ≠ "java/lang/invoke/MethodHandle" ∧ y_H_flip.cls ≠ "java/lang/invoke/VarHandle" ∧ (parseMethodDescriptor y_H_flip.desc).map (fun d => d.parameters.length) = some 3 := by decide +kernel
theorem z_k3 : Int32.ofInt (3) = 3 := by decide
theorem z_q0 : (0 : Int32).toNatClampNeg = 0 := by decide
theorem z_in0_3 : vp_in (0 : Int32) 3 := by unfold vp_in; decide
theorem z_q1 : (1 : Int32).toNatClampNeg = 1 := by decide
theorem z_in1_3 : vp_in (1 : Int32) 3 := by unfold vp_in; decide
theorem z_q2 : (2 : Int32).toNatClampNeg = 2 := by decide
theorem z_in2_3 : vp_in (2 : Int32) 3 := by unfold vp_in; decide
theorem z_k2 : Int32.ofInt (2) = 2 := by decide
theorem z_o3 : 0 < z_n 3 := by decide
theorem z_bi24 : (Int8.ofInt (24)).toInt32 = 24 := by decide
theorem z_o4 : 0 < z_n 4 := by decide
theorem z_o5 : 0 < z_n 5 := by decide
theorem z_o6 : 0 < z_n 6 := by decide
theorem z_o7 : 0 < z_n 7 := by decide
theorem z_o10 : 0 < z_n 10 := by decide
theorem z_o11 : 0 < z_n 11 := by decide
theorem dp_A_forget : y_A_forget.cls ≠ "java/lang/invoke/MethodHandle" ∧ y_A_forget.cls ≠ "java/lang/invoke/VarHandle" ∧ (parseMethodDescriptor y_A_forget.desc).map (fun d => d.parameters.length) = some 0 := by decide +kernel
theorem dp_P_copiedBlock : y_P_copiedBlock.cls ≠ "java/lang/invoke/MethodHandle" ∧ y_P_copiedBlock.cls ≠ "java/lang/invoke/VarHandle" ∧ (parseMethodDescriptor y_P_copiedBlock.desc).map (fun d => d.parameters.length) = some 2 := by decide +kernel
section ZI_leaf
variable {D : va_G} {C : Nat → ClassId} {ad : Nat → Nat → Nat} {S : z_S}
variable {p : Program} {l : Launch} {e : Env} {R : Room} {s : State} {m : MethodId} {args : Array Value} {below : List Frame} {meth : Method} {c : Code} {H H0 : Heap} {locs : List Loc} {cells slots : Nat} {Q : State → Prop}
variable {cc : ByteArray} {nL pc : Nat} {ls : Array Slot} {rest : List Value}
theorem gf_H_19_12 {o : Nat} (hF : z_F D C ad p m c cc nL s args R_H) (hG : z_G D C ad H0 S H locs) (ho : o < z_n 12) (hdg : decode cc pc = .ok (.getfield 19, 3)) (kk : W p l e R s m args below meth c H locs cells slots Q (F0 m (pc + 3) ls (.ref (ad 13 o) :: rest))) : W p l e R s m args below meth c H locs cells slots Q (F0 m pc ls (.ref (ad 12 o) :: rest)) :=
  z_get hF hG ho (z_c12 C ad _ _ o) rfl wl_H 2 (by decide) wf_H_19 rfl rfl hdg kk
theorem kc_H_27 {x0 : Int32} {x1 : Int32} {r : Int32} {S2 : z_S} (hF : z_F D C ad p m c cc nL s args R_H) (hM : z_M l y_H_place b_H_place 2 (some .int) rm_H_place D C ad [.int x0, .int x1] S (z_Qi D C ad r S2)) (hG : z_G D C ad H0 S H locs) (hR : rm_H_place.frames + 1 ≤ R.frames ∧ 8 + (2 + 11) + rm_H_place.locals ≤ R.locals) (hcs : cells ≤ R.cells ∧ slots ≤ R.slots) (hsz : ls.size = nL) (hcat : (rest.map fun v => v.category).sum ≤ 8) (hdg : decode cc pc = .ok (.invokestatic 27, 3)) (kk : ∀ (H1 : Heap) (locs1 : List Loc), z_G D C ad H0 S2 H1 locs1 → W p l e R s m args below meth c H1 locs1 cells slots Q (F0 m (pc + 3) ls (.int r :: rest))) : W p l e R s m args below meth c H locs cells slots Q (F0 m pc ls (.int x1 :: .int x0 :: rest)) :=
  z_ci (z_runS (As := [.int x0, .int x1]) hF hM hG wm_H_27 wi_H_place wn_H wc_H_place dp_H_place rfl rfl hR hcs hsz hcat rfl hdg) hG kk
theorem kc_H_31 {x0 : Int32} {r : Int32} {S2 : z_S} (hF : z_F D C ad p m c cc nL s args R_H) (hM : z_M l y_H_shift b_H_shift 1 (some .int) rm_H_shift D C ad [.int x0] S (z_Qi D C ad r S2)) (hG : z_G D C ad H0 S H locs) (hR : rm_H_shift.frames + 1 ≤ R.frames ∧ 8 + (1 + 11) + rm_H_shift.locals ≤ R.locals) (hcs : cells ≤ R.cells ∧ slots ≤ R.slots) (hsz : ls.size = nL) (hcat : (rest.map fun v => v.category).sum ≤ 8) (hdg : decode cc pc = .ok (.invokestatic 31, 3)) (kk : ∀ (H1 : Heap) (locs1 : List Loc), z_G D C ad H0 S2 H1 locs1 → W p l e R s m args below meth c H1 locs1 cells slots Q (F0 m (pc + 3) ls (.int r :: rest))) : W p l e R s m args below meth c H locs cells slots Q (F0 m pc ls (.int x0 :: rest)) :=
  z_ci (z_runS (As := [.int x0]) hF hM hG wm_H_31 wi_H_shift wn_H wc_H_shift dp_H_shift rfl rfl hR hcs hsz hcat rfl hdg) hG kk
theorem gf_H_15_12 {o : Nat} (hF : z_F D C ad p m c cc nL s args R_H) (hG : z_G D C ad H0 S H locs) (ho : o < z_n 12) {v : Int32} (hv : S.1 12 o 1 = v) (hdg : decode cc pc = .ok (.getfield 15, 3)) (kk : W p l e R s m args below meth c H locs cells slots Q (F0 m (pc + 3) ls (.int v :: rest))) : W p l e R s m args below meth c H locs cells slots Q (F0 m pc ls (.ref (ad 12 o) :: rest)) :=
  z_get hF hG ho (z_c12 C ad _ _ o) rfl wl_H 1 (by decide) wf_H_15 rfl (by subst hv; rfl) hdg kk
theorem pf_H_15_12 {o : Nat} {v : Int32} (hF : z_F D C ad p m c cc nL s args R_H) (hG : z_G D C ad H0 S H locs) (ho : o < z_n 12) (hdg : decode cc pc = .ok (.putfield 15, 3)) (kk : ∀ (H1 : Heap) (locs1 : List Loc), z_G D C ad H0 (z_sI S 12 o 1 v) H1 locs1 → W p l e R s m args below meth c H1 locs1 cells slots Q (F0 m (pc + 3) ls rest)) : W p l e R s m args below meth c H locs cells slots Q (F0 m pc ls (.int v :: .ref (ad 12 o) :: rest)) :=
  z_put (S' := z_sI S 12 o 1 v) hF hG ho (z_c12 C ad _ _ o) rfl wl_H t_H t_H_ok n_H 1 (by decide) wf_H_15 rfl rfl (ty := .int) (by decide +kernel) rfl rfl (Nat.le_of_ble_eq_true rfl) (fun a2 o2 hne => ⟨z_sI_ne S 12 o 1 v hne, rfl⟩) (by rw [z_sI_at]; rfl) hdg kk
theorem kc_H_39 {o : Nat} {x0 : Int32} {x1 : Int32} {r : Int32} {S2 : z_S} (hF : z_F D C ad p m c cc nL s args R_H) (hM : z_M l y_H_byteOf b_H_byteOf 3 (some .int) rm_H_byteOf D C ad [.ref (ad 12 o), .int x0, .int x1] S (z_Qi D C ad r S2)) (hG : z_G D C ad H0 S H locs) (ho : o < z_n 12) (hR : rm_H_byteOf.frames + 1 ≤ R.frames ∧ 8 + (3 + 11) + rm_H_byteOf.locals ≤ R.locals) (hcs : cells ≤ R.cells ∧ slots ≤ R.slots) (hsz : ls.size = nL) (hcat : (rest.map fun v => v.category).sum ≤ 8) (hdg : decode cc pc = .ok (.invokevirtual 39, 3)) (kk : ∀ (H1 : Heap) (locs1 : List Loc), z_G D C ad H0 S2 H1 locs1 → W p l e R s m args below meth c H1 locs1 cells slots Q (F0 m (pc + 3) ls (.int r :: rest))) : W p l e R s m args below meth c H locs cells slots Q (F0 m pc ls (.int x1 :: .int x0 :: .ref (ad 12 o) :: rest)) :=
  z_ci (z_runV (As := [.int x0, .int x1]) hF hM hG ho (z_c12 C ad _ _ o) rfl wm_H_39 wi_H_byteOf ws_H_byteOf wn_H wc_H_byteOf dp_H_byteOf rfl rfl hR hcs hsz hcat rfl hdg) hG kk
theorem kc_H_23 {o : Nat} {x0 : Int32} {x1 : Int32} {x2 : Int32} {S2 : z_S} (hF : z_F D C ad p m c cc nL s args R_H) (hM : z_M l y_H_flip b_H_flip 4 none rm_H_flip D C ad [.ref (ad 12 o), .int x0, .int x1, .int x2] S (z_Qv D C ad S2)) (hG : z_G D C ad H0 S H locs) (ho : o < z_n 12) (hR : rm_H_flip.frames + 1 ≤ R.frames ∧ 8 + (4 + 11) + rm_H_flip.locals ≤ R.locals) (hcs : cells ≤ R.cells ∧ slots ≤ R.slots) (hsz : ls.size = nL) (hcat : (rest.map fun v => v.category).sum ≤ 8) (hdg : decode cc pc = .ok (.invokevirtual 23, 3)) (kk : ∀ (H1 : Heap) (locs1 : List Loc), z_G D C ad H0 S2 H1 locs1 → W p l e R s m args below meth c H1 locs1 cells slots Q (F0 m (pc + 3) ls rest)) : W p l e R s m args below meth c H locs cells slots Q (F0 m pc ls (.int x2 :: .int x1 :: .int x0 :: .ref (ad 12 o) :: rest)) :=
  z_cv (z_runV (As := [.int x0, .int x1, .int x2]) hF hM hG ho (z_c12 C ad _ _ o) rfl wm_H_23 wi_H_flip ws_H_flip wn_H wc_H_flip dp_H_flip rfl rfl hR hcs hsz hcat rfl hdg) hG kk
theorem gf_A_9_15 {o : Nat} (hF : z_F D C ad p m c cc nL s args R_A) (hG : z_G D C ad H0 S H locs) (ho : o < z_n 15) (hdg : decode cc pc = .ok (.getfield 9, 3)) (kk : W p l e R s m args below meth c H locs cells slots Q (F0 m (pc + 3) ls (.ref (ad 16 o) :: rest))) : W p l e R s m args below meth c H locs cells slots Q (F0 m pc ls (.ref (ad 15 o) :: rest)) :=
  z_get hF hG ho (z_c15 C ad _ _ o) rfl wl_A 0 (by decide) wf_A_9 rfl rfl hdg kk
theorem pf_A_19_15 {o : Nat} {v : Int32} (hF : z_F D C ad p m c cc nL s args R_A) (hG : z_G D C ad H0 S H locs) (ho : o < z_n 15) (hdg : decode cc pc = .ok (.putfield 19, 3)) (kk : ∀ (H1 : Heap) (locs1 : List Loc), z_G D C ad H0 (z_sI S 15 o 2 v) H1 locs1 → W p l e R s m args below meth c H1 locs1 cells slots Q (F0 m (pc + 3) ls rest)) : W p l e R s m args below meth c H locs cells slots Q (F0 m pc ls (.int v :: .ref (ad 15 o) :: rest)) :=
  z_put (S' := z_sI S 15 o 2 v) hF hG ho (z_c15 C ad _ _ o) rfl wl_A t_A t_A_ok n_A 2 (by decide) wf_A_19 rfl rfl (ty := .int) (by decide +kernel) rfl rfl (Nat.le_of_ble_eq_true rfl) (fun a2 o2 hne => ⟨z_sI_ne S 15 o 2 v hne, rfl⟩) (by rw [z_sI_at]; rfl) hdg kk
theorem gf_A_15_15 {o : Nat} (hF : z_F D C ad p m c cc nL s args R_A) (hG : z_G D C ad H0 S H locs) (ho : o < z_n 15) (hdg : decode cc pc = .ok (.getfield 15, 3)) (kk : W p l e R s m args below meth c H locs cells slots Q (F0 m (pc + 3) ls (.ref (ad 17 o) :: rest))) : W p l e R s m args below meth c H locs cells slots Q (F0 m pc ls (.ref (ad 15 o) :: rest)) :=
  z_get hF hG ho (z_c15 C ad _ _ o) rfl wl_A 1 (by decide) wf_A_15 rfl rfl hdg kk
theorem gf_A_19_15 {o : Nat} (hF : z_F D C ad p m c cc nL s args R_A) (hG : z_G D C ad H0 S H locs) (ho : o < z_n 15) {v : Int32} (hv : S.1 15 o 2 = v) (hdg : decode cc pc = .ok (.getfield 19, 3)) (kk : W p l e R s m args below meth c H locs cells slots Q (F0 m (pc + 3) ls (.int v :: rest))) : W p l e R s m args below meth c H locs cells slots Q (F0 m pc ls (.ref (ad 15 o) :: rest)) :=
  z_get hF hG ho (z_c15 C ad _ _ o) rfl wl_A 2 (by decide) wf_A_19 rfl (by subst hv; rfl) hdg kk
theorem gf_A_9_18 {o : Nat} (hF : z_F D C ad p m c cc nL s args R_A) (hG : z_G D C ad H0 S H locs) (ho : o < z_n 18) (hdg : decode cc pc = .ok (.getfield 9, 3)) (kk : W p l e R s m args below meth c H locs cells slots Q (F0 m (pc + 3) ls (.ref (ad 19 o) :: rest))) : W p l e R s m args below meth c H locs cells slots Q (F0 m pc ls (.ref (ad 18 o) :: rest)) :=
  z_get hF hG ho (z_c18 C ad _ _ o) rfl wl_A 0 (by decide) wf_A_9 rfl rfl hdg kk
theorem pf_A_19_18 {o : Nat} {v : Int32} (hF : z_F D C ad p m c cc nL s args R_A) (hG : z_G D C ad H0 S H locs) (ho : o < z_n 18) (hdg : decode cc pc = .ok (.putfield 19, 3)) (kk : ∀ (H1 : Heap) (locs1 : List Loc), z_G D C ad H0 (z_sI S 18 o 2 v) H1 locs1 → W p l e R s m args below meth c H1 locs1 cells slots Q (F0 m (pc + 3) ls rest)) : W p l e R s m args below meth c H locs cells slots Q (F0 m pc ls (.int v :: .ref (ad 18 o) :: rest)) :=
  z_put (S' := z_sI S 18 o 2 v) hF hG ho (z_c18 C ad _ _ o) rfl wl_A t_A t_A_ok n_A 2 (by decide) wf_A_19 rfl rfl (ty := .int) (by decide +kernel) rfl rfl (Nat.le_of_ble_eq_true rfl) (fun a2 o2 hne => ⟨z_sI_ne S 18 o 2 v hne, rfl⟩) (by rw [z_sI_at]; rfl) hdg kk
theorem gf_A_15_18 {o : Nat} (hF : z_F D C ad p m c cc nL s args R_A) (hG : z_G D C ad H0 S H locs) (ho : o < z_n 18) (hdg : decode cc pc = .ok (.getfield 15, 3)) (kk : W p l e R s m args below meth c H locs cells slots Q (F0 m (pc + 3) ls (.ref (ad 20 o) :: rest))) : W p l e R s m args below meth c H locs cells slots Q (F0 m pc ls (.ref (ad 18 o) :: rest)) :=
  z_get hF hG ho (z_c18 C ad _ _ o) rfl wl_A 1 (by decide) wf_A_15 rfl rfl hdg kk
theorem gf_A_19_18 {o : Nat} (hF : z_F D C ad p m c cc nL s args R_A) (hG : z_G D C ad H0 S H locs) (ho : o < z_n 18) {v : Int32} (hv : S.1 18 o 2 = v) (hdg : decode cc pc = .ok (.getfield 19, 3)) (kk : W p l e R s m args below meth c H locs cells slots Q (F0 m (pc + 3) ls (.int v :: rest))) : W p l e R s m args below meth c H locs cells slots Q (F0 m pc ls (.ref (ad 18 o) :: rest)) :=
  z_get hF hG ho (z_c18 C ad _ _ o) rfl wl_A 2 (by decide) wf_A_19 rfl (by subst hv; rfl) hdg kk
theorem gf_R_25_3 (hF : z_F D C ad p m c cc nL s args R_R) (hG : z_G D C ad H0 S H locs) {v : Int32} (hv : S.1 3 0 4 = v) (hdg : decode cc pc = .ok (.getfield 25, 3)) (kk : W p l e R s m args below meth c H locs cells slots Q (F0 m (pc + 3) ls (.int v :: rest))) : W p l e R s m args below meth c H locs cells slots Q (F0 m pc ls (.ref (ad 3 0) :: rest)) :=
  z_get hF hG z_o3 (z_c3 C ad _ _ 0) rfl wl_R 4 (by decide) wf_R_25 rfl (by subst hv; rfl) hdg kk
theorem gf_R_9_3 (hF : z_F D C ad p m c cc nL s args R_R) (hG : z_G D C ad H0 S H locs) (hdg : decode cc pc = .ok (.getfield 9, 3)) (kk : W p l e R s m args below meth c H locs cells slots Q (F0 m (pc + 3) ls (.ref (ad 4 0) :: rest))) : W p l e R s m args below meth c H locs cells slots Q (F0 m pc ls (.ref (ad 3 0) :: rest)) :=
  z_get hF hG z_o3 (z_c3 C ad _ _ 0) rfl wl_R 0 (by decide) wf_R_9 rfl rfl hdg kk
theorem gf_R_15_3 (hF : z_F D C ad p m c cc nL s args R_R) (hG : z_G D C ad H0 S H locs) (hdg : decode cc pc = .ok (.getfield 15, 3)) (kk : W p l e R s m args below meth c H locs cells slots Q (F0 m (pc + 3) ls (.ref (ad 5 0) :: rest))) : W p l e R s m args below meth c H locs cells slots Q (F0 m pc ls (.ref (ad 3 0) :: rest)) :=
  z_get hF hG z_o3 (z_c3 C ad _ _ 0) rfl wl_R 1 (by decide) wf_R_15 rfl rfl hdg kk
theorem gf_R_18_3 (hF : z_F D C ad p m c cc nL s args R_R) (hG : z_G D C ad H0 S H locs) (hdg : decode cc pc = .ok (.getfield 18, 3)) (kk : W p l e R s m args below meth c H locs cells slots Q (F0 m (pc + 3) ls (.ref (ad 6 0) :: rest))) : W p l e R s m args below meth c H locs cells slots Q (F0 m pc ls (.ref (ad 3 0) :: rest)) :=
  z_get hF hG z_o3 (z_c3 C ad _ _ 0) rfl wl_R 2 (by decide) wf_R_18 rfl rfl hdg kk
theorem gf_R_21_3 (hF : z_F D C ad p m c cc nL s args R_R) (hG : z_G D C ad H0 S H locs) (hdg : decode cc pc = .ok (.getfield 21, 3)) (kk : W p l e R s m args below meth c H locs cells slots Q (F0 m (pc + 3) ls (.ref (ad 7 0) :: rest))) : W p l e R s m args below meth c H locs cells slots Q (F0 m pc ls (.ref (ad 3 0) :: rest)) :=
  z_get hF hG z_o3 (z_c3 C ad _ _ 0) rfl wl_R 3 (by decide) wf_R_21 rfl rfl hdg kk
theorem pf_R_25_3 {v : Int32} (hF : z_F D C ad p m c cc nL s args R_R) (hG : z_G D C ad H0 S H locs) (hdg : decode cc pc = .ok (.putfield 25, 3)) (kk : ∀ (H1 : Heap) (locs1 : List Loc), z_G D C ad H0 (z_sI S 3 0 4 v) H1 locs1 → W p l e R s m args below meth c H1 locs1 cells slots Q (F0 m (pc + 3) ls rest)) : W p l e R s m args below meth c H locs cells slots Q (F0 m pc ls (.int v :: .ref (ad 3 0) :: rest)) :=
  z_put (S' := z_sI S 3 0 4 v) hF hG z_o3 (z_c3 C ad _ _ 0) rfl wl_R t_R t_R_ok n_R 4 (by decide) wf_R_25 rfl rfl (ty := .int) (by decide +kernel) rfl rfl (Nat.le_of_ble_eq_true rfl) (fun a2 o2 hne => ⟨z_sI_ne S 3 0 4 v hne, rfl⟩) (by rw [z_sI_at]; rfl) hdg kk
theorem gf_D_9_10 (hF : z_F D C ad p m c cc nL s args R_D) (hG : z_G D C ad H0 S H locs) {v : Int32} (hv : S.1 10 0 0 = v) (hdg : decode cc pc = .ok (.getfield 9, 3)) (kk : W p l e R s m args below meth c H locs cells slots Q (F0 m (pc + 3) ls (.int v :: rest))) : W p l e R s m args below meth c H locs cells slots Q (F0 m pc ls (.ref (ad 10 0) :: rest)) :=
  z_get hF hG z_o10 (z_c10 C ad _ _ 0) rfl wl_D 0 (by decide) wf_D_9 rfl (by subst hv; rfl) hdg kk
theorem gf_D_18_10 (hF : z_F D C ad p m c cc nL s args R_D) (hG : z_G D C ad H0 S H locs) (hdg : decode cc pc = .ok (.getfield 18, 3)) (kk : W p l e R s m args below meth c H locs cells slots Q (F0 m (pc + 3) ls (.ref (ad 11 0) :: rest))) : W p l e R s m args below meth c H locs cells slots Q (F0 m pc ls (.ref (ad 10 0) :: rest)) :=
  z_get hF hG z_o10 (z_c10 C ad _ _ 0) rfl wl_D 2 (by decide) wf_D_18 rfl rfl hdg kk
theorem gf_D_15_10 (hF : z_F D C ad p m c cc nL s args R_D) (hG : z_G D C ad H0 S H locs) {v : Int32} (hv : S.1 10 0 1 = v) (hdg : decode cc pc = .ok (.getfield 15, 3)) (kk : W p l e R s m args below meth c H locs cells slots Q (F0 m (pc + 3) ls (.int v :: rest))) : W p l e R s m args below meth c H locs cells slots Q (F0 m pc ls (.ref (ad 10 0) :: rest)) :=
  z_get hF hG z_o10 (z_c10 C ad _ _ 0) rfl wl_D 1 (by decide) wf_D_15 rfl (by subst hv; rfl) hdg kk
theorem pf_D_15_10 {v : Int32} (hF : z_F D C ad p m c cc nL s args R_D) (hG : z_G D C ad H0 S H locs) (hdg : decode cc pc = .ok (.putfield 15, 3)) (kk : ∀ (H1 : Heap) (locs1 : List Loc), z_G D C ad H0 (z_sI S 10 0 1 v) H1 locs1 → W p l e R s m args below meth c H1 locs1 cells slots Q (F0 m (pc + 3) ls rest)) : W p l e R s m args below meth c H locs cells slots Q (F0 m pc ls (.int v :: .ref (ad 10 0) :: rest)) :=
  z_put (S' := z_sI S 10 0 1 v) hF hG z_o10 (z_c10 C ad _ _ 0) rfl wl_D t_D t_D_ok n_D 1 (by decide) wf_D_15 rfl rfl (ty := .int) (by decide +kernel) rfl rfl (Nat.le_of_ble_eq_true rfl) (fun a2 o2 hne => ⟨z_sI_ne S 10 0 1 v hne, rfl⟩) (by rw [z_sI_at]; rfl) hdg kk
theorem pf_D_9_10 {v : Int32} (hF : z_F D C ad p m c cc nL s args R_D) (hG : z_G D C ad H0 S H locs) (hdg : decode cc pc = .ok (.putfield 9, 3)) (kk : ∀ (H1 : Heap) (locs1 : List Loc), z_G D C ad H0 (z_sI S 10 0 0 v) H1 locs1 → W p l e R s m args below meth c H1 locs1 cells slots Q (F0 m (pc + 3) ls rest)) : W p l e R s m args below meth c H locs cells slots Q (F0 m pc ls (.int v :: .ref (ad 10 0) :: rest)) :=
  z_put (S' := z_sI S 10 0 0 v) hF hG z_o10 (z_c10 C ad _ _ 0) rfl wl_D t_D t_D_ok n_D 0 (by decide) wf_D_9 rfl rfl (ty := .int) (by decide +kernel) rfl rfl (Nat.le_of_ble_eq_true rfl) (fun a2 o2 hne => ⟨z_sI_ne S 10 0 0 v hne, rfl⟩) (by rw [z_sI_at]; rfl) hdg kk
theorem pf_P_9_14 {o : Nat} {v : Int32} (hF : z_F D C ad p m c cc nL s args R_P) (hG : z_G D C ad H0 S H locs) (ho : o < z_n 14) (hdg : decode cc pc = .ok (.putfield 9, 3)) (kk : ∀ (H1 : Heap) (locs1 : List Loc), z_G D C ad H0 (z_sI S 14 o 0 v) H1 locs1 → W p l e R s m args below meth c H1 locs1 cells slots Q (F0 m (pc + 3) ls rest)) : W p l e R s m args below meth c H locs cells slots Q (F0 m pc ls (.int v :: .ref (ad 14 o) :: rest)) :=
  z_put (S' := z_sI S 14 o 0 v) hF hG ho (z_c14 C ad _ _ o) rfl wl_P t_P t_P_ok n_P 0 (by decide) wf_P_9 rfl rfl (ty := .int) (by decide +kernel) rfl rfl (Nat.le_of_ble_eq_true rfl) (fun a2 o2 hne => ⟨z_sI_ne S 14 o 0 v hne, rfl⟩) (by rw [z_sI_at]; rfl) hdg kk
theorem pf_P_15_14 {o : Nat} {v : Int32} (hF : z_F D C ad p m c cc nL s args R_P) (hG : z_G D C ad H0 S H locs) (ho : o < z_n 14) (hdg : decode cc pc = .ok (.putfield 15, 3)) (kk : ∀ (H1 : Heap) (locs1 : List Loc), z_G D C ad H0 (z_sI S 14 o 1 v) H1 locs1 → W p l e R s m args below meth c H1 locs1 cells slots Q (F0 m (pc + 3) ls rest)) : W p l e R s m args below meth c H locs cells slots Q (F0 m pc ls (.int v :: .ref (ad 14 o) :: rest)) :=
  z_put (S' := z_sI S 14 o 1 v) hF hG ho (z_c14 C ad _ _ o) rfl wl_P t_P t_P_ok n_P 1 (by decide) wf_P_15 rfl rfl (ty := .int) (by decide +kernel) rfl rfl (Nat.le_of_ble_eq_true rfl) (fun a2 o2 hne => ⟨z_sI_ne S 14 o 1 v hne, rfl⟩) (by rw [z_sI_at]; rfl) hdg kk
theorem pf_P_18_14 {o : Nat} {v : Int32} (hF : z_F D C ad p m c cc nL s args R_P) (hG : z_G D C ad H0 S H locs) (ho : o < z_n 14) (hdg : decode cc pc = .ok (.putfield 18, 3)) (kk : ∀ (H1 : Heap) (locs1 : List Loc), z_G D C ad H0 (z_sI S 14 o 2 v) H1 locs1 → W p l e R s m args below meth c H1 locs1 cells slots Q (F0 m (pc + 3) ls rest)) : W p l e R s m args below meth c H locs cells slots Q (F0 m pc ls (.int v :: .ref (ad 14 o) :: rest)) :=
  z_put (S' := z_sI S 14 o 2 v) hF hG ho (z_c14 C ad _ _ o) rfl wl_P t_P t_P_ok n_P 2 (by decide) wf_P_18 rfl rfl (ty := .int) (by decide +kernel) rfl rfl (Nat.le_of_ble_eq_true rfl) (fun a2 o2 hne => ⟨z_sI_ne S 14 o 2 v hne, rfl⟩) (by rw [z_sI_at]; rfl) hdg kk
theorem pf_P_21_14 {o : Nat} {v : Int64} (hF : z_F D C ad p m c cc nL s args R_P) (hG : z_G D C ad H0 S H locs) (ho : o < z_n 14) (hdg : decode cc pc = .ok (.putfield 21, 3)) (kk : ∀ (H1 : Heap) (locs1 : List Loc), z_G D C ad H0 (z_sL S 14 o 3 v) H1 locs1 → W p l e R s m args below meth c H1 locs1 cells slots Q (F0 m (pc + 3) ls rest)) : W p l e R s m args below meth c H locs cells slots Q (F0 m pc ls (.long v :: .ref (ad 14 o) :: rest)) :=
  z_put (S' := z_sL S 14 o 3 v) hF hG ho (z_c14 C ad _ _ o) rfl wl_P t_P t_P_ok n_P 3 (by decide) wf_P_21 rfl rfl (ty := .long) (by decide +kernel) rfl rfl (Nat.le_of_ble_eq_true rfl) (fun a2 o2 hne => ⟨rfl, z_sL_ne S 14 o 3 v hne⟩) (by rw [z_sL_at]; rfl) hdg kk
theorem pf_P_25_14 {o : Nat} {v : Int32} (hF : z_F D C ad p m c cc nL s args R_P) (hG : z_G D C ad H0 S H locs) (ho : o < z_n 14) (hdg : decode cc pc = .ok (.putfield 25, 3)) (kk : ∀ (H1 : Heap) (locs1 : List Loc), z_G D C ad H0 (z_sI S 14 o 4 v) H1 locs1 → W p l e R s m args below meth c H1 locs1 cells slots Q (F0 m (pc + 3) ls rest)) : W p l e R s m args below meth c H locs cells slots Q (F0 m pc ls (.int v :: .ref (ad 14 o) :: rest)) :=
  z_put (S' := z_sI S 14 o 4 v) hF hG ho (z_c14 C ad _ _ o) rfl wl_P t_P t_P_ok n_P 4 (by decide) wf_P_25 rfl rfl (ty := .int) (by decide +kernel) rfl rfl (Nat.le_of_ble_eq_true rfl) (fun a2 o2 hne => ⟨z_sI_ne S 14 o 4 v hne, rfl⟩) (by rw [z_sI_at]; rfl) hdg kk
theorem gf_P_31_14 {o : Nat} (hF : z_F D C ad p m c cc nL s args R_P) (hG : z_G D C ad H0 S H locs) (ho : o < z_n 14) (hdg : decode cc pc = .ok (.getfield 31, 3)) (kk : W p l e R s m args below meth c H locs cells slots Q (F0 m (pc + 3) ls (.ref (ad 15 o) :: rest))) : W p l e R s m args below meth c H locs cells slots Q (F0 m pc ls (.ref (ad 14 o) :: rest)) :=
  z_get hF hG ho (z_c14 C ad _ _ o) rfl wl_P 5 (by decide) wf_P_31 rfl rfl hdg kk
theorem kc_P_38_15 {o : Nat}  {S2 : z_S} (hF : z_F D C ad p m c cc nL s args R_P) (hM : z_M l y_A_forget b_A_forget 2 none rm_A_forget D C ad [.ref (ad 15 o)] S (z_Qv D C ad S2)) (hG : z_G D C ad H0 S H locs) (ho : o < z_n 15) (hR : rm_A_forget.frames + 1 ≤ R.frames ∧ 8 + (2 + 11) + rm_A_forget.locals ≤ R.locals) (hcs : cells ≤ R.cells ∧ slots ≤ R.slots) (hsz : ls.size = nL) (hcat : (rest.map fun v => v.category).sum ≤ 8) (hdg : decode cc pc = .ok (.invokevirtual 38, 3)) (kk : ∀ (H1 : Heap) (locs1 : List Loc), z_G D C ad H0 S2 H1 locs1 → W p l e R s m args below meth c H1 locs1 cells slots Q (F0 m (pc + 3) ls rest)) : W p l e R s m args below meth c H locs cells slots Q (F0 m pc ls (.ref (ad 15 o) :: rest)) :=
  z_cv (z_runV (As := []) hF hM hG ho (z_c15 C ad _ _ o) rfl wm_P_38 wi_A_forget ws_A_forget wn_A wc_A_forget dp_A_forget rfl rfl hR hcs hsz hcat rfl hdg) hG kk
theorem gf_P_35_14 {o : Nat} (hF : z_F D C ad p m c cc nL s args R_P) (hG : z_G D C ad H0 S H locs) (ho : o < z_n 14) (hdg : decode cc pc = .ok (.getfield 35, 3)) (kk : W p l e R s m args below meth c H locs cells slots Q (F0 m (pc + 3) ls (.ref (ad 18 o) :: rest))) : W p l e R s m args below meth c H locs cells slots Q (F0 m pc ls (.ref (ad 14 o) :: rest)) :=
  z_get hF hG ho (z_c14 C ad _ _ o) rfl wl_P 6 (by decide) wf_P_35 rfl rfl hdg kk
theorem kc_P_38_18 {o : Nat}  {S2 : z_S} (hF : z_F D C ad p m c cc nL s args R_P) (hM : z_M l y_A_forget b_A_forget 2 none rm_A_forget D C ad [.ref (ad 18 o)] S (z_Qv D C ad S2)) (hG : z_G D C ad H0 S H locs) (ho : o < z_n 18) (hR : rm_A_forget.frames + 1 ≤ R.frames ∧ 8 + (2 + 11) + rm_A_forget.locals ≤ R.locals) (hcs : cells ≤ R.cells ∧ slots ≤ R.slots) (hsz : ls.size = nL) (hcat : (rest.map fun v => v.category).sum ≤ 8) (hdg : decode cc pc = .ok (.invokevirtual 38, 3)) (kk : ∀ (H1 : Heap) (locs1 : List Loc), z_G D C ad H0 S2 H1 locs1 → W p l e R s m args below meth c H1 locs1 cells slots Q (F0 m (pc + 3) ls rest)) : W p l e R s m args below meth c H locs cells slots Q (F0 m pc ls (.ref (ad 18 o) :: rest)) :=
  z_cv (z_runV (As := []) hF hM hG ho (z_c18 C ad _ _ o) rfl wm_P_38 wi_A_forget ws_A_forget wn_A wc_A_forget dp_A_forget rfl rfl hR hcs hsz hcat rfl hdg) hG kk
theorem gf_P_41_18 {o : Nat} (hF : z_F D C ad p m c cc nL s args R_P) (hG : z_G D C ad H0 S H locs) (ho : o < z_n 18) (hdg : decode cc pc = .ok (.getfield 41, 3)) (kk : W p l e R s m args below meth c H locs cells slots Q (F0 m (pc + 3) ls (.ref (ad 20 o) :: rest))) : W p l e R s m args below meth c H locs cells slots Q (F0 m pc ls (.ref (ad 18 o) :: rest)) :=
  z_get hF hG ho (z_c18 C ad _ _ o) rfl wl_A 1 (by decide) wf_P_41 rfl rfl hdg kk
theorem kc_P_45 {o : Nat} {x0 : Int32} {x1 : Int32} {r : Int32} {S2 : z_S} (hF : z_F D C ad p m c cc nL s args R_P) (hM : z_M l y_P_copiedBlock b_P_copiedBlock 3 (some .int) rm_P_copiedBlock D C ad [.ref (ad 14 o), .int x0, .int x1] S (z_Qi D C ad r S2)) (hG : z_G D C ad H0 S H locs) (ho : o < z_n 14) (hR : rm_P_copiedBlock.frames + 1 ≤ R.frames ∧ 8 + (3 + 11) + rm_P_copiedBlock.locals ≤ R.locals) (hcs : cells ≤ R.cells ∧ slots ≤ R.slots) (hsz : ls.size = nL) (hcat : (rest.map fun v => v.category).sum ≤ 8) (hdg : decode cc pc = .ok (.invokevirtual 45, 3)) (kk : ∀ (H1 : Heap) (locs1 : List Loc), z_G D C ad H0 S2 H1 locs1 → W p l e R s m args below meth c H1 locs1 cells slots Q (F0 m (pc + 3) ls (.int r :: rest))) : W p l e R s m args below meth c H locs cells slots Q (F0 m pc ls (.int x1 :: .int x0 :: .ref (ad 14 o) :: rest)) :=
  z_ci (z_runV (As := [.int x0, .int x1]) hF hM hG ho (z_c14 C ad _ _ o) rfl wm_P_45 wi_P_copiedBlock ws_P_copiedBlock wn_P wc_P_copiedBlock dp_P_copiedBlock rfl rfl hR hcs hsz hcat rfl hdg) hG kk
end ZI_leaf
end
section
def f_H_place (x0 : Int32) (x1 : Int32) : Int32 := ((x0 * 16) + x1)
set_option maxHeartbeats 4000000 in
set_option maxRecDepth 100000 in
theorem c_H_place (l : Launch) (D : va_G) (C : Nat → ClassId) (ad : Nat → Nat → Nat) (hJ : z_J ad) (S : z_S) (x0 : Int32) (x1 : Int32)  : z_M l y_H_place b_H_place 2 (some .int) rm_H_place D C ad [.int x0, .int x1] S (z_Qi D C ad (f_H_place x0 x1) S) := by
  refine z_enter (by decide) (Nat.le_of_ble_eq_true rfl) hJ ?_
  intro p e s m below meth c ls hF hr hlk hl hG
  obtain ⟨hx, hb, hml, hown, hts⟩ := hF.1
  have hl : lv_has ls 2 [(0, .int x0), (1, .int x1)] := hl
  refine lv_iload_n hx hb d_H_place_0 rfl (lv_at hl 0 rfl) ?_
  refine lv_bipush (v := 16) hx hb d_H_place_1 z_bi16 ?_
  refine lv_imul hx hb d_H_place_3 ?_
  refine lv_iload_n hx hb d_H_place_4 rfl (lv_at hl 1 rfl) ?_
  refine lv_iadd hx hb d_H_place_5 ?_
  exact z_iret hF hr hlk hG rfl rfl d_H_place_6
def f_H_shift (x0 : Int32) : Int32 := ((x0 - x0 / 4 * 4) * 8)
set_option maxHeartbeats 4000000 in
set_option maxRecDepth 100000 in
theorem c_H_shift (l : Launch) (D : va_G) (C : Nat → ClassId) (ad : Nat → Nat → Nat) (hJ : z_J ad) (S : z_S) (x0 : Int32)  : z_M l y_H_shift b_H_shift 1 (some .int) rm_H_shift D C ad [.int x0] S (z_Qi D C ad (f_H_shift x0) S) := by
  refine z_enter (by decide) (Nat.le_of_ble_eq_true rfl) hJ ?_
  intro p e s m below meth c ls hF hr hlk hl hG
  obtain ⟨hx, hb, hml, hown, hts⟩ := hF.1
  have hl : lv_has ls 1 [(0, .int x0)] := hl
  refine lv_iload_n hx hb d_H_shift_0 rfl (lv_at hl 0 rfl) ?_
  refine lv_iconst (v := 4) hx hb d_H_shift_1 z_k4 ?_
  refine lv_irem hx hb d_H_shift_2 (by decide) ?_
  refine lv_bipush (v := 8) hx hb d_H_shift_3 z_bi8 ?_
  refine lv_imul hx hb d_H_shift_5 ?_
  exact z_iret hF hr hlk hG rfl rfl d_H_shift_6
def f_H_byteOf (S : z_S) (o : Nat) (x0 : Int32) (x1 : Int32) : Int32 := (((S.1 13 o ((f_H_place x0 (x1 / 4)).toNatClampNeg)).toUInt32 >>> ((f_H_shift x1).toUInt32 &&& Int32.toUInt32 31)).toInt32 &&& 255)
set_option maxHeartbeats 4000000 in
set_option maxRecDepth 100000 in
theorem c_H_byteOf (l : Launch) (D : va_G) (C : Nat → ClassId) (ad : Nat → Nat → Nat) (hJ : z_J ad) (S : z_S) (o : Nat) (ho : o < z_n 12) (x0 : Int32) (x1 : Int32) (hin : vp_in (f_H_place x0 (x1 / 4)) 96) : z_M l y_H_byteOf b_H_byteOf 3 (some .int) rm_H_byteOf D C ad [.ref (ad 12 o), .int x0, .int x1] S (z_Qi D C ad (f_H_byteOf S o x0 x1) S) := by
  refine z_enter (by decide) (Nat.le_of_ble_eq_true rfl) hJ ?_
  intro p e s m below meth c ls hF hr hlk hl hG
  obtain ⟨hx, hb, hml, hown, hts⟩ := hF.1
  have hl : lv_has ls 3 [(0, .ref (ad 12 o)), (1, .int x0), (2, .int x1)] := hl
  refine lv_aload_n hx hb d_H_byteOf_0 rfl (lv_at hl 0 rfl) ?_
  refine gf_H_19_12 hF hG ho d_H_byteOf_1 ?_
  refine lv_iload_n hx hb d_H_byteOf_4 rfl (lv_at hl 1 rfl) ?_
  refine lv_iload_n hx hb d_H_byteOf_5 rfl (lv_at hl 2 rfl) ?_
  refine lv_iconst (v := 4) hx hb d_H_byteOf_6 z_k4 ?_
  refine lv_idiv hx hb d_H_byteOf_7 (by decide) ?_
  refine kc_H_27 hF (c_H_place l D C ad hF.2.2 _ _ _ ) hG ⟨Nat.le_of_ble_eq_true rfl, Nat.le_of_ble_eq_true rfl⟩ ⟨Nat.zero_le _, Nat.zero_le _⟩ hl.1 (Nat.le_of_ble_eq_true rfl) d_H_byteOf_8 (fun H locs hG => ?_)
  refine z_iald (n := 96) (j := (f_H_place x0 (x1 / 4)).toNatClampNeg) (v := (S.1 13 o ((f_H_place x0 (x1 / 4)).toNatClampNeg))) hF hG ho (z_c13 C ad _ _ _) rfl hin rfl d_H_byteOf_11 ?_
  refine lv_iload_n hx hb d_H_byteOf_12 rfl (lv_at hl 2 rfl) ?_
  refine kc_H_31 hF (c_H_shift l D C ad hF.2.2 _ _ ) hG ⟨Nat.le_of_ble_eq_true rfl, Nat.le_of_ble_eq_true rfl⟩ ⟨Nat.zero_le _, Nat.zero_le _⟩ hl.1 (Nat.le_of_ble_eq_true rfl) d_H_byteOf_13 (fun H locs hG => ?_)
  refine lv_iushr hx hb d_H_byteOf_16 rfl ?_
  refine lv_sipush (v := 255) hx hb d_H_byteOf_17 z_si255 ?_
  refine lv_iand hx hb d_H_byteOf_20 ?_
  exact z_iret hF hr hlk hG rfl rfl d_H_byteOf_21
def g_H_flip (S : z_S) (o : Nat) (x0 : Int32) (x1 : Int32) (x2 : Int32) : z_S := (z_sI S 13 o ((f_H_place x0 (x1 / 4)).toNatClampNeg) ((S.1 13 o ((f_H_place x0 (x1 / 4)).toNatClampNeg)) ^^^ (x2 <<< ((f_H_shift x1) &&& 31))))
set_option maxHeartbeats 4000000 in
set_option maxRecDepth 100000 in
theorem c_H_flip (l : Launch) (D : va_G) (C : Nat → ClassId) (ad : Nat → Nat → Nat) (hJ : z_J ad) (S : z_S) (o : Nat) (ho : o < z_n 12) (x0 : Int32) (x1 : Int32) (x2 : Int32) (hin : vp_in (f_H_place x0 (x1 / 4)) 96) : z_M l y_H_flip b_H_flip 4 none rm_H_flip D C ad [.ref (ad 12 o), .int x0, .int x1, .int x2] S (z_Qv D C ad (g_H_flip S o x0 x1 x2)) := by
  refine z_enter (by decide) (Nat.le_of_ble_eq_true rfl) hJ ?_
  intro p e s m below meth c ls hF hr hlk hl hG
  obtain ⟨hx, hb, hml, hown, hts⟩ := hF.1
  have hl : lv_has ls 4 [(0, .ref (ad 12 o)), (1, .int x0), (2, .int x1), (3, .int x2)] := hl
  refine lv_aload_n hx hb d_H_flip_0 rfl (lv_at hl 0 rfl) ?_
  refine gf_H_19_12 hF hG ho d_H_flip_1 ?_
  refine lv_iload_n hx hb d_H_flip_4 rfl (lv_at hl 1 rfl) ?_
  refine lv_iload_n hx hb d_H_flip_5 rfl (lv_at hl 2 rfl) ?_
  refine lv_iconst (v := 4) hx hb d_H_flip_6 z_k4 ?_
  refine lv_idiv hx hb d_H_flip_7 (by decide) ?_
  refine kc_H_27 hF (c_H_place l D C ad hF.2.2 _ _ _ ) hG ⟨Nat.le_of_ble_eq_true rfl, Nat.le_of_ble_eq_true rfl⟩ ⟨Nat.zero_le _, Nat.zero_le _⟩ hl.1 (Nat.le_of_ble_eq_true rfl) d_H_flip_8 (fun H locs hG => ?_)
  refine lv_dup2_11 hx hb d_H_flip_11 rfl rfl ?_
  refine z_iald (n := 96) (j := (f_H_place x0 (x1 / 4)).toNatClampNeg) (v := (S.1 13 o ((f_H_place x0 (x1 / 4)).toNatClampNeg))) hF hG ho (z_c13 C ad _ _ _) rfl hin rfl d_H_flip_12 ?_
  refine lv_iload_n hx hb d_H_flip_13 rfl (lv_at hl 3 rfl) ?_
  refine lv_iload_n hx hb d_H_flip_14 rfl (lv_at hl 2 rfl) ?_
  refine kc_H_31 hF (c_H_shift l D C ad hF.2.2 _ _ ) hG ⟨Nat.le_of_ble_eq_true rfl, Nat.le_of_ble_eq_true rfl⟩ ⟨Nat.zero_le _, Nat.zero_le _⟩ hl.1 (Nat.le_of_ble_eq_true rfl) d_H_flip_15 (fun H locs hG => ?_)
  refine lv_ishl hx hb d_H_flip_18 ?_
  refine lv_ixor hx hb d_H_flip_19 ?_
  refine z_iast (n := 96) (j := (f_H_place x0 (x1 / 4)).toNatClampNeg) hF hG ho (fun f g => z_c13 C ad f g _) rfl hin d_H_flip_20 (fun H locs hG => ?_)
  exact z_vret hF hr hlk hG rfl d_H_flip_21
def g_H_mend (S : z_S) (o : Nat) (x0 : Int32) (x1 : Int32) (x2 : Int32) : z_S := (z_sI (z_sI S 13 o ((f_H_place x0 x1).toNatClampNeg) x2) 12 o 1 ((S.1 12 o 1) + 1))
set_option maxHeartbeats 4000000 in
set_option maxRecDepth 100000 in
theorem c_H_mend (l : Launch) (D : va_G) (C : Nat → ClassId) (ad : Nat → Nat → Nat) (hJ : z_J ad) (S : z_S) (o : Nat) (ho : o < z_n 12) (x0 : Int32) (x1 : Int32) (x2 : Int32) (hin : vp_in (f_H_place x0 x1) 96) : z_M l y_H_mend b_H_mend 4 none rm_H_mend D C ad [.ref (ad 12 o), .int x0, .int x1, .int x2] S (z_Qv D C ad (g_H_mend S o x0 x1 x2)) := by
  refine z_enter (by decide) (Nat.le_of_ble_eq_true rfl) hJ ?_
  intro p e s m below meth c ls hF hr hlk hl hG
  obtain ⟨hx, hb, hml, hown, hts⟩ := hF.1
  have hl : lv_has ls 4 [(0, .ref (ad 12 o)), (1, .int x0), (2, .int x1), (3, .int x2)] := hl
  refine lv_aload_n hx hb d_H_mend_0 rfl (lv_at hl 0 rfl) ?_
  refine gf_H_19_12 hF hG ho d_H_mend_1 ?_
  refine lv_iload_n hx hb d_H_mend_4 rfl (lv_at hl 1 rfl) ?_
  refine lv_iload_n hx hb d_H_mend_5 rfl (lv_at hl 2 rfl) ?_
  refine kc_H_27 hF (c_H_place l D C ad hF.2.2 _ _ _ ) hG ⟨Nat.le_of_ble_eq_true rfl, Nat.le_of_ble_eq_true rfl⟩ ⟨Nat.zero_le _, Nat.zero_le _⟩ hl.1 (Nat.le_of_ble_eq_true rfl) d_H_mend_6 (fun H locs hG => ?_)
  refine lv_iload_n hx hb d_H_mend_9 rfl (lv_at hl 3 rfl) ?_
  refine z_iast (n := 96) (j := (f_H_place x0 x1).toNatClampNeg) hF hG ho (fun f g => z_c13 C ad f g _) rfl hin d_H_mend_10 (fun H locs hG => ?_)
  refine lv_aload_n hx hb d_H_mend_11 rfl (lv_at hl 0 rfl) ?_
  refine lv_dup hx hb d_H_mend_12 rfl ?_
  refine gf_H_15_12 hF hG ho (v := (S.1 12 o 1)) rfl d_H_mend_13 ?_
  refine lv_iconst (v := 1) hx hb d_H_mend_16 z_k1 ?_
  refine lv_iadd hx hb d_H_mend_17 ?_
  refine pf_H_15_12 hF hG ho d_H_mend_18 (fun H locs hG => ?_)
  exact z_vret hF hr hlk hG rfl d_H_mend_21
def f_H_bytesOfPart (S : z_S) (o : Nat) (x0 : Int32) (x1 : Int32) : Int64 := ((((S.1 13 o ((f_H_place x0 (x1 + 8)).toNatClampNeg)).toInt64) <<< ((32 : Int32).toInt64 &&& 63)) ||| (((S.1 13 o ((f_H_place x0 x1).toNatClampNeg)).toInt64) &&& 4294967295))
set_option maxHeartbeats 4000000 in
set_option maxRecDepth 100000 in
theorem c_H_bytesOfPart (l : Launch) (D : va_G) (C : Nat → ClassId) (ad : Nat → Nat → Nat) (hJ : z_J ad) (S : z_S) (o : Nat) (ho : o < z_n 12) (x0 : Int32) (x1 : Int32) (h1 : vp_in (f_H_place x0 x1) 96) (h2 : vp_in (f_H_place x0 (x1 + 8)) 96) : z_M l y_H_bytesOfPart b_H_bytesOfPart 7 (some .long) rm_H_bytesOfPart D C ad [.ref (ad 12 o), .int x0, .int x1] S (z_Ql D C ad (f_H_bytesOfPart S o x0 x1) S) := by
  refine z_enter (by decide) (Nat.le_of_ble_eq_true rfl) hJ ?_
  intro p e s m below meth c ls hF hr hlk hl hG
  obtain ⟨hx, hb, hml, hown, hts⟩ := hF.1
  have hl : lv_has ls 7 [(0, .ref (ad 12 o)), (1, .int x0), (2, .int x1)] := hl
  refine lv_aload_n hx hb d_H_bytesOfPart_0 rfl (lv_at hl 0 rfl) ?_
  refine gf_H_19_12 hF hG ho d_H_bytesOfPart_1 ?_
  refine lv_iload_n hx hb d_H_bytesOfPart_4 rfl (lv_at hl 1 rfl) ?_
  refine lv_iload_n hx hb d_H_bytesOfPart_5 rfl (lv_at hl 2 rfl) ?_
  refine kc_H_27 hF (c_H_place l D C ad hF.2.2 _ _ _ ) hG ⟨Nat.le_of_ble_eq_true rfl, Nat.le_of_ble_eq_true rfl⟩ ⟨Nat.zero_le _, Nat.zero_le _⟩ hl.1 (Nat.le_of_ble_eq_true rfl) d_H_bytesOfPart_6 (fun H locs hG => ?_)
  refine z_iald (n := 96) (j := (f_H_place x0 x1).toNatClampNeg) (v := (S.1 13 o ((f_H_place x0 x1).toNatClampNeg))) hF hG ho (z_c13 C ad _ _ _) rfl h1 rfl d_H_bytesOfPart_9 ?_
  refine lv_i2l hx hb d_H_bytesOfPart_10 rfl ?_
  refine lv_ldc2 (v := 4294967295) hx hb hown (hts _ wk_H_35) d_H_bytesOfPart_11 ?_
  refine lv_land hx hb d_H_bytesOfPart_14 ?_
  refine lv_lstore_n (lv' := [(3, .long (((S.1 13 o ((f_H_place x0 x1).toNatClampNeg)).toInt64) &&& 4294967295)), (0, .ref (ad 12 o)), (1, .int x0), (2, .int x1)]) hx hb d_H_bytesOfPart_15 rfl hl (Nat.le_of_ble_eq_true rfl) rfl (fun ls hl => ?_)
  refine lv_aload_n hx hb d_H_bytesOfPart_16 rfl (lv_at hl 1 rfl) ?_
  refine gf_H_19_12 hF hG ho d_H_bytesOfPart_17 ?_
  refine lv_iload_n hx hb d_H_bytesOfPart_20 rfl (lv_at hl 2 rfl) ?_
  refine lv_iload_n hx hb d_H_bytesOfPart_21 rfl (lv_at hl 3 rfl) ?_
  refine lv_bipush (v := 8) hx hb d_H_bytesOfPart_22 z_bi8 ?_
  refine lv_iadd hx hb d_H_bytesOfPart_24 ?_
  refine kc_H_27 hF (c_H_place l D C ad hF.2.2 _ _ _ ) hG ⟨Nat.le_of_ble_eq_true rfl, Nat.le_of_ble_eq_true rfl⟩ ⟨Nat.zero_le _, Nat.zero_le _⟩ hl.1 (Nat.le_of_ble_eq_true rfl) d_H_bytesOfPart_25 (fun H locs hG => ?_)
  refine z_iald (n := 96) (j := (f_H_place x0 (x1 + 8)).toNatClampNeg) (v := (S.1 13 o ((f_H_place x0 (x1 + 8)).toNatClampNeg))) hF hG ho (z_c13 C ad _ _ _) rfl h2 rfl d_H_bytesOfPart_28 ?_
  refine lv_i2l hx hb d_H_bytesOfPart_29 rfl ?_
  refine lv_lstore (lv' := [(5, .long ((S.1 13 o ((f_H_place x0 (x1 + 8)).toNatClampNeg)).toInt64)), (3, .long (((S.1 13 o ((f_H_place x0 x1).toNatClampNeg)).toInt64) &&& 4294967295)), (0, .ref (ad 12 o)), (1, .int x0), (2, .int x1)]) hx hb d_H_bytesOfPart_30 hl (Nat.le_of_ble_eq_true rfl) rfl (fun ls hl => ?_)
  refine lv_lload hx hb d_H_bytesOfPart_32 (lv_at hl 0 rfl) ?_
  refine lv_bipush (v := 32) hx hb d_H_bytesOfPart_34 z_bi32 ?_
  refine lv_lshl hx hb d_H_bytesOfPart_36 rfl ?_
  refine lv_lload_n hx hb d_H_bytesOfPart_37 rfl (lv_at hl 1 rfl) ?_
  refine lv_lor hx hb d_H_bytesOfPart_38 ?_
  exact z_lret hF hr hlk hG rfl rfl d_H_bytesOfPart_39
def f_H_sumOfPart (S : z_S) (o : Nat) (x0 : Int32) (x1 : Int32) (x2 : Int32) (x3 : Int64) : Int64 := (if x2 ≤ x1 then x3 else (if x2 ≤ (x1 + 8) then ((((((((((((x3 ^^^ (x0.toInt64)) * 1099511628211) ^^^ (x1.toInt64)) * 1099511628211) ^^^ ((f_H_byteOf S o x0 ((x1 * 4) + 0)).toInt64)) * 1099511628211) ^^^ ((f_H_byteOf S o x0 ((x1 * 4) + 1)).toInt64)) * 1099511628211) ^^^ ((f_H_byteOf S o x0 ((x1 * 4) + 2)).toInt64)) * 1099511628211) ^^^ ((f_H_byteOf S o x0 ((x1 * 4) + 3)).toInt64)) * 1099511628211) else ((((((((((((((((((((((((x3 ^^^ (x0.toInt64)) * 1099511628211) ^^^ (x1.toInt64)) * 1099511628211) ^^^ ((f_H_byteOf S o x0 ((x1 * 4) + 0)).toInt64)) * 1099511628211) ^^^ ((f_H_byteOf S o x0 ((x1 * 4) + 1)).toInt64)) * 1099511628211) ^^^ ((f_H_byteOf S o x0 ((x1 * 4) + 2)).toInt64)) * 1099511628211) ^^^ ((f_H_byteOf S o x0 ((x1 * 4) + 3)).toInt64)) * 1099511628211) ^^^ (x0.toInt64)) * 1099511628211) ^^^ ((x1 + 8).toInt64)) * 1099511628211) ^^^ ((f_H_byteOf S o x0 (((x1 + 8) * 4) + 0)).toInt64)) * 1099511628211) ^^^ ((f_H_byteOf S o x0 (((x1 + 8) * 4) + 1)).toInt64)) * 1099511628211) ^^^ ((f_H_byteOf S o x0 (((x1 + 8) * 4) + 2)).toInt64)) * 1099511628211) ^^^ ((f_H_byteOf S o x0 (((x1 + 8) * 4) + 3)).toInt64)) * 1099511628211)))
set_option maxHeartbeats 4000000 in
set_option maxRecDepth 100000 in
theorem c_H_sumOfPart (l : Launch) (D : va_G) (C : Nat → ClassId) (ad : Nat → Nat → Nat) (hJ : z_J ad) (S : z_S) (o : Nat) (ho : o < z_n 12) (x0 : Int32) (x1 : Int32) (x2 : Int32) (x3 : Int64) (hd : vp_in x0 6) (hp : vp_in x1 8) (hq : x2.toInt ≤ 16) : z_M l y_H_sumOfPart b_H_sumOfPart 10 (some .long) rm_H_sumOfPart D C ad [.ref (ad 12 o), .int x0, .int x1, .int x2, .long x3] S (z_Ql D C ad (f_H_sumOfPart S o x0 x1 x2 x3) S) := by
  refine z_enter (by decide) (Nat.le_of_ble_eq_true rfl) hJ ?_
  intro p e s m below meth c ls hF hr hlk hl hG
  obtain ⟨hx, hb, hml, hown, hts⟩ := hF.1
  have hl : lv_has ls 10 [(0, .ref (ad 12 o)), (1, .int x0), (2, .int x1), (3, .int x2), (4, .long x3)] := hl
  refine lv_lload hx hb d_H_sumOfPart_0 (lv_at hl 4 rfl) ?_
  refine lv_lstore (lv' := [(6, .long x3), (0, .ref (ad 12 o)), (1, .int x0), (2, .int x1), (3, .int x2), (4, .long x3)]) hx hb d_H_sumOfPart_2 hl (Nat.le_of_ble_eq_true rfl) rfl (fun ls hl => ?_)
  refine lv_iload_n hx hb d_H_sumOfPart_4 rfl (lv_at hl 3 rfl) ?_
  refine lv_istore (lv' := [(8, .int x1), (6, .long x3), (0, .ref (ad 12 o)), (1, .int x0), (2, .int x1), (3, .int x2), (4, .long x3)]) hx hb d_H_sumOfPart_5 hl (Nat.le_of_ble_eq_true rfl) rfl (fun ls hl => ?_)
  refine lv_iload hx hb d_H_sumOfPart_7 (lv_at hl 0 rfl) ?_
  refine lv_iload_n hx hb d_H_sumOfPart_9 rfl (lv_at hl 5 rfl) ?_
  refine lv_icmp_ge (tgt := 79) hx hb d_H_sumOfPart_10 rfl (fun h10 => ?_) (fun h10 => ?_)
  ·
    refine lv_lload hx hb d_H_sumOfPart_79 (lv_at hl 1 rfl) ?_
    exact z_lret hF hr hlk hG (Eq.symm ((if_pos h10).trans rfl)) rfl d_H_sumOfPart_81
  ·
    refine lv_lload hx hb d_H_sumOfPart_13 (lv_at hl 1 rfl) ?_
    refine lv_iload_n hx hb d_H_sumOfPart_15 rfl (lv_at hl 3 rfl) ?_
    refine lv_i2l hx hb d_H_sumOfPart_16 rfl ?_
    refine lv_lxor hx hb d_H_sumOfPart_17 ?_
    refine lv_ldc2 (v := 1099511628211) hx hb hown (hts _ wk_H_37) d_H_sumOfPart_18 ?_
    refine lv_lmul hx hb d_H_sumOfPart_21 ?_
    refine lv_lstore (lv' := [(6, .long ((x3 ^^^ (x0.toInt64)) * 1099511628211)), (8, .int x1), (0, .ref (ad 12 o)), (1, .int x0), (2, .int x1), (3, .int x2), (4, .long x3)]) hx hb d_H_sumOfPart_22 hl (Nat.le_of_ble_eq_true rfl) rfl (fun ls hl => ?_)
    refine lv_lload hx hb d_H_sumOfPart_24 (lv_at hl 0 rfl) ?_
    refine lv_iload hx hb d_H_sumOfPart_26 (lv_at hl 1 rfl) ?_
    refine lv_i2l hx hb d_H_sumOfPart_28 rfl ?_
    refine lv_lxor hx hb d_H_sumOfPart_29 ?_
    refine lv_ldc2 (v := 1099511628211) hx hb hown (hts _ wk_H_37) d_H_sumOfPart_30 ?_
    refine lv_lmul hx hb d_H_sumOfPart_33 ?_
    refine lv_lstore (lv' := [(6, .long ((((x3 ^^^ (x0.toInt64)) * 1099511628211) ^^^ (x1.toInt64)) * 1099511628211)), (8, .int x1), (0, .ref (ad 12 o)), (1, .int x0), (2, .int x1), (3, .int x2), (4, .long x3)]) hx hb d_H_sumOfPart_34 hl (Nat.le_of_ble_eq_true rfl) rfl (fun ls hl => ?_)
    refine lv_iconst (v := 0) hx hb d_H_sumOfPart_36 z_k0 ?_
    refine lv_istore (lv' := [(9, .int 0), (6, .long ((((x3 ^^^ (x0.toInt64)) * 1099511628211) ^^^ (x1.toInt64)) * 1099511628211)), (8, .int x1), (0, .ref (ad 12 o)), (1, .int x0), (2, .int x1), (3, .int x2), (4, .long x3)]) hx hb d_H_sumOfPart_37 hl (Nat.le_of_ble_eq_true rfl) rfl (fun ls hl => ?_)
    refine lv_iload hx hb d_H_sumOfPart_39 (lv_at hl 0 rfl) ?_
    refine lv_iconst (v := 4) hx hb d_H_sumOfPart_41 z_k4 ?_
    refine lv_icmp_ge (tgt := 73) hx hb d_H_sumOfPart_42 rfl (fun h => absurd h (by decide)) (fun _ => ?_)
    refine lv_lload hx hb d_H_sumOfPart_45 (lv_at hl 1 rfl) ?_
    refine lv_aload_n hx hb d_H_sumOfPart_47 rfl (lv_at hl 3 rfl) ?_
    refine lv_iload_n hx hb d_H_sumOfPart_48 rfl (lv_at hl 4 rfl) ?_
    refine lv_iload hx hb d_H_sumOfPart_49 (lv_at hl 2 rfl) ?_
    refine lv_iconst (v := 4) hx hb d_H_sumOfPart_51 z_k4 ?_
    refine lv_imul hx hb d_H_sumOfPart_52 ?_
    refine lv_iload hx hb d_H_sumOfPart_53 (lv_at hl 0 rfl) ?_
    refine lv_iadd hx hb d_H_sumOfPart_55 ?_
    refine kc_H_39 hF (c_H_byteOf l D C ad hF.2.2 _ _ ho _ _ (z_spa0 hd hp)) hG ho ⟨Nat.le_of_ble_eq_true rfl, Nat.le_of_ble_eq_true rfl⟩ ⟨Nat.zero_le _, Nat.zero_le _⟩ hl.1 (Nat.le_of_ble_eq_true rfl) d_H_sumOfPart_56 (fun H locs hG => ?_)
    refine lv_i2l hx hb d_H_sumOfPart_59 rfl ?_
    refine lv_lxor hx hb d_H_sumOfPart_60 ?_
    refine lv_ldc2 (v := 1099511628211) hx hb hown (hts _ wk_H_37) d_H_sumOfPart_61 ?_
    refine lv_lmul hx hb d_H_sumOfPart_64 ?_
    refine lv_lstore (lv' := [(6, .long ((((((x3 ^^^ (x0.toInt64)) * 1099511628211) ^^^ (x1.toInt64)) * 1099511628211) ^^^ ((f_H_byteOf S o x0 ((x1 * 4) + 0)).toInt64)) * 1099511628211)), (9, .int 0), (8, .int x1), (0, .ref (ad 12 o)), (1, .int x0), (2, .int x1), (3, .int x2), (4, .long x3)]) hx hb d_H_sumOfPart_65 hl (Nat.le_of_ble_eq_true rfl) rfl (fun ls hl => ?_)
    refine lv_iinc (k := 1) (v := 1) (lv' := [(9, .int 1), (6, .long ((((((x3 ^^^ (x0.toInt64)) * 1099511628211) ^^^ (x1.toInt64)) * 1099511628211) ^^^ ((f_H_byteOf S o x0 ((x1 * 4) + 0)).toInt64)) * 1099511628211)), (8, .int x1), (0, .ref (ad 12 o)), (1, .int x0), (2, .int x1), (3, .int x2), (4, .long x3)]) hx hb d_H_sumOfPart_67 hl rfl (by decide) (Nat.le_of_ble_eq_true rfl) rfl (fun ls hl => ?_)
    refine lv_goto (tgt := 39) hx hb d_H_sumOfPart_70 rfl ?_
    refine lv_iload hx hb d_H_sumOfPart_39 (lv_at hl 0 rfl) ?_
    refine lv_iconst (v := 4) hx hb d_H_sumOfPart_41 z_k4 ?_
    refine lv_icmp_ge (tgt := 73) hx hb d_H_sumOfPart_42 rfl (fun h => absurd h (by decide)) (fun _ => ?_)
    refine lv_lload hx hb d_H_sumOfPart_45 (lv_at hl 1 rfl) ?_
    refine lv_aload_n hx hb d_H_sumOfPart_47 rfl (lv_at hl 3 rfl) ?_
    refine lv_iload_n hx hb d_H_sumOfPart_48 rfl (lv_at hl 4 rfl) ?_
    refine lv_iload hx hb d_H_sumOfPart_49 (lv_at hl 2 rfl) ?_
    refine lv_iconst (v := 4) hx hb d_H_sumOfPart_51 z_k4 ?_
    refine lv_imul hx hb d_H_sumOfPart_52 ?_
    refine lv_iload hx hb d_H_sumOfPart_53 (lv_at hl 0 rfl) ?_
    refine lv_iadd hx hb d_H_sumOfPart_55 ?_
    refine kc_H_39 hF (c_H_byteOf l D C ad hF.2.2 _ _ ho _ _ (z_spa1 hd hp)) hG ho ⟨Nat.le_of_ble_eq_true rfl, Nat.le_of_ble_eq_true rfl⟩ ⟨Nat.zero_le _, Nat.zero_le _⟩ hl.1 (Nat.le_of_ble_eq_true rfl) d_H_sumOfPart_56 (fun H locs hG => ?_)
    refine lv_i2l hx hb d_H_sumOfPart_59 rfl ?_
    refine lv_lxor hx hb d_H_sumOfPart_60 ?_
    refine lv_ldc2 (v := 1099511628211) hx hb hown (hts _ wk_H_37) d_H_sumOfPart_61 ?_
    refine lv_lmul hx hb d_H_sumOfPart_64 ?_
    refine lv_lstore (lv' := [(6, .long ((((((((x3 ^^^ (x0.toInt64)) * 1099511628211) ^^^ (x1.toInt64)) * 1099511628211) ^^^ ((f_H_byteOf S o x0 ((x1 * 4) + 0)).toInt64)) * 1099511628211) ^^^ ((f_H_byteOf S o x0 ((x1 * 4) + 1)).toInt64)) * 1099511628211)), (9, .int 1), (8, .int x1), (0, .ref (ad 12 o)), (1, .int x0), (2, .int x1), (3, .int x2), (4, .long x3)]) hx hb d_H_sumOfPart_65 hl (Nat.le_of_ble_eq_true rfl) rfl (fun ls hl => ?_)
    refine lv_iinc (k := 1) (v := 2) (lv' := [(9, .int 2), (6, .long ((((((((x3 ^^^ (x0.toInt64)) * 1099511628211) ^^^ (x1.toInt64)) * 1099511628211) ^^^ ((f_H_byteOf S o x0 ((x1 * 4) + 0)).toInt64)) * 1099511628211) ^^^ ((f_H_byteOf S o x0 ((x1 * 4) + 1)).toInt64)) * 1099511628211)), (8, .int x1), (0, .ref (ad 12 o)), (1, .int x0), (2, .int x1), (3, .int x2), (4, .long x3)]) hx hb d_H_sumOfPart_67 hl rfl (by decide) (Nat.le_of_ble_eq_true rfl) rfl (fun ls hl => ?_)
    refine lv_goto (tgt := 39) hx hb d_H_sumOfPart_70 rfl ?_
    refine lv_iload hx hb d_H_sumOfPart_39 (lv_at hl 0 rfl) ?_
    refine lv_iconst (v := 4) hx hb d_H_sumOfPart_41 z_k4 ?_
    refine lv_icmp_ge (tgt := 73) hx hb d_H_sumOfPart_42 rfl (fun h => absurd h (by decide)) (fun _ => ?_)
    refine lv_lload hx hb d_H_sumOfPart_45 (lv_at hl 1 rfl) ?_
    refine lv_aload_n hx hb d_H_sumOfPart_47 rfl (lv_at hl 3 rfl) ?_
    refine lv_iload_n hx hb d_H_sumOfPart_48 rfl (lv_at hl 4 rfl) ?_
    refine lv_iload hx hb d_H_sumOfPart_49 (lv_at hl 2 rfl) ?_
    refine lv_iconst (v := 4) hx hb d_H_sumOfPart_51 z_k4 ?_
    refine lv_imul hx hb d_H_sumOfPart_52 ?_
    refine lv_iload hx hb d_H_sumOfPart_53 (lv_at hl 0 rfl) ?_
    refine lv_iadd hx hb d_H_sumOfPart_55 ?_
    refine kc_H_39 hF (c_H_byteOf l D C ad hF.2.2 _ _ ho _ _ (z_spa2 hd hp)) hG ho ⟨Nat.le_of_ble_eq_true rfl, Nat.le_of_ble_eq_true rfl⟩ ⟨Nat.zero_le _, Nat.zero_le _⟩ hl.1 (Nat.le_of_ble_eq_true rfl) d_H_sumOfPart_56 (fun H locs hG => ?_)
    refine lv_i2l hx hb d_H_sumOfPart_59 rfl ?_
    refine lv_lxor hx hb d_H_sumOfPart_60 ?_
    refine lv_ldc2 (v := 1099511628211) hx hb hown (hts _ wk_H_37) d_H_sumOfPart_61 ?_
    refine lv_lmul hx hb d_H_sumOfPart_64 ?_
    refine lv_lstore (lv' := [(6, .long ((((((((((x3 ^^^ (x0.toInt64)) * 1099511628211) ^^^ (x1.toInt64)) * 1099511628211) ^^^ ((f_H_byteOf S o x0 ((x1 * 4) + 0)).toInt64)) * 1099511628211) ^^^ ((f_H_byteOf S o x0 ((x1 * 4) + 1)).toInt64)) * 1099511628211) ^^^ ((f_H_byteOf S o x0 ((x1 * 4) + 2)).toInt64)) * 1099511628211)), (9, .int 2), (8, .int x1), (0, .ref (ad 12 o)), (1, .int x0), (2, .int x1), (3, .int x2), (4, .long x3)]) hx hb d_H_sumOfPart_65 hl (Nat.le_of_ble_eq_true rfl) rfl (fun ls hl => ?_)
    refine lv_iinc (k := 1) (v := 3) (lv' := [(9, .int 3), (6, .long ((((((((((x3 ^^^ (x0.toInt64)) * 1099511628211) ^^^ (x1.toInt64)) * 1099511628211) ^^^ ((f_H_byteOf S o x0 ((x1 * 4) + 0)).toInt64)) * 1099511628211) ^^^ ((f_H_byteOf S o x0 ((x1 * 4) + 1)).toInt64)) * 1099511628211) ^^^ ((f_H_byteOf S o x0 ((x1 * 4) + 2)).toInt64)) * 1099511628211)), (8, .int x1), (0, .ref (ad 12 o)), (1, .int x0), (2, .int x1), (3, .int x2), (4, .long x3)]) hx hb d_H_sumOfPart_67 hl rfl (by decide) (Nat.le_of_ble_eq_true rfl) rfl (fun ls hl => ?_)
    refine lv_goto (tgt := 39) hx hb d_H_sumOfPart_70 rfl ?_
    refine lv_iload hx hb d_H_sumOfPart_39 (lv_at hl 0 rfl) ?_
    refine lv_iconst (v := 4) hx hb d_H_sumOfPart_41 z_k4 ?_
    refine lv_icmp_ge (tgt := 73) hx hb d_H_sumOfPart_42 rfl (fun h => absurd h (by decide)) (fun _ => ?_)
    refine lv_lload hx hb d_H_sumOfPart_45 (lv_at hl 1 rfl) ?_
    refine lv_aload_n hx hb d_H_sumOfPart_47 rfl (lv_at hl 3 rfl) ?_
    refine lv_iload_n hx hb d_H_sumOfPart_48 rfl (lv_at hl 4 rfl) ?_
    refine lv_iload hx hb d_H_sumOfPart_49 (lv_at hl 2 rfl) ?_
    refine lv_iconst (v := 4) hx hb d_H_sumOfPart_51 z_k4 ?_
    refine lv_imul hx hb d_H_sumOfPart_52 ?_
    refine lv_iload hx hb d_H_sumOfPart_53 (lv_at hl 0 rfl) ?_
    refine lv_iadd hx hb d_H_sumOfPart_55 ?_
    refine kc_H_39 hF (c_H_byteOf l D C ad hF.2.2 _ _ ho _ _ (z_spa3 hd hp)) hG ho ⟨Nat.le_of_ble_eq_true rfl, Nat.le_of_ble_eq_true rfl⟩ ⟨Nat.zero_le _, Nat.zero_le _⟩ hl.1 (Nat.le_of_ble_eq_true rfl) d_H_sumOfPart_56 (fun H locs hG => ?_)
    refine lv_i2l hx hb d_H_sumOfPart_59 rfl ?_
    refine lv_lxor hx hb d_H_sumOfPart_60 ?_
    refine lv_ldc2 (v := 1099511628211) hx hb hown (hts _ wk_H_37) d_H_sumOfPart_61 ?_
    refine lv_lmul hx hb d_H_sumOfPart_64 ?_
    refine lv_lstore (lv' := [(6, .long ((((((((((((x3 ^^^ (x0.toInt64)) * 1099511628211) ^^^ (x1.toInt64)) * 1099511628211) ^^^ ((f_H_byteOf S o x0 ((x1 * 4) + 0)).toInt64)) * 1099511628211) ^^^ ((f_H_byteOf S o x0 ((x1 * 4) + 1)).toInt64)) * 1099511628211) ^^^ ((f_H_byteOf S o x0 ((x1 * 4) + 2)).toInt64)) * 1099511628211) ^^^ ((f_H_byteOf S o x0 ((x1 * 4) + 3)).toInt64)) * 1099511628211)), (9, .int 3), (8, .int x1), (0, .ref (ad 12 o)), (1, .int x0), (2, .int x1), (3, .int x2), (4, .long x3)]) hx hb d_H_sumOfPart_65 hl (Nat.le_of_ble_eq_true rfl) rfl (fun ls hl => ?_)
    refine lv_iinc (k := 1) (v := 4) (lv' := [(9, .int 4), (6, .long ((((((((((((x3 ^^^ (x0.toInt64)) * 1099511628211) ^^^ (x1.toInt64)) * 1099511628211) ^^^ ((f_H_byteOf S o x0 ((x1 * 4) + 0)).toInt64)) * 1099511628211) ^^^ ((f_H_byteOf S o x0 ((x1 * 4) + 1)).toInt64)) * 1099511628211) ^^^ ((f_H_byteOf S o x0 ((x1 * 4) + 2)).toInt64)) * 1099511628211) ^^^ ((f_H_byteOf S o x0 ((x1 * 4) + 3)).toInt64)) * 1099511628211)), (8, .int x1), (0, .ref (ad 12 o)), (1, .int x0), (2, .int x1), (3, .int x2), (4, .long x3)]) hx hb d_H_sumOfPart_67 hl rfl (by decide) (Nat.le_of_ble_eq_true rfl) rfl (fun ls hl => ?_)
    refine lv_goto (tgt := 39) hx hb d_H_sumOfPart_70 rfl ?_
    refine lv_iload hx hb d_H_sumOfPart_39 (lv_at hl 0 rfl) ?_
    refine lv_iconst (v := 4) hx hb d_H_sumOfPart_41 z_k4 ?_
    refine lv_icmp_ge (tgt := 73) hx hb d_H_sumOfPart_42 rfl (fun _ => ?_) (fun h => absurd h (by decide))
    refine lv_iinc (k := 2) (v := (x1 + 8)) (lv' := [(8, .int (x1 + 8)), (9, .int 4), (6, .long ((((((((((((x3 ^^^ (x0.toInt64)) * 1099511628211) ^^^ (x1.toInt64)) * 1099511628211) ^^^ ((f_H_byteOf S o x0 ((x1 * 4) + 0)).toInt64)) * 1099511628211) ^^^ ((f_H_byteOf S o x0 ((x1 * 4) + 1)).toInt64)) * 1099511628211) ^^^ ((f_H_byteOf S o x0 ((x1 * 4) + 2)).toInt64)) * 1099511628211) ^^^ ((f_H_byteOf S o x0 ((x1 * 4) + 3)).toInt64)) * 1099511628211)), (0, .ref (ad 12 o)), (1, .int x0), (2, .int x1), (3, .int x2), (4, .long x3)]) hx hb d_H_sumOfPart_73 hl rfl (by rw [z_k8]) (Nat.le_of_ble_eq_true rfl) rfl (fun ls hl => ?_)
    refine lv_goto (tgt := 7) hx hb d_H_sumOfPart_76 rfl ?_
    refine lv_iload hx hb d_H_sumOfPart_7 (lv_at hl 0 rfl) ?_
    refine lv_iload_n hx hb d_H_sumOfPart_9 rfl (lv_at hl 6 rfl) ?_
    refine lv_icmp_ge (tgt := 79) hx hb d_H_sumOfPart_10 rfl (fun h10_1 => ?_) (fun h10_1 => ?_)
    ·
      refine lv_lload hx hb d_H_sumOfPart_79 (lv_at hl 2 rfl) ?_
      exact z_lret hF hr hlk hG (Eq.symm ((if_neg h10).trans ((if_pos h10_1).trans rfl))) rfl d_H_sumOfPart_81
    ·
      refine lv_lload hx hb d_H_sumOfPart_13 (lv_at hl 2 rfl) ?_
      refine lv_iload_n hx hb d_H_sumOfPart_15 rfl (lv_at hl 4 rfl) ?_
      refine lv_i2l hx hb d_H_sumOfPart_16 rfl ?_
      refine lv_lxor hx hb d_H_sumOfPart_17 ?_
      refine lv_ldc2 (v := 1099511628211) hx hb hown (hts _ wk_H_37) d_H_sumOfPart_18 ?_
      refine lv_lmul hx hb d_H_sumOfPart_21 ?_
      refine lv_lstore (lv' := [(6, .long ((((((((((((((x3 ^^^ (x0.toInt64)) * 1099511628211) ^^^ (x1.toInt64)) * 1099511628211) ^^^ ((f_H_byteOf S o x0 ((x1 * 4) + 0)).toInt64)) * 1099511628211) ^^^ ((f_H_byteOf S o x0 ((x1 * 4) + 1)).toInt64)) * 1099511628211) ^^^ ((f_H_byteOf S o x0 ((x1 * 4) + 2)).toInt64)) * 1099511628211) ^^^ ((f_H_byteOf S o x0 ((x1 * 4) + 3)).toInt64)) * 1099511628211) ^^^ (x0.toInt64)) * 1099511628211)), (8, .int (x1 + 8)), (9, .int 4), (0, .ref (ad 12 o)), (1, .int x0), (2, .int x1), (3, .int x2), (4, .long x3)]) hx hb d_H_sumOfPart_22 hl (Nat.le_of_ble_eq_true rfl) rfl (fun ls hl => ?_)
      refine lv_lload hx hb d_H_sumOfPart_24 (lv_at hl 0 rfl) ?_
      refine lv_iload hx hb d_H_sumOfPart_26 (lv_at hl 1 rfl) ?_
      refine lv_i2l hx hb d_H_sumOfPart_28 rfl ?_
      refine lv_lxor hx hb d_H_sumOfPart_29 ?_
      refine lv_ldc2 (v := 1099511628211) hx hb hown (hts _ wk_H_37) d_H_sumOfPart_30 ?_
      refine lv_lmul hx hb d_H_sumOfPart_33 ?_
      refine lv_lstore (lv' := [(6, .long ((((((((((((((((x3 ^^^ (x0.toInt64)) * 1099511628211) ^^^ (x1.toInt64)) * 1099511628211) ^^^ ((f_H_byteOf S o x0 ((x1 * 4) + 0)).toInt64)) * 1099511628211) ^^^ ((f_H_byteOf S o x0 ((x1 * 4) + 1)).toInt64)) * 1099511628211) ^^^ ((f_H_byteOf S o x0 ((x1 * 4) + 2)).toInt64)) * 1099511628211) ^^^ ((f_H_byteOf S o x0 ((x1 * 4) + 3)).toInt64)) * 1099511628211) ^^^ (x0.toInt64)) * 1099511628211) ^^^ ((x1 + 8).toInt64)) * 1099511628211)), (8, .int (x1 + 8)), (9, .int 4), (0, .ref (ad 12 o)), (1, .int x0), (2, .int x1), (3, .int x2), (4, .long x3)]) hx hb d_H_sumOfPart_34 hl (Nat.le_of_ble_eq_true rfl) rfl (fun ls hl => ?_)
      refine lv_iconst (v := 0) hx hb d_H_sumOfPart_36 z_k0 ?_
      refine lv_istore (lv' := [(9, .int 0), (6, .long ((((((((((((((((x3 ^^^ (x0.toInt64)) * 1099511628211) ^^^ (x1.toInt64)) * 1099511628211) ^^^ ((f_H_byteOf S o x0 ((x1 * 4) + 0)).toInt64)) * 1099511628211) ^^^ ((f_H_byteOf S o x0 ((x1 * 4) + 1)).toInt64)) * 1099511628211) ^^^ ((f_H_byteOf S o x0 ((x1 * 4) + 2)).toInt64)) * 1099511628211) ^^^ ((f_H_byteOf S o x0 ((x1 * 4) + 3)).toInt64)) * 1099511628211) ^^^ (x0.toInt64)) * 1099511628211) ^^^ ((x1 + 8).toInt64)) * 1099511628211)), (8, .int (x1 + 8)), (0, .ref (ad 12 o)), (1, .int x0), (2, .int x1), (3, .int x2), (4, .long x3)]) hx hb d_H_sumOfPart_37 hl (Nat.le_of_ble_eq_true rfl) rfl (fun ls hl => ?_)
      refine lv_iload hx hb d_H_sumOfPart_39 (lv_at hl 0 rfl) ?_
      refine lv_iconst (v := 4) hx hb d_H_sumOfPart_41 z_k4 ?_
      refine lv_icmp_ge (tgt := 73) hx hb d_H_sumOfPart_42 rfl (fun h => absurd h (by decide)) (fun _ => ?_)
      refine lv_lload hx hb d_H_sumOfPart_45 (lv_at hl 1 rfl) ?_
      refine lv_aload_n hx hb d_H_sumOfPart_47 rfl (lv_at hl 3 rfl) ?_
      refine lv_iload_n hx hb d_H_sumOfPart_48 rfl (lv_at hl 4 rfl) ?_
      refine lv_iload hx hb d_H_sumOfPart_49 (lv_at hl 2 rfl) ?_
      refine lv_iconst (v := 4) hx hb d_H_sumOfPart_51 z_k4 ?_
      refine lv_imul hx hb d_H_sumOfPart_52 ?_
      refine lv_iload hx hb d_H_sumOfPart_53 (lv_at hl 0 rfl) ?_
      refine lv_iadd hx hb d_H_sumOfPart_55 ?_
      refine kc_H_39 hF (c_H_byteOf l D C ad hF.2.2 _ _ ho _ _ (z_spb0 hd hp)) hG ho ⟨Nat.le_of_ble_eq_true rfl, Nat.le_of_ble_eq_true rfl⟩ ⟨Nat.zero_le _, Nat.zero_le _⟩ hl.1 (Nat.le_of_ble_eq_true rfl) d_H_sumOfPart_56 (fun H locs hG => ?_)
      refine lv_i2l hx hb d_H_sumOfPart_59 rfl ?_
      refine lv_lxor hx hb d_H_sumOfPart_60 ?_
      refine lv_ldc2 (v := 1099511628211) hx hb hown (hts _ wk_H_37) d_H_sumOfPart_61 ?_
      refine lv_lmul hx hb d_H_sumOfPart_64 ?_
      refine lv_lstore (lv' := [(6, .long ((((((((((((((((((x3 ^^^ (x0.toInt64)) * 1099511628211) ^^^ (x1.toInt64)) * 1099511628211) ^^^ ((f_H_byteOf S o x0 ((x1 * 4) + 0)).toInt64)) * 1099511628211) ^^^ ((f_H_byteOf S o x0 ((x1 * 4) + 1)).toInt64)) * 1099511628211) ^^^ ((f_H_byteOf S o x0 ((x1 * 4) + 2)).toInt64)) * 1099511628211) ^^^ ((f_H_byteOf S o x0 ((x1 * 4) + 3)).toInt64)) * 1099511628211) ^^^ (x0.toInt64)) * 1099511628211) ^^^ ((x1 + 8).toInt64)) * 1099511628211) ^^^ ((f_H_byteOf S o x0 (((x1 + 8) * 4) + 0)).toInt64)) * 1099511628211)), (9, .int 0), (8, .int (x1 + 8)), (0, .ref (ad 12 o)), (1, .int x0), (2, .int x1), (3, .int x2), (4, .long x3)]) hx hb d_H_sumOfPart_65 hl (Nat.le_of_ble_eq_true rfl) rfl (fun ls hl => ?_)
      refine lv_iinc (k := 1) (v := 1) (lv' := [(9, .int 1), (6, .long ((((((((((((((((((x3 ^^^ (x0.toInt64)) * 1099511628211) ^^^ (x1.toInt64)) * 1099511628211) ^^^ ((f_H_byteOf S o x0 ((x1 * 4) + 0)).toInt64)) * 1099511628211) ^^^ ((f_H_byteOf S o x0 ((x1 * 4) + 1)).toInt64)) * 1099511628211) ^^^ ((f_H_byteOf S o x0 ((x1 * 4) + 2)).toInt64)) * 1099511628211) ^^^ ((f_H_byteOf S o x0 ((x1 * 4) + 3)).toInt64)) * 1099511628211) ^^^ (x0.toInt64)) * 1099511628211) ^^^ ((x1 + 8).toInt64)) * 1099511628211) ^^^ ((f_H_byteOf S o x0 (((x1 + 8) * 4) + 0)).toInt64)) * 1099511628211)), (8, .int (x1 + 8)), (0, .ref (ad 12 o)), (1, .int x0), (2, .int x1), (3, .int x2), (4, .long x3)]) hx hb d_H_sumOfPart_67 hl rfl (by decide) (Nat.le_of_ble_eq_true rfl) rfl (fun ls hl => ?_)
      refine lv_goto (tgt := 39) hx hb d_H_sumOfPart_70 rfl ?_
      refine lv_iload hx hb d_H_sumOfPart_39 (lv_at hl 0 rfl) ?_
      refine lv_iconst (v := 4) hx hb d_H_sumOfPart_41 z_k4 ?_
      refine lv_icmp_ge (tgt := 73) hx hb d_H_sumOfPart_42 rfl (fun h => absurd h (by decide)) (fun _ => ?_)
      refine lv_lload hx hb d_H_sumOfPart_45 (lv_at hl 1 rfl) ?_
      refine lv_aload_n hx hb d_H_sumOfPart_47 rfl (lv_at hl 3 rfl) ?_
      refine lv_iload_n hx hb d_H_sumOfPart_48 rfl (lv_at hl 4 rfl) ?_
      refine lv_iload hx hb d_H_sumOfPart_49 (lv_at hl 2 rfl) ?_
      refine lv_iconst (v := 4) hx hb d_H_sumOfPart_51 z_k4 ?_
      refine lv_imul hx hb d_H_sumOfPart_52 ?_
      refine lv_iload hx hb d_H_sumOfPart_53 (lv_at hl 0 rfl) ?_
      refine lv_iadd hx hb d_H_sumOfPart_55 ?_
      refine kc_H_39 hF (c_H_byteOf l D C ad hF.2.2 _ _ ho _ _ (z_spb1 hd hp)) hG ho ⟨Nat.le_of_ble_eq_true rfl, Nat.le_of_ble_eq_true rfl⟩ ⟨Nat.zero_le _, Nat.zero_le _⟩ hl.1 (Nat.le_of_ble_eq_true rfl) d_H_sumOfPart_56 (fun H locs hG => ?_)
      refine lv_i2l hx hb d_H_sumOfPart_59 rfl ?_
      refine lv_lxor hx hb d_H_sumOfPart_60 ?_
      refine lv_ldc2 (v := 1099511628211) hx hb hown (hts _ wk_H_37) d_H_sumOfPart_61 ?_
      refine lv_lmul hx hb d_H_sumOfPart_64 ?_
      refine lv_lstore (lv' := [(6, .long ((((((((((((((((((((x3 ^^^ (x0.toInt64)) * 1099511628211) ^^^ (x1.toInt64)) * 1099511628211) ^^^ ((f_H_byteOf S o x0 ((x1 * 4) + 0)).toInt64)) * 1099511628211) ^^^ ((f_H_byteOf S o x0 ((x1 * 4) + 1)).toInt64)) * 1099511628211) ^^^ ((f_H_byteOf S o x0 ((x1 * 4) + 2)).toInt64)) * 1099511628211) ^^^ ((f_H_byteOf S o x0 ((x1 * 4) + 3)).toInt64)) * 1099511628211) ^^^ (x0.toInt64)) * 1099511628211) ^^^ ((x1 + 8).toInt64)) * 1099511628211) ^^^ ((f_H_byteOf S o x0 (((x1 + 8) * 4) + 0)).toInt64)) * 1099511628211) ^^^ ((f_H_byteOf S o x0 (((x1 + 8) * 4) + 1)).toInt64)) * 1099511628211)), (9, .int 1), (8, .int (x1 + 8)), (0, .ref (ad 12 o)), (1, .int x0), (2, .int x1), (3, .int x2), (4, .long x3)]) hx hb d_H_sumOfPart_65 hl (Nat.le_of_ble_eq_true rfl) rfl (fun ls hl => ?_)
      refine lv_iinc (k := 1) (v := 2) (lv' := [(9, .int 2), (6, .long ((((((((((((((((((((x3 ^^^ (x0.toInt64)) * 1099511628211) ^^^ (x1.toInt64)) * 1099511628211) ^^^ ((f_H_byteOf S o x0 ((x1 * 4) + 0)).toInt64)) * 1099511628211) ^^^ ((f_H_byteOf S o x0 ((x1 * 4) + 1)).toInt64)) * 1099511628211) ^^^ ((f_H_byteOf S o x0 ((x1 * 4) + 2)).toInt64)) * 1099511628211) ^^^ ((f_H_byteOf S o x0 ((x1 * 4) + 3)).toInt64)) * 1099511628211) ^^^ (x0.toInt64)) * 1099511628211) ^^^ ((x1 + 8).toInt64)) * 1099511628211) ^^^ ((f_H_byteOf S o x0 (((x1 + 8) * 4) + 0)).toInt64)) * 1099511628211) ^^^ ((f_H_byteOf S o x0 (((x1 + 8) * 4) + 1)).toInt64)) * 1099511628211)), (8, .int (x1 + 8)), (0, .ref (ad 12 o)), (1, .int x0), (2, .int x1), (3, .int x2), (4, .long x3)]) hx hb d_H_sumOfPart_67 hl rfl (by decide) (Nat.le_of_ble_eq_true rfl) rfl (fun ls hl => ?_)
      refine lv_goto (tgt := 39) hx hb d_H_sumOfPart_70 rfl ?_
      refine lv_iload hx hb d_H_sumOfPart_39 (lv_at hl 0 rfl) ?_
      refine lv_iconst (v := 4) hx hb d_H_sumOfPart_41 z_k4 ?_
      refine lv_icmp_ge (tgt := 73) hx hb d_H_sumOfPart_42 rfl (fun h => absurd h (by decide)) (fun _ => ?_)
      refine lv_lload hx hb d_H_sumOfPart_45 (lv_at hl 1 rfl) ?_
      refine lv_aload_n hx hb d_H_sumOfPart_47 rfl (lv_at hl 3 rfl) ?_
      refine lv_iload_n hx hb d_H_sumOfPart_48 rfl (lv_at hl 4 rfl) ?_
      refine lv_iload hx hb d_H_sumOfPart_49 (lv_at hl 2 rfl) ?_
      refine lv_iconst (v := 4) hx hb d_H_sumOfPart_51 z_k4 ?_
      refine lv_imul hx hb d_H_sumOfPart_52 ?_
      refine lv_iload hx hb d_H_sumOfPart_53 (lv_at hl 0 rfl) ?_
      refine lv_iadd hx hb d_H_sumOfPart_55 ?_
      refine kc_H_39 hF (c_H_byteOf l D C ad hF.2.2 _ _ ho _ _ (z_spb2 hd hp)) hG ho ⟨Nat.le_of_ble_eq_true rfl, Nat.le_of_ble_eq_true rfl⟩ ⟨Nat.zero_le _, Nat.zero_le _⟩ hl.1 (Nat.le_of_ble_eq_true rfl) d_H_sumOfPart_56 (fun H locs hG => ?_)
      refine lv_i2l hx hb d_H_sumOfPart_59 rfl ?_
      refine lv_lxor hx hb d_H_sumOfPart_60 ?_
      refine lv_ldc2 (v := 1099511628211) hx hb hown (hts _ wk_H_37) d_H_sumOfPart_61 ?_
      refine lv_lmul hx hb d_H_sumOfPart_64 ?_
      refine lv_lstore (lv' := [(6, .long ((((((((((((((((((((((x3 ^^^ (x0.toInt64)) * 1099511628211) ^^^ (x1.toInt64)) * 1099511628211) ^^^ ((f_H_byteOf S o x0 ((x1 * 4) + 0)).toInt64)) * 1099511628211) ^^^ ((f_H_byteOf S o x0 ((x1 * 4) + 1)).toInt64)) * 1099511628211) ^^^ ((f_H_byteOf S o x0 ((x1 * 4) + 2)).toInt64)) * 1099511628211) ^^^ ((f_H_byteOf S o x0 ((x1 * 4) + 3)).toInt64)) * 1099511628211) ^^^ (x0.toInt64)) * 1099511628211) ^^^ ((x1 + 8).toInt64)) * 1099511628211) ^^^ ((f_H_byteOf S o x0 (((x1 + 8) * 4) + 0)).toInt64)) * 1099511628211) ^^^ ((f_H_byteOf S o x0 (((x1 + 8) * 4) + 1)).toInt64)) * 1099511628211) ^^^ ((f_H_byteOf S o x0 (((x1 + 8) * 4) + 2)).toInt64)) * 1099511628211)), (9, .int 2), (8, .int (x1 + 8)), (0, .ref (ad 12 o)), (1, .int x0), (2, .int x1), (3, .int x2), (4, .long x3)]) hx hb d_H_sumOfPart_65 hl (Nat.le_of_ble_eq_true rfl) rfl (fun ls hl => ?_)
      refine lv_iinc (k := 1) (v := 3) (lv' := [(9, .int 3), (6, .long ((((((((((((((((((((((x3 ^^^ (x0.toInt64)) * 1099511628211) ^^^ (x1.toInt64)) * 1099511628211) ^^^ ((f_H_byteOf S o x0 ((x1 * 4) + 0)).toInt64)) * 1099511628211) ^^^ ((f_H_byteOf S o x0 ((x1 * 4) + 1)).toInt64)) * 1099511628211) ^^^ ((f_H_byteOf S o x0 ((x1 * 4) + 2)).toInt64)) * 1099511628211) ^^^ ((f_H_byteOf S o x0 ((x1 * 4) + 3)).toInt64)) * 1099511628211) ^^^ (x0.toInt64)) * 1099511628211) ^^^ ((x1 + 8).toInt64)) * 1099511628211) ^^^ ((f_H_byteOf S o x0 (((x1 + 8) * 4) + 0)).toInt64)) * 1099511628211) ^^^ ((f_H_byteOf S o x0 (((x1 + 8) * 4) + 1)).toInt64)) * 1099511628211) ^^^ ((f_H_byteOf S o x0 (((x1 + 8) * 4) + 2)).toInt64)) * 1099511628211)), (8, .int (x1 + 8)), (0, .ref (ad 12 o)), (1, .int x0), (2, .int x1), (3, .int x2), (4, .long x3)]) hx hb d_H_sumOfPart_67 hl rfl (by decide) (Nat.le_of_ble_eq_true rfl) rfl (fun ls hl => ?_)
      refine lv_goto (tgt := 39) hx hb d_H_sumOfPart_70 rfl ?_
      refine lv_iload hx hb d_H_sumOfPart_39 (lv_at hl 0 rfl) ?_
      refine lv_iconst (v := 4) hx hb d_H_sumOfPart_41 z_k4 ?_
      refine lv_icmp_ge (tgt := 73) hx hb d_H_sumOfPart_42 rfl (fun h => absurd h (by decide)) (fun _ => ?_)
      refine lv_lload hx hb d_H_sumOfPart_45 (lv_at hl 1 rfl) ?_
      refine lv_aload_n hx hb d_H_sumOfPart_47 rfl (lv_at hl 3 rfl) ?_
      refine lv_iload_n hx hb d_H_sumOfPart_48 rfl (lv_at hl 4 rfl) ?_
      refine lv_iload hx hb d_H_sumOfPart_49 (lv_at hl 2 rfl) ?_
      refine lv_iconst (v := 4) hx hb d_H_sumOfPart_51 z_k4 ?_
      refine lv_imul hx hb d_H_sumOfPart_52 ?_
      refine lv_iload hx hb d_H_sumOfPart_53 (lv_at hl 0 rfl) ?_
      refine lv_iadd hx hb d_H_sumOfPart_55 ?_
      refine kc_H_39 hF (c_H_byteOf l D C ad hF.2.2 _ _ ho _ _ (z_spb3 hd hp)) hG ho ⟨Nat.le_of_ble_eq_true rfl, Nat.le_of_ble_eq_true rfl⟩ ⟨Nat.zero_le _, Nat.zero_le _⟩ hl.1 (Nat.le_of_ble_eq_true rfl) d_H_sumOfPart_56 (fun H locs hG => ?_)
      refine lv_i2l hx hb d_H_sumOfPart_59 rfl ?_
      refine lv_lxor hx hb d_H_sumOfPart_60 ?_
      refine lv_ldc2 (v := 1099511628211) hx hb hown (hts _ wk_H_37) d_H_sumOfPart_61 ?_
      refine lv_lmul hx hb d_H_sumOfPart_64 ?_
      refine lv_lstore (lv' := [(6, .long ((((((((((((((((((((((((x3 ^^^ (x0.toInt64)) * 1099511628211) ^^^ (x1.toInt64)) * 1099511628211) ^^^ ((f_H_byteOf S o x0 ((x1 * 4) + 0)).toInt64)) * 1099511628211) ^^^ ((f_H_byteOf S o x0 ((x1 * 4) + 1)).toInt64)) * 1099511628211) ^^^ ((f_H_byteOf S o x0 ((x1 * 4) + 2)).toInt64)) * 1099511628211) ^^^ ((f_H_byteOf S o x0 ((x1 * 4) + 3)).toInt64)) * 1099511628211) ^^^ (x0.toInt64)) * 1099511628211) ^^^ ((x1 + 8).toInt64)) * 1099511628211) ^^^ ((f_H_byteOf S o x0 (((x1 + 8) * 4) + 0)).toInt64)) * 1099511628211) ^^^ ((f_H_byteOf S o x0 (((x1 + 8) * 4) + 1)).toInt64)) * 1099511628211) ^^^ ((f_H_byteOf S o x0 (((x1 + 8) * 4) + 2)).toInt64)) * 1099511628211) ^^^ ((f_H_byteOf S o x0 (((x1 + 8) * 4) + 3)).toInt64)) * 1099511628211)), (9, .int 3), (8, .int (x1 + 8)), (0, .ref (ad 12 o)), (1, .int x0), (2, .int x1), (3, .int x2), (4, .long x3)]) hx hb d_H_sumOfPart_65 hl (Nat.le_of_ble_eq_true rfl) rfl (fun ls hl => ?_)
      refine lv_iinc (k := 1) (v := 4) (lv' := [(9, .int 4), (6, .long ((((((((((((((((((((((((x3 ^^^ (x0.toInt64)) * 1099511628211) ^^^ (x1.toInt64)) * 1099511628211) ^^^ ((f_H_byteOf S o x0 ((x1 * 4) + 0)).toInt64)) * 1099511628211) ^^^ ((f_H_byteOf S o x0 ((x1 * 4) + 1)).toInt64)) * 1099511628211) ^^^ ((f_H_byteOf S o x0 ((x1 * 4) + 2)).toInt64)) * 1099511628211) ^^^ ((f_H_byteOf S o x0 ((x1 * 4) + 3)).toInt64)) * 1099511628211) ^^^ (x0.toInt64)) * 1099511628211) ^^^ ((x1 + 8).toInt64)) * 1099511628211) ^^^ ((f_H_byteOf S o x0 (((x1 + 8) * 4) + 0)).toInt64)) * 1099511628211) ^^^ ((f_H_byteOf S o x0 (((x1 + 8) * 4) + 1)).toInt64)) * 1099511628211) ^^^ ((f_H_byteOf S o x0 (((x1 + 8) * 4) + 2)).toInt64)) * 1099511628211) ^^^ ((f_H_byteOf S o x0 (((x1 + 8) * 4) + 3)).toInt64)) * 1099511628211)), (8, .int (x1 + 8)), (0, .ref (ad 12 o)), (1, .int x0), (2, .int x1), (3, .int x2), (4, .long x3)]) hx hb d_H_sumOfPart_67 hl rfl (by decide) (Nat.le_of_ble_eq_true rfl) rfl (fun ls hl => ?_)
      refine lv_goto (tgt := 39) hx hb d_H_sumOfPart_70 rfl ?_
      refine lv_iload hx hb d_H_sumOfPart_39 (lv_at hl 0 rfl) ?_
      refine lv_iconst (v := 4) hx hb d_H_sumOfPart_41 z_k4 ?_
      refine lv_icmp_ge (tgt := 73) hx hb d_H_sumOfPart_42 rfl (fun _ => ?_) (fun h => absurd h (by decide))
      refine lv_iinc (k := 2) (v := ((x1 + 8) + 8)) (lv' := [(8, .int ((x1 + 8) + 8)), (9, .int 4), (6, .long ((((((((((((((((((((((((x3 ^^^ (x0.toInt64)) * 1099511628211) ^^^ (x1.toInt64)) * 1099511628211) ^^^ ((f_H_byteOf S o x0 ((x1 * 4) + 0)).toInt64)) * 1099511628211) ^^^ ((f_H_byteOf S o x0 ((x1 * 4) + 1)).toInt64)) * 1099511628211) ^^^ ((f_H_byteOf S o x0 ((x1 * 4) + 2)).toInt64)) * 1099511628211) ^^^ ((f_H_byteOf S o x0 ((x1 * 4) + 3)).toInt64)) * 1099511628211) ^^^ (x0.toInt64)) * 1099511628211) ^^^ ((x1 + 8).toInt64)) * 1099511628211) ^^^ ((f_H_byteOf S o x0 (((x1 + 8) * 4) + 0)).toInt64)) * 1099511628211) ^^^ ((f_H_byteOf S o x0 (((x1 + 8) * 4) + 1)).toInt64)) * 1099511628211) ^^^ ((f_H_byteOf S o x0 (((x1 + 8) * 4) + 2)).toInt64)) * 1099511628211) ^^^ ((f_H_byteOf S o x0 (((x1 + 8) * 4) + 3)).toInt64)) * 1099511628211)), (0, .ref (ad 12 o)), (1, .int x0), (2, .int x1), (3, .int x2), (4, .long x3)]) hx hb d_H_sumOfPart_73 hl rfl (by rw [z_k8]) (Nat.le_of_ble_eq_true rfl) rfl (fun ls hl => ?_)
      refine lv_goto (tgt := 7) hx hb d_H_sumOfPart_76 rfl ?_
      refine lv_iload hx hb d_H_sumOfPart_7 (lv_at hl 0 rfl) ?_
      refine lv_iload_n hx hb d_H_sumOfPart_9 rfl (lv_at hl 6 rfl) ?_
      refine lv_icmp_ge (tgt := 79) hx hb d_H_sumOfPart_10 rfl (fun _ => ?_) (fun h => absurd h (not_not_intro (z_sp3 hp hq)))
      refine lv_lload hx hb d_H_sumOfPart_79 (lv_at hl 2 rfl) ?_
      exact z_lret hF hr hlk hG (Eq.symm ((if_neg h10).trans ((if_neg h10_1).trans rfl))) rfl d_H_sumOfPart_81
def rg_H_receive_3i_S1 (S : z_S) (v0 : Nat) (v1 : Int32) (v3 : Int32) (k : Nat) : z_S := (g_H_flip S v0 v1 (nI k) ((v3 + (31 * (nI k))) &&& 255))
set_option maxHeartbeats 4000000 in
set_option maxRecDepth 100000 in
theorem rg_H_receive_3i {D : va_G} {C : Nat → ClassId} {ad : Nat → Nat → Nat} {S : z_S} {p : Program} {l : Launch} {e : Env} {s : State} {m : MethodId} {args : Array Value} {below : List Frame} {meth : Method} {c : Code} {H H0 : Heap} {locs : List Loc} {Q : State → Prop} {ls : Array Slot} {v0 : Nat} {v1 : Int32} {v2 : Int32} {v3 : Int32} {k : Nat} {N : Nat} (hF : z_F D C ad p m c b_H_receive 5 s args R_H) (hv0 : v0 < z_n 12) (hb4 : v2 * 4 = nI N) (hN : N < 2 ^ 31) (hin : ∀ k : Nat, k < N → vp_in (f_H_place v1 (nI k / 4)) 96) (hk : k < N) (hG : z_G D C ad H0 S H locs) (hl : lv_has ls 5 [(0, .ref (ad 12 v0)), (1, .int v1), (2, .int v2), (3, .int v3), (4, .int (nI k))]) (kk : ∀ (H : Heap) (locs : List Loc) (ls : Array Slot) (S1 : z_S), z_G D C ad H0 S1 H locs → lv_has ls 5 [(0, .ref (ad 12 v0)), (1, .int v1), (2, .int v2), (3, .int v3), (4, .int (nI (k + 1)))] → S1 = rg_H_receive_3i_S1 S v0 v1 v3 k → W p l e rm_H_receive s m args below meth c H locs 0 0 Q (F0 m 3 ls [])) : W p l e rm_H_receive s m args below meth c H locs 0 0 Q (F0 m 3 ls []) := by
  obtain ⟨hx, hb, hml, hown, hts⟩ := hF.1
  refine lv_iload hx hb d_H_receive_3 (lv_at hl 4 rfl) ?_
  refine lv_iload_n hx hb d_H_receive_5 rfl (lv_at hl 2 rfl) ?_
  refine lv_iconst (v := 4) hx hb d_H_receive_6 z_k4 ?_
  refine lv_imul hx hb d_H_receive_7 ?_
  refine lv_icmp_ge (tgt := 35) hx hb d_H_receive_8 rfl (fun h => absurd h (by rw [hb4]; exact nI_ge hk hN)) (fun _ => ?_)
  refine lv_aload_n hx hb d_H_receive_11 rfl (lv_at hl 0 rfl) ?_
  refine lv_iload_n hx hb d_H_receive_12 rfl (lv_at hl 1 rfl) ?_
  refine lv_iload hx hb d_H_receive_13 (lv_at hl 4 rfl) ?_
  refine lv_iload_n hx hb d_H_receive_15 rfl (lv_at hl 3 rfl) ?_
  refine lv_bipush (v := 31) hx hb d_H_receive_16 z_bi31 ?_
  refine lv_iload hx hb d_H_receive_18 (lv_at hl 4 rfl) ?_
  refine lv_imul hx hb d_H_receive_20 ?_
  refine lv_iadd hx hb d_H_receive_21 ?_
  refine lv_sipush (v := 255) hx hb d_H_receive_22 z_si255 ?_
  refine lv_iand hx hb d_H_receive_25 ?_
  refine kc_H_23 hF (c_H_flip l D C ad hF.2.2 _ _ hv0 _ _ _ (hin k hk)) hG hv0 ⟨Nat.le_of_ble_eq_true rfl, Nat.le_of_ble_eq_true rfl⟩ ⟨Nat.zero_le _, Nat.zero_le _⟩ hl.1 (Nat.le_of_ble_eq_true rfl) d_H_receive_26 (fun H locs hG => ?_)
  refine lv_iinc (k := 4) (v := (nI (k + 1))) (lv' := [(4, .int (nI (k + 1))), (0, .ref (ad 12 v0)), (1, .int v1), (2, .int v2), (3, .int v3)]) hx hb d_H_receive_29 hl rfl (z_incN _) (Nat.le_of_ble_eq_true rfl) rfl (fun ls hl => ?_)
  refine lv_goto (tgt := 3) hx hb d_H_receive_32 rfl ?_
  exact kk _ _ _ _ hG (lv_sub hl [1, 2, 3, 4, 0] rfl) rfl
set_option maxHeartbeats 4000000 in
set_option maxRecDepth 100000 in
theorem rg_H_receive_3e {D : va_G} {C : Nat → ClassId} {ad : Nat → Nat → Nat} {S : z_S} {p : Program} {l : Launch} {e : Env} {s : State} {m : MethodId} {args : Array Value} {below : List Frame} {meth : Method} {c : Code} {H H0 : Heap} {locs : List Loc} {Q : State → Prop} {ls : Array Slot} {v0 : Nat} {v1 : Int32} {v2 : Int32} {v3 : Int32} {k : Nat} {N : Nat} (hF : z_F D C ad p m c b_H_receive 5 s args R_H) (hv0 : v0 < z_n 12) (hb4 : v2 * 4 = nI N) (hN : N < 2 ^ 31) (hin : ∀ k : Nat, k < N → vp_in (f_H_place v1 (nI k / 4)) 96) (hk : k = N) (hG : z_G D C ad H0 S H locs) (hl : lv_has ls 5 [(0, .ref (ad 12 v0)), (1, .int v1), (2, .int v2), (3, .int v3), (4, .int (nI k))]) (kk : ∀ (H : Heap) (locs : List Loc) (ls : Array Slot) , z_G D C ad H0 S H locs → lv_has ls 5 [(0, .ref (ad 12 v0)), (1, .int v1), (2, .int v2), (3, .int v3), (4, .int (nI k))] → W p l e rm_H_receive s m args below meth c H locs 0 0 Q (F0 m 35 ls [])) : W p l e rm_H_receive s m args below meth c H locs 0 0 Q (F0 m 3 ls []) := by
  obtain ⟨hx, hb, hml, hown, hts⟩ := hF.1
  refine lv_iload hx hb d_H_receive_3 (lv_at hl 4 rfl) ?_
  refine lv_iload_n hx hb d_H_receive_5 rfl (lv_at hl 2 rfl) ?_
  refine lv_iconst (v := 4) hx hb d_H_receive_6 z_k4 ?_
  refine lv_imul hx hb d_H_receive_7 ?_
  refine lv_icmp_ge (tgt := 35) hx hb d_H_receive_8 rfl (fun _ => ?_) (fun h => absurd h (by rw [hb4, hk]; exact not_not_intro (nI_le (Nat.le_refl _) hN)))
  exact kk _ _ _  hG (lv_sub hl [0, 1, 2, 3, 4] rfl) 
set_option maxHeartbeats 4000000 in
set_option maxRecDepth 100000 in
theorem lp_H_receive_3 {D : va_G} {C : Nat → ClassId} {ad : Nat → Nat → Nat} {p : Program} {l : Launch} {e : Env} {s : State} {m : MethodId} {args : Array Value} {below : List Frame} {meth : Method} {c : Code} {H0 : Heap} {Q : State → Prop} {v0 : Nat} {v1 : Int32} {v2 : Int32} {v3 : Int32} {N : Nat} (hF : z_F D C ad p m c b_H_receive 5 s args R_H) (hv0 : v0 < z_n 12) (hb4 : v2 * 4 = nI N) (hN : N < 2 ^ 31) (hin : ∀ k : Nat, k < N → vp_in (f_H_place v1 (nI k / 4)) 96) : ∀ (n k : Nat) (S : z_S) (H : Heap) (locs : List Loc) (ls : Array Slot), k + n = N → z_G D C ad H0 S H locs → lv_has ls 5 [(0, .ref (ad 12 v0)), (1, .int v1), (2, .int v2), (3, .int v3), (4, .int (nI k))] → (∀ (H : Heap) (locs : List Loc) (ls : Array Slot), z_G D C ad H0 (z_it (fun (k : Nat) (S : z_S) => rg_H_receive_3i_S1 S v0 v1 v3 k) k n S) H locs → lv_has ls 5 [(0, .ref (ad 12 v0)), (1, .int v1), (2, .int v2), (3, .int v3), (4, .int (nI N))] → W p l e rm_H_receive s m args below meth c H locs 0 0 Q (F0 m 35 ls [])) → W p l e rm_H_receive s m args below meth c H locs 0 0 Q (F0 m 3 ls []) := by
  intro n
  induction n with
  | zero =>
    intro k S H locs ls hk hG hl kk
    have hk : k = N := by omega
    refine rg_H_receive_3e hF hv0 hb4 hN hin hk hG hl (fun H locs ls hG hl => ?_)
    subst hk
    exact kk H locs ls hG hl
  | succ n ih =>
    intro k S H locs ls hk hG hl kk
    refine rg_H_receive_3i hF hv0 hb4 hN hin (by omega) hG hl (fun H locs ls S1 hG hl e1 => ?_)
    subst e1
    exact ih (k + 1) (rg_H_receive_3i_S1 S v0 v1 v3 k) H locs ls (by omega) hG hl kk
def g_H_receive (S : z_S) (o : Nat) (x0 : Int32) (x2 : Int32) (N : Nat) : z_S := (z_it (fun (kk9 : Nat) (T9 : z_S) => rg_H_receive_3i_S1 T9 o x0 x2 kk9) 0 N S)
set_option maxHeartbeats 4000000 in
set_option maxRecDepth 100000 in
theorem c_H_receive (l : Launch) (D : va_G) (C : Nat → ClassId) (ad : Nat → Nat → Nat) (hJ : z_J ad) (S : z_S) (o : Nat) (ho : o < z_n 12) (x0 : Int32) (x1 : Int32) (x2 : Int32) (N : Nat) (hb4 : x1 * 4 = nI N) (hN : N < 2 ^ 31) (hin : ∀ k : Nat, k < N → vp_in (f_H_place x0 (nI k / 4)) 96) : z_M l y_H_receive b_H_receive 5 none rm_H_receive D C ad [.ref (ad 12 o), .int x0, .int x1, .int x2] S (z_Qv D C ad (g_H_receive S o x0 x2 N)) := by
  refine z_enter (by decide) (Nat.le_of_ble_eq_true rfl) hJ ?_
  intro p e s m below meth c ls hF hr hlk hl hG
  obtain ⟨hx, hb, hml, hown, hts⟩ := hF.1
  have hl : lv_has ls 5 [(0, .ref (ad 12 o)), (1, .int x0), (2, .int x1), (3, .int x2)] := hl
  refine lv_iconst (v := 0) hx hb d_H_receive_0 z_k0 ?_
  refine lv_istore (lv' := [(4, .int 0), (0, .ref (ad 12 o)), (1, .int x0), (2, .int x1), (3, .int x2)]) hx hb d_H_receive_1 hl (Nat.le_of_ble_eq_true rfl) rfl (fun ls hl => ?_)
  have hl : lv_has ls 5 [(0, .ref (ad 12 o)), (1, .int x0), (2, .int x1), (3, .int x2), (4, .int (nI 0))] := by
    have h9 := lv_sub hl [1, 2, 3, 4, 0] rfl
    rw [nI_0]; exact h9
  refine lp_H_receive_3  hF ho hb4 hN hin N 0 _ _ _ ls (by omega) hG hl (fun H locs ls hG hl => ?_)
  exact z_vret hF hr hlk hG rfl d_H_receive_35
def g_A_forget_15 (S : z_S) (o : Nat) : z_S := (z_sI (z_sI (z_sI (z_sI S 16 o 0 0) 16 o 1 0) 16 o 2 0) 15 o 2 0)
set_option maxHeartbeats 4000000 in
set_option maxRecDepth 100000 in
theorem c_A_forget_15 (l : Launch) (D : va_G) (C : Nat → ClassId) (ad : Nat → Nat → Nat) (hJ : z_J ad) (S : z_S) (o : Nat) (ho : o < z_n 15)  : z_M l y_A_forget b_A_forget 2 none rm_A_forget D C ad [.ref (ad 15 o)] S (z_Qv D C ad (g_A_forget_15 S o)) := by
  refine z_enter (by decide) (Nat.le_of_ble_eq_true rfl) hJ ?_
  intro p e s m below meth c ls hF hr hlk hl hG
  obtain ⟨hx, hb, hml, hown, hts⟩ := hF.1
  have hl : lv_has ls 2 [(0, .ref (ad 15 o))] := hl
  refine lv_iconst (v := 0) hx hb d_A_forget_0 z_k0 ?_
  refine lv_istore_n (lv' := [(1, .int 0), (0, .ref (ad 15 o))]) hx hb d_A_forget_1 rfl hl (Nat.le_of_ble_eq_true rfl) rfl (fun ls hl => ?_)
  refine lv_iload_n hx hb d_A_forget_2 rfl (lv_at hl 0 rfl) ?_
  refine lv_iconst (v := 3) hx hb d_A_forget_3 z_k3 ?_
  refine lv_icmp_ge (tgt := 20) hx hb d_A_forget_4 rfl (fun h => absurd h (by decide)) (fun _ => ?_)
  refine lv_aload_n hx hb d_A_forget_7 rfl (lv_at hl 1 rfl) ?_
  refine gf_A_9_15 hF hG ho d_A_forget_8 ?_
  refine lv_iload_n hx hb d_A_forget_11 rfl (lv_at hl 0 rfl) ?_
  refine lv_iconst (v := 0) hx hb d_A_forget_12 z_k0 ?_
  refine z_zast (n := 3) (j := 0) hF hG ho (fun f g => z_c16 C ad f g _) z_q0 z_in0_3 rfl d_A_forget_13 (fun H locs hG => ?_)
  refine lv_iinc (k := 0) (v := 1) (lv' := [(1, .int 1), (0, .ref (ad 15 o))]) hx hb d_A_forget_14 hl rfl (by decide) (Nat.le_of_ble_eq_true rfl) rfl (fun ls hl => ?_)
  refine lv_goto (tgt := 2) hx hb d_A_forget_17 rfl ?_
  refine lv_iload_n hx hb d_A_forget_2 rfl (lv_at hl 0 rfl) ?_
  refine lv_iconst (v := 3) hx hb d_A_forget_3 z_k3 ?_
  refine lv_icmp_ge (tgt := 20) hx hb d_A_forget_4 rfl (fun h => absurd h (by decide)) (fun _ => ?_)
  refine lv_aload_n hx hb d_A_forget_7 rfl (lv_at hl 1 rfl) ?_
  refine gf_A_9_15 hF hG ho d_A_forget_8 ?_
  refine lv_iload_n hx hb d_A_forget_11 rfl (lv_at hl 0 rfl) ?_
  refine lv_iconst (v := 0) hx hb d_A_forget_12 z_k0 ?_
  refine z_zast (n := 3) (j := 1) hF hG ho (fun f g => z_c16 C ad f g _) z_q1 z_in1_3 rfl d_A_forget_13 (fun H locs hG => ?_)
  refine lv_iinc (k := 0) (v := 2) (lv' := [(1, .int 2), (0, .ref (ad 15 o))]) hx hb d_A_forget_14 hl rfl (by decide) (Nat.le_of_ble_eq_true rfl) rfl (fun ls hl => ?_)
  refine lv_goto (tgt := 2) hx hb d_A_forget_17 rfl ?_
  refine lv_iload_n hx hb d_A_forget_2 rfl (lv_at hl 0 rfl) ?_
  refine lv_iconst (v := 3) hx hb d_A_forget_3 z_k3 ?_
  refine lv_icmp_ge (tgt := 20) hx hb d_A_forget_4 rfl (fun h => absurd h (by decide)) (fun _ => ?_)
  refine lv_aload_n hx hb d_A_forget_7 rfl (lv_at hl 1 rfl) ?_
  refine gf_A_9_15 hF hG ho d_A_forget_8 ?_
  refine lv_iload_n hx hb d_A_forget_11 rfl (lv_at hl 0 rfl) ?_
  refine lv_iconst (v := 0) hx hb d_A_forget_12 z_k0 ?_
  refine z_zast (n := 3) (j := 2) hF hG ho (fun f g => z_c16 C ad f g _) z_q2 z_in2_3 rfl d_A_forget_13 (fun H locs hG => ?_)
  refine lv_iinc (k := 0) (v := 3) (lv' := [(1, .int 3), (0, .ref (ad 15 o))]) hx hb d_A_forget_14 hl rfl (by decide) (Nat.le_of_ble_eq_true rfl) rfl (fun ls hl => ?_)
  refine lv_goto (tgt := 2) hx hb d_A_forget_17 rfl ?_
  refine lv_iload_n hx hb d_A_forget_2 rfl (lv_at hl 0 rfl) ?_
  refine lv_iconst (v := 3) hx hb d_A_forget_3 z_k3 ?_
  refine lv_icmp_ge (tgt := 20) hx hb d_A_forget_4 rfl (fun _ => ?_) (fun h => absurd h (by decide))
  refine lv_aload_n hx hb d_A_forget_20 rfl (lv_at hl 1 rfl) ?_
  refine lv_iconst (v := 0) hx hb d_A_forget_21 z_k0 ?_
  refine pf_A_19_15 hF hG ho d_A_forget_22 (fun H locs hG => ?_)
  exact z_vret hF hr hlk hG rfl d_A_forget_25
def f_A_take_15 (S : z_S) (o : Nat) (x0 : Int32) : Int32 := (if (S.1 16 o x0.toNatClampNeg) = 0 then 1 else 0)
def g_A_take_15 (S : z_S) (o : Nat) (x0 : Int32) (x1 : Int64) : z_S := (if (S.1 16 o x0.toNatClampNeg) = 0 then (z_sI (z_sL (z_sI S 16 o x0.toNatClampNeg 1) 17 o x0.toNatClampNeg x1) 15 o 2 ((S.1 15 o 2) + 1)) else S)
set_option maxHeartbeats 4000000 in
set_option maxRecDepth 100000 in
theorem c_A_take_15 (l : Launch) (D : va_G) (C : Nat → ClassId) (ad : Nat → Nat → Nat) (hJ : z_J ad) (S : z_S) (o : Nat) (ho : o < z_n 15) (x0 : Int32) (x1 : Int64) (hin : vp_in x0 3) : z_M l y_A_take b_A_take 4 (some .boolean) rm_A_take D C ad [.ref (ad 15 o), .int x0, .long x1] S (z_Qi D C ad (f_A_take_15 S o x0) (g_A_take_15 S o x0 x1)) := by
  refine z_enter (by decide) (Nat.le_of_ble_eq_true rfl) hJ ?_
  intro p e s m below meth c ls hF hr hlk hl hG
  obtain ⟨hx, hb, hml, hown, hts⟩ := hF.1
  have hl : lv_has ls 4 [(0, .ref (ad 15 o)), (1, .int x0), (2, .long x1)] := hl
  refine lv_aload_n hx hb d_A_take_0 rfl (lv_at hl 0 rfl) ?_
  refine gf_A_9_15 hF hG ho d_A_take_1 ?_
  refine lv_iload_n hx hb d_A_take_4 rfl (lv_at hl 1 rfl) ?_
  refine z_zald (n := 3) (j := x0.toNatClampNeg) (v := (S.1 16 o x0.toNatClampNeg)) hF hG ho (z_c16 C ad _ _ _) rfl hin rfl d_A_take_5 ?_
  refine lv_if_eq (tgt := 11) hx hb d_A_take_6 rfl (fun h6 => ?_) (fun h6 => ?_)
  ·
    refine lv_aload_n hx hb d_A_take_11 rfl (lv_at hl 0 rfl) ?_
    refine gf_A_9_15 hF hG ho d_A_take_12 ?_
    refine lv_iload_n hx hb d_A_take_15 rfl (lv_at hl 1 rfl) ?_
    refine lv_iconst (v := 1) hx hb d_A_take_16 z_k1 ?_
    refine z_zast (n := 3) (j := x0.toNatClampNeg) hF hG ho (fun f g => z_c16 C ad f g _) rfl hin rfl d_A_take_17 (fun H locs hG => ?_)
    refine lv_aload_n hx hb d_A_take_18 rfl (lv_at hl 0 rfl) ?_
    refine gf_A_15_15 hF hG ho d_A_take_19 ?_
    refine lv_iload_n hx hb d_A_take_22 rfl (lv_at hl 1 rfl) ?_
    refine lv_lload_n hx hb d_A_take_23 rfl (lv_at hl 2 rfl) ?_
    refine z_last (n := 3) (j := x0.toNatClampNeg) hF hG ho (fun f g => z_c17 C ad f g _) rfl hin d_A_take_24 (fun H locs hG => ?_)
    refine lv_aload_n hx hb d_A_take_25 rfl (lv_at hl 0 rfl) ?_
    refine lv_dup hx hb d_A_take_26 rfl ?_
    refine gf_A_19_15 hF hG ho (v := (S.1 15 o 2)) rfl d_A_take_27 ?_
    refine lv_iconst (v := 1) hx hb d_A_take_30 z_k1 ?_
    refine lv_iadd hx hb d_A_take_31 ?_
    refine pf_A_19_15 hF hG ho d_A_take_32 (fun H locs hG => ?_)
    refine lv_iconst (v := 1) hx hb d_A_take_35 z_k1 ?_
    exact z_zret hF hr hlk rfl hG (Eq.symm ((if_pos h6).trans rfl)) (Eq.symm ((if_pos h6).trans rfl)) d_A_take_36
  ·
    refine lv_iconst (v := 0) hx hb d_A_take_9 z_k0 ?_
    exact z_zret hF hr hlk rfl hG (Eq.symm ((if_neg h6).trans rfl)) (Eq.symm ((if_neg h6).trans rfl)) d_A_take_10
def f_A_isComplete_15 (S : z_S) (o : Nat) : Int32 := (if (S.1 15 o 2) = 3 then 1 else 0)
set_option maxHeartbeats 4000000 in
set_option maxRecDepth 100000 in
theorem c_A_isComplete_15 (l : Launch) (D : va_G) (C : Nat → ClassId) (ad : Nat → Nat → Nat) (hJ : z_J ad) (S : z_S) (o : Nat) (ho : o < z_n 15)  : z_M l y_A_isComplete b_A_isComplete 1 (some .boolean) rm_A_isComplete D C ad [.ref (ad 15 o)] S (z_Qi D C ad (f_A_isComplete_15 S o) S) := by
  refine z_enter (by decide) (Nat.le_of_ble_eq_true rfl) hJ ?_
  intro p e s m below meth c ls hF hr hlk hl hG
  obtain ⟨hx, hb, hml, hown, hts⟩ := hF.1
  have hl : lv_has ls 1 [(0, .ref (ad 15 o))] := hl
  refine lv_aload_n hx hb d_A_isComplete_0 rfl (lv_at hl 0 rfl) ?_
  refine gf_A_19_15 hF hG ho (v := (S.1 15 o 2)) rfl d_A_isComplete_1 ?_
  refine lv_iconst (v := 3) hx hb d_A_isComplete_4 z_k3 ?_
  refine lv_icmp_ne (tgt := 12) hx hb d_A_isComplete_5 rfl (fun h5 => ?_) (fun h5 => ?_)
  ·
    refine lv_iconst (v := 0) hx hb d_A_isComplete_12 z_k0 ?_
    exact z_zret hF hr hlk rfl hG (Eq.symm ((if_neg h5).trans rfl)) rfl d_A_isComplete_13
  ·
    refine lv_iconst (v := 1) hx hb d_A_isComplete_8 z_k1 ?_
    refine lv_goto (tgt := 13) hx hb d_A_isComplete_9 rfl ?_
    exact z_zret hF hr hlk rfl hG (Eq.symm ((if_pos h5).trans rfl)) rfl d_A_isComplete_13
def f_A_areAlike_15 (S : z_S) (o : Nat) : Int32 := (if (lg_cmp (S.2 17 o 0) (S.2 17 o 1)) = 0 then (if (lg_cmp (S.2 17 o 1) (S.2 17 o 2)) = 0 then 1 else 0) else 0)
set_option maxHeartbeats 4000000 in
set_option maxRecDepth 100000 in
theorem c_A_areAlike_15 (l : Launch) (D : va_G) (C : Nat → ClassId) (ad : Nat → Nat → Nat) (hJ : z_J ad) (S : z_S) (o : Nat) (ho : o < z_n 15)  : z_M l y_A_areAlike b_A_areAlike 1 (some .boolean) rm_A_areAlike D C ad [.ref (ad 15 o)] S (z_Qi D C ad (f_A_areAlike_15 S o) S) := by
  refine z_enter (by decide) (Nat.le_of_ble_eq_true rfl) hJ ?_
  intro p e s m below meth c ls hF hr hlk hl hG
  obtain ⟨hx, hb, hml, hown, hts⟩ := hF.1
  have hl : lv_has ls 1 [(0, .ref (ad 15 o))] := hl
  refine lv_aload_n hx hb d_A_areAlike_0 rfl (lv_at hl 0 rfl) ?_
  refine gf_A_15_15 hF hG ho d_A_areAlike_1 ?_
  refine lv_iconst (v := 0) hx hb d_A_areAlike_4 z_k0 ?_
  refine z_lald (n := 3) (j := 0) (v := (S.2 17 o 0)) hF hG ho (z_c17 C ad _ _ _) z_q0 z_in0_3 rfl d_A_areAlike_5 ?_
  refine lv_aload_n hx hb d_A_areAlike_6 rfl (lv_at hl 0 rfl) ?_
  refine gf_A_15_15 hF hG ho d_A_areAlike_7 ?_
  refine lv_iconst (v := 1) hx hb d_A_areAlike_10 z_k1 ?_
  refine z_lald (n := 3) (j := 1) (v := (S.2 17 o 1)) hF hG ho (z_c17 C ad _ _ _) z_q1 z_in1_3 rfl d_A_areAlike_11 ?_
  refine W.lcmp hx hb d_A_areAlike_12 ?_
  refine lv_if_ne (tgt := 36) hx hb d_A_areAlike_13 rfl (fun h13 => ?_) (fun h13 => ?_)
  ·
    refine lv_iconst (v := 0) hx hb d_A_areAlike_36 z_k0 ?_
    exact z_zret hF hr hlk rfl hG (Eq.symm ((if_neg h13).trans rfl)) rfl d_A_areAlike_37
  ·
    refine lv_aload_n hx hb d_A_areAlike_16 rfl (lv_at hl 0 rfl) ?_
    refine gf_A_15_15 hF hG ho d_A_areAlike_17 ?_
    refine lv_iconst (v := 1) hx hb d_A_areAlike_20 z_k1 ?_
    refine z_lald (n := 3) (j := 1) (v := (S.2 17 o 1)) hF hG ho (z_c17 C ad _ _ _) z_q1 z_in1_3 rfl d_A_areAlike_21 ?_
    refine lv_aload_n hx hb d_A_areAlike_22 rfl (lv_at hl 0 rfl) ?_
    refine gf_A_15_15 hF hG ho d_A_areAlike_23 ?_
    refine lv_iconst (v := 2) hx hb d_A_areAlike_26 z_k2 ?_
    refine z_lald (n := 3) (j := 2) (v := (S.2 17 o 2)) hF hG ho (z_c17 C ad _ _ _) z_q2 z_in2_3 rfl d_A_areAlike_27 ?_
    refine W.lcmp hx hb d_A_areAlike_28 ?_
    refine lv_if_ne (tgt := 36) hx hb d_A_areAlike_29 rfl (fun h29 => ?_) (fun h29 => ?_)
    ·
      refine lv_iconst (v := 0) hx hb d_A_areAlike_36 z_k0 ?_
      exact z_zret hF hr hlk rfl hG (Eq.symm ((if_pos h13).trans ((if_neg h29).trans rfl))) rfl d_A_areAlike_37
    ·
      refine lv_iconst (v := 1) hx hb d_A_areAlike_32 z_k1 ?_
      refine lv_goto (tgt := 37) hx hb d_A_areAlike_33 rfl ?_
      exact z_zret hF hr hlk rfl hG (Eq.symm ((if_pos h13).trans ((if_pos h29).trans rfl))) rfl d_A_areAlike_37
def g_A_forget_18 (S : z_S) (o : Nat) : z_S := (z_sI (z_sI (z_sI (z_sI S 19 o 0 0) 19 o 1 0) 19 o 2 0) 18 o 2 0)
set_option maxHeartbeats 4000000 in
set_option maxRecDepth 100000 in
theorem c_A_forget_18 (l : Launch) (D : va_G) (C : Nat → ClassId) (ad : Nat → Nat → Nat) (hJ : z_J ad) (S : z_S) (o : Nat) (ho : o < z_n 18)  : z_M l y_A_forget b_A_forget 2 none rm_A_forget D C ad [.ref (ad 18 o)] S (z_Qv D C ad (g_A_forget_18 S o)) := by
  refine z_enter (by decide) (Nat.le_of_ble_eq_true rfl) hJ ?_
  intro p e s m below meth c ls hF hr hlk hl hG
  obtain ⟨hx, hb, hml, hown, hts⟩ := hF.1
  have hl : lv_has ls 2 [(0, .ref (ad 18 o))] := hl
  refine lv_iconst (v := 0) hx hb d_A_forget_0 z_k0 ?_
  refine lv_istore_n (lv' := [(1, .int 0), (0, .ref (ad 18 o))]) hx hb d_A_forget_1 rfl hl (Nat.le_of_ble_eq_true rfl) rfl (fun ls hl => ?_)
  refine lv_iload_n hx hb d_A_forget_2 rfl (lv_at hl 0 rfl) ?_
  refine lv_iconst (v := 3) hx hb d_A_forget_3 z_k3 ?_
  refine lv_icmp_ge (tgt := 20) hx hb d_A_forget_4 rfl (fun h => absurd h (by decide)) (fun _ => ?_)
  refine lv_aload_n hx hb d_A_forget_7 rfl (lv_at hl 1 rfl) ?_
  refine gf_A_9_18 hF hG ho d_A_forget_8 ?_
  refine lv_iload_n hx hb d_A_forget_11 rfl (lv_at hl 0 rfl) ?_
  refine lv_iconst (v := 0) hx hb d_A_forget_12 z_k0 ?_
  refine z_zast (n := 3) (j := 0) hF hG ho (fun f g => z_c19 C ad f g _) z_q0 z_in0_3 rfl d_A_forget_13 (fun H locs hG => ?_)
  refine lv_iinc (k := 0) (v := 1) (lv' := [(1, .int 1), (0, .ref (ad 18 o))]) hx hb d_A_forget_14 hl rfl (by decide) (Nat.le_of_ble_eq_true rfl) rfl (fun ls hl => ?_)
  refine lv_goto (tgt := 2) hx hb d_A_forget_17 rfl ?_
  refine lv_iload_n hx hb d_A_forget_2 rfl (lv_at hl 0 rfl) ?_
  refine lv_iconst (v := 3) hx hb d_A_forget_3 z_k3 ?_
  refine lv_icmp_ge (tgt := 20) hx hb d_A_forget_4 rfl (fun h => absurd h (by decide)) (fun _ => ?_)
  refine lv_aload_n hx hb d_A_forget_7 rfl (lv_at hl 1 rfl) ?_
  refine gf_A_9_18 hF hG ho d_A_forget_8 ?_
  refine lv_iload_n hx hb d_A_forget_11 rfl (lv_at hl 0 rfl) ?_
  refine lv_iconst (v := 0) hx hb d_A_forget_12 z_k0 ?_
  refine z_zast (n := 3) (j := 1) hF hG ho (fun f g => z_c19 C ad f g _) z_q1 z_in1_3 rfl d_A_forget_13 (fun H locs hG => ?_)
  refine lv_iinc (k := 0) (v := 2) (lv' := [(1, .int 2), (0, .ref (ad 18 o))]) hx hb d_A_forget_14 hl rfl (by decide) (Nat.le_of_ble_eq_true rfl) rfl (fun ls hl => ?_)
  refine lv_goto (tgt := 2) hx hb d_A_forget_17 rfl ?_
  refine lv_iload_n hx hb d_A_forget_2 rfl (lv_at hl 0 rfl) ?_
  refine lv_iconst (v := 3) hx hb d_A_forget_3 z_k3 ?_
  refine lv_icmp_ge (tgt := 20) hx hb d_A_forget_4 rfl (fun h => absurd h (by decide)) (fun _ => ?_)
  refine lv_aload_n hx hb d_A_forget_7 rfl (lv_at hl 1 rfl) ?_
  refine gf_A_9_18 hF hG ho d_A_forget_8 ?_
  refine lv_iload_n hx hb d_A_forget_11 rfl (lv_at hl 0 rfl) ?_
  refine lv_iconst (v := 0) hx hb d_A_forget_12 z_k0 ?_
  refine z_zast (n := 3) (j := 2) hF hG ho (fun f g => z_c19 C ad f g _) z_q2 z_in2_3 rfl d_A_forget_13 (fun H locs hG => ?_)
  refine lv_iinc (k := 0) (v := 3) (lv' := [(1, .int 3), (0, .ref (ad 18 o))]) hx hb d_A_forget_14 hl rfl (by decide) (Nat.le_of_ble_eq_true rfl) rfl (fun ls hl => ?_)
  refine lv_goto (tgt := 2) hx hb d_A_forget_17 rfl ?_
  refine lv_iload_n hx hb d_A_forget_2 rfl (lv_at hl 0 rfl) ?_
  refine lv_iconst (v := 3) hx hb d_A_forget_3 z_k3 ?_
  refine lv_icmp_ge (tgt := 20) hx hb d_A_forget_4 rfl (fun _ => ?_) (fun h => absurd h (by decide))
  refine lv_aload_n hx hb d_A_forget_20 rfl (lv_at hl 1 rfl) ?_
  refine lv_iconst (v := 0) hx hb d_A_forget_21 z_k0 ?_
  refine pf_A_19_18 hF hG ho d_A_forget_22 (fun H locs hG => ?_)
  exact z_vret hF hr hlk hG rfl d_A_forget_25
def f_A_take_18 (S : z_S) (o : Nat) (x0 : Int32) : Int32 := (if (S.1 19 o x0.toNatClampNeg) = 0 then 1 else 0)
def g_A_take_18 (S : z_S) (o : Nat) (x0 : Int32) (x1 : Int64) : z_S := (if (S.1 19 o x0.toNatClampNeg) = 0 then (z_sI (z_sL (z_sI S 19 o x0.toNatClampNeg 1) 20 o x0.toNatClampNeg x1) 18 o 2 ((S.1 18 o 2) + 1)) else S)
set_option maxHeartbeats 4000000 in
set_option maxRecDepth 100000 in
theorem c_A_take_18 (l : Launch) (D : va_G) (C : Nat → ClassId) (ad : Nat → Nat → Nat) (hJ : z_J ad) (S : z_S) (o : Nat) (ho : o < z_n 18) (x0 : Int32) (x1 : Int64) (hin : vp_in x0 3) : z_M l y_A_take b_A_take 4 (some .boolean) rm_A_take D C ad [.ref (ad 18 o), .int x0, .long x1] S (z_Qi D C ad (f_A_take_18 S o x0) (g_A_take_18 S o x0 x1)) := by
  refine z_enter (by decide) (Nat.le_of_ble_eq_true rfl) hJ ?_
  intro p e s m below meth c ls hF hr hlk hl hG
  obtain ⟨hx, hb, hml, hown, hts⟩ := hF.1
  have hl : lv_has ls 4 [(0, .ref (ad 18 o)), (1, .int x0), (2, .long x1)] := hl
  refine lv_aload_n hx hb d_A_take_0 rfl (lv_at hl 0 rfl) ?_
  refine gf_A_9_18 hF hG ho d_A_take_1 ?_
  refine lv_iload_n hx hb d_A_take_4 rfl (lv_at hl 1 rfl) ?_
  refine z_zald (n := 3) (j := x0.toNatClampNeg) (v := (S.1 19 o x0.toNatClampNeg)) hF hG ho (z_c19 C ad _ _ _) rfl hin rfl d_A_take_5 ?_
  refine lv_if_eq (tgt := 11) hx hb d_A_take_6 rfl (fun h6 => ?_) (fun h6 => ?_)
  ·
    refine lv_aload_n hx hb d_A_take_11 rfl (lv_at hl 0 rfl) ?_
    refine gf_A_9_18 hF hG ho d_A_take_12 ?_
    refine lv_iload_n hx hb d_A_take_15 rfl (lv_at hl 1 rfl) ?_
    refine lv_iconst (v := 1) hx hb d_A_take_16 z_k1 ?_
    refine z_zast (n := 3) (j := x0.toNatClampNeg) hF hG ho (fun f g => z_c19 C ad f g _) rfl hin rfl d_A_take_17 (fun H locs hG => ?_)
    refine lv_aload_n hx hb d_A_take_18 rfl (lv_at hl 0 rfl) ?_
    refine gf_A_15_18 hF hG ho d_A_take_19 ?_
    refine lv_iload_n hx hb d_A_take_22 rfl (lv_at hl 1 rfl) ?_
    refine lv_lload_n hx hb d_A_take_23 rfl (lv_at hl 2 rfl) ?_
    refine z_last (n := 3) (j := x0.toNatClampNeg) hF hG ho (fun f g => z_c20 C ad f g _) rfl hin d_A_take_24 (fun H locs hG => ?_)
    refine lv_aload_n hx hb d_A_take_25 rfl (lv_at hl 0 rfl) ?_
    refine lv_dup hx hb d_A_take_26 rfl ?_
    refine gf_A_19_18 hF hG ho (v := (S.1 18 o 2)) rfl d_A_take_27 ?_
    refine lv_iconst (v := 1) hx hb d_A_take_30 z_k1 ?_
    refine lv_iadd hx hb d_A_take_31 ?_
    refine pf_A_19_18 hF hG ho d_A_take_32 (fun H locs hG => ?_)
    refine lv_iconst (v := 1) hx hb d_A_take_35 z_k1 ?_
    exact z_zret hF hr hlk rfl hG (Eq.symm ((if_pos h6).trans rfl)) (Eq.symm ((if_pos h6).trans rfl)) d_A_take_36
  ·
    refine lv_iconst (v := 0) hx hb d_A_take_9 z_k0 ?_
    exact z_zret hF hr hlk rfl hG (Eq.symm ((if_neg h6).trans rfl)) (Eq.symm ((if_neg h6).trans rfl)) d_A_take_10
def f_A_isComplete_18 (S : z_S) (o : Nat) : Int32 := (if (S.1 18 o 2) = 3 then 1 else 0)
set_option maxHeartbeats 4000000 in
set_option maxRecDepth 100000 in
theorem c_A_isComplete_18 (l : Launch) (D : va_G) (C : Nat → ClassId) (ad : Nat → Nat → Nat) (hJ : z_J ad) (S : z_S) (o : Nat) (ho : o < z_n 18)  : z_M l y_A_isComplete b_A_isComplete 1 (some .boolean) rm_A_isComplete D C ad [.ref (ad 18 o)] S (z_Qi D C ad (f_A_isComplete_18 S o) S) := by
  refine z_enter (by decide) (Nat.le_of_ble_eq_true rfl) hJ ?_
  intro p e s m below meth c ls hF hr hlk hl hG
  obtain ⟨hx, hb, hml, hown, hts⟩ := hF.1
  have hl : lv_has ls 1 [(0, .ref (ad 18 o))] := hl
  refine lv_aload_n hx hb d_A_isComplete_0 rfl (lv_at hl 0 rfl) ?_
  refine gf_A_19_18 hF hG ho (v := (S.1 18 o 2)) rfl d_A_isComplete_1 ?_
  refine lv_iconst (v := 3) hx hb d_A_isComplete_4 z_k3 ?_
  refine lv_icmp_ne (tgt := 12) hx hb d_A_isComplete_5 rfl (fun h5 => ?_) (fun h5 => ?_)
  ·
    refine lv_iconst (v := 0) hx hb d_A_isComplete_12 z_k0 ?_
    exact z_zret hF hr hlk rfl hG (Eq.symm ((if_neg h5).trans rfl)) rfl d_A_isComplete_13
  ·
    refine lv_iconst (v := 1) hx hb d_A_isComplete_8 z_k1 ?_
    refine lv_goto (tgt := 13) hx hb d_A_isComplete_9 rfl ?_
    exact z_zret hF hr hlk rfl hG (Eq.symm ((if_pos h5).trans rfl)) rfl d_A_isComplete_13
def f_A_areAlike_18 (S : z_S) (o : Nat) : Int32 := (if (lg_cmp (S.2 20 o 0) (S.2 20 o 1)) = 0 then (if (lg_cmp (S.2 20 o 1) (S.2 20 o 2)) = 0 then 1 else 0) else 0)
set_option maxHeartbeats 4000000 in
set_option maxRecDepth 100000 in
theorem c_A_areAlike_18 (l : Launch) (D : va_G) (C : Nat → ClassId) (ad : Nat → Nat → Nat) (hJ : z_J ad) (S : z_S) (o : Nat) (ho : o < z_n 18)  : z_M l y_A_areAlike b_A_areAlike 1 (some .boolean) rm_A_areAlike D C ad [.ref (ad 18 o)] S (z_Qi D C ad (f_A_areAlike_18 S o) S) := by
  refine z_enter (by decide) (Nat.le_of_ble_eq_true rfl) hJ ?_
  intro p e s m below meth c ls hF hr hlk hl hG
  obtain ⟨hx, hb, hml, hown, hts⟩ := hF.1
  have hl : lv_has ls 1 [(0, .ref (ad 18 o))] := hl
  refine lv_aload_n hx hb d_A_areAlike_0 rfl (lv_at hl 0 rfl) ?_
  refine gf_A_15_18 hF hG ho d_A_areAlike_1 ?_
  refine lv_iconst (v := 0) hx hb d_A_areAlike_4 z_k0 ?_
  refine z_lald (n := 3) (j := 0) (v := (S.2 20 o 0)) hF hG ho (z_c20 C ad _ _ _) z_q0 z_in0_3 rfl d_A_areAlike_5 ?_
  refine lv_aload_n hx hb d_A_areAlike_6 rfl (lv_at hl 0 rfl) ?_
  refine gf_A_15_18 hF hG ho d_A_areAlike_7 ?_
  refine lv_iconst (v := 1) hx hb d_A_areAlike_10 z_k1 ?_
  refine z_lald (n := 3) (j := 1) (v := (S.2 20 o 1)) hF hG ho (z_c20 C ad _ _ _) z_q1 z_in1_3 rfl d_A_areAlike_11 ?_
  refine W.lcmp hx hb d_A_areAlike_12 ?_
  refine lv_if_ne (tgt := 36) hx hb d_A_areAlike_13 rfl (fun h13 => ?_) (fun h13 => ?_)
  ·
    refine lv_iconst (v := 0) hx hb d_A_areAlike_36 z_k0 ?_
    exact z_zret hF hr hlk rfl hG (Eq.symm ((if_neg h13).trans rfl)) rfl d_A_areAlike_37
  ·
    refine lv_aload_n hx hb d_A_areAlike_16 rfl (lv_at hl 0 rfl) ?_
    refine gf_A_15_18 hF hG ho d_A_areAlike_17 ?_
    refine lv_iconst (v := 1) hx hb d_A_areAlike_20 z_k1 ?_
    refine z_lald (n := 3) (j := 1) (v := (S.2 20 o 1)) hF hG ho (z_c20 C ad _ _ _) z_q1 z_in1_3 rfl d_A_areAlike_21 ?_
    refine lv_aload_n hx hb d_A_areAlike_22 rfl (lv_at hl 0 rfl) ?_
    refine gf_A_15_18 hF hG ho d_A_areAlike_23 ?_
    refine lv_iconst (v := 2) hx hb d_A_areAlike_26 z_k2 ?_
    refine z_lald (n := 3) (j := 2) (v := (S.2 20 o 2)) hF hG ho (z_c20 C ad _ _ _) z_q2 z_in2_3 rfl d_A_areAlike_27 ?_
    refine W.lcmp hx hb d_A_areAlike_28 ?_
    refine lv_if_ne (tgt := 36) hx hb d_A_areAlike_29 rfl (fun h29 => ?_) (fun h29 => ?_)
    ·
      refine lv_iconst (v := 0) hx hb d_A_areAlike_36 z_k0 ?_
      exact z_zret hF hr hlk rfl hG (Eq.symm ((if_pos h13).trans ((if_neg h29).trans rfl))) rfl d_A_areAlike_37
    ·
      refine lv_iconst (v := 1) hx hb d_A_areAlike_32 z_k1 ?_
      refine lv_goto (tgt := 37) hx hb d_A_areAlike_33 rfl ?_
      exact z_zret hF hr hlk rfl hG (Eq.symm ((if_pos h13).trans ((if_pos h29).trans rfl))) rfl d_A_areAlike_37
def f_R_has (S : z_S) (x0 : Int32) : Int32 := (if x0 < 0 then 0 else (if (S.1 3 0 4) ≤ x0 then 0 else 1))
set_option maxHeartbeats 4000000 in
set_option maxRecDepth 100000 in
theorem c_R_has (l : Launch) (D : va_G) (C : Nat → ClassId) (ad : Nat → Nat → Nat) (hJ : z_J ad) (S : z_S) (x0 : Int32)  : z_M l y_R_has b_R_has 2 (some .boolean) rm_R_has D C ad [.ref (ad 3 0), .int x0] S (z_Qi D C ad (f_R_has S x0) S) := by
  refine z_enter (by decide) (Nat.le_of_ble_eq_true rfl) hJ ?_
  intro p e s m below meth c ls hF hr hlk hl hG
  obtain ⟨hx, hb, hml, hown, hts⟩ := hF.1
  have hl : lv_has ls 2 [(0, .ref (ad 3 0)), (1, .int x0)] := hl
  refine lv_iload_n hx hb d_R_has_0 rfl (lv_at hl 1 rfl) ?_
  refine lv_if_lt (tgt := 16) hx hb d_R_has_1 rfl (fun h1 => ?_) (fun h1 => ?_)
  ·
    refine lv_iconst (v := 0) hx hb d_R_has_16 z_k0 ?_
    exact z_zret hF hr hlk rfl hG (Eq.symm ((if_pos h1).trans rfl)) rfl d_R_has_17
  ·
    refine lv_iload_n hx hb d_R_has_4 rfl (lv_at hl 1 rfl) ?_
    refine lv_aload_n hx hb d_R_has_5 rfl (lv_at hl 0 rfl) ?_
    refine gf_R_25_3 hF hG (v := (S.1 3 0 4)) rfl d_R_has_6 ?_
    refine lv_icmp_ge (tgt := 16) hx hb d_R_has_9 rfl (fun h9 => ?_) (fun h9 => ?_)
    ·
      refine lv_iconst (v := 0) hx hb d_R_has_16 z_k0 ?_
      exact z_zret hF hr hlk rfl hG (Eq.symm ((if_neg h1).trans ((if_pos h9).trans rfl))) rfl d_R_has_17
    ·
      refine lv_iconst (v := 1) hx hb d_R_has_12 z_k1 ?_
      refine lv_goto (tgt := 17) hx hb d_R_has_13 rfl ?_
      exact z_zret hF hr hlk rfl hG (Eq.symm ((if_neg h1).trans ((if_neg h9).trans rfl))) rfl d_R_has_17
def g_R_add (S : z_S) (x0 : Int32) (x1 : Int32) (x2 : Int32) (x3 : Int64) : z_S := (if (S.1 3 0 4) < 24 then (z_sI (z_sL (z_sI (z_sI (z_sI S 4 0 ((S.1 3 0 4).toNatClampNeg) x0) 5 0 ((S.1 3 0 4).toNatClampNeg) x1) 6 0 ((S.1 3 0 4).toNatClampNeg) x2) 7 0 ((S.1 3 0 4).toNatClampNeg) x3) 3 0 4 ((S.1 3 0 4) + 1)) else S)
set_option maxHeartbeats 4000000 in
set_option maxRecDepth 100000 in
theorem c_R_add (l : Launch) (D : va_G) (C : Nat → ClassId) (ad : Nat → Nat → Nat) (hJ : z_J ad) (S : z_S) (x0 : Int32) (x1 : Int32) (x2 : Int32) (x3 : Int64) (h0 : 0 ≤ S.1 3 0 4) : z_M l y_R_add b_R_add 6 none rm_R_add D C ad [.ref (ad 3 0), .int x0, .int x1, .int x2, .long x3] S (z_Qv D C ad (g_R_add S x0 x1 x2 x3)) := by
  refine z_enter (by decide) (Nat.le_of_ble_eq_true rfl) hJ ?_
  intro p e s m below meth c ls hF hr hlk hl hG
  obtain ⟨hx, hb, hml, hown, hts⟩ := hF.1
  have hl : lv_has ls 6 [(0, .ref (ad 3 0)), (1, .int x0), (2, .int x1), (3, .int x2), (4, .long x3)] := hl
  refine lv_aload_n hx hb d_R_add_0 rfl (lv_at hl 0 rfl) ?_
  refine gf_R_25_3 hF hG (v := (S.1 3 0 4)) rfl d_R_add_1 ?_
  refine lv_bipush (v := 24) hx hb d_R_add_4 z_bi24 ?_
  refine lv_icmp_lt (tgt := 10) hx hb d_R_add_6 rfl (fun h6 => ?_) (fun h6 => ?_)
  ·
    refine lv_aload_n hx hb d_R_add_10 rfl (lv_at hl 0 rfl) ?_
    refine gf_R_9_3 hF hG d_R_add_11 ?_
    refine lv_aload_n hx hb d_R_add_14 rfl (lv_at hl 0 rfl) ?_
    refine gf_R_25_3 hF hG (v := (S.1 3 0 4)) rfl d_R_add_15 ?_
    refine lv_iload_n hx hb d_R_add_18 rfl (lv_at hl 1 rfl) ?_
    refine z_iast (n := 24) (j := (S.1 3 0 4).toNatClampNeg) hF hG z_o4 (fun f g => z_c4 C ad f g _) rfl (z_inb (n := 24) h0 h6) d_R_add_19 (fun H locs hG => ?_)
    refine lv_aload_n hx hb d_R_add_20 rfl (lv_at hl 0 rfl) ?_
    refine gf_R_15_3 hF hG d_R_add_21 ?_
    refine lv_aload_n hx hb d_R_add_24 rfl (lv_at hl 0 rfl) ?_
    refine gf_R_25_3 hF hG (v := (S.1 3 0 4)) rfl d_R_add_25 ?_
    refine lv_iload_n hx hb d_R_add_28 rfl (lv_at hl 2 rfl) ?_
    refine z_iast (n := 24) (j := (S.1 3 0 4).toNatClampNeg) hF hG z_o5 (fun f g => z_c5 C ad f g _) rfl (z_inb (n := 24) h0 h6) d_R_add_29 (fun H locs hG => ?_)
    refine lv_aload_n hx hb d_R_add_30 rfl (lv_at hl 0 rfl) ?_
    refine gf_R_18_3 hF hG d_R_add_31 ?_
    refine lv_aload_n hx hb d_R_add_34 rfl (lv_at hl 0 rfl) ?_
    refine gf_R_25_3 hF hG (v := (S.1 3 0 4)) rfl d_R_add_35 ?_
    refine lv_iload_n hx hb d_R_add_38 rfl (lv_at hl 3 rfl) ?_
    refine z_iast (n := 24) (j := (S.1 3 0 4).toNatClampNeg) hF hG z_o6 (fun f g => z_c6 C ad f g _) rfl (z_inb (n := 24) h0 h6) d_R_add_39 (fun H locs hG => ?_)
    refine lv_aload_n hx hb d_R_add_40 rfl (lv_at hl 0 rfl) ?_
    refine gf_R_21_3 hF hG d_R_add_41 ?_
    refine lv_aload_n hx hb d_R_add_44 rfl (lv_at hl 0 rfl) ?_
    refine gf_R_25_3 hF hG (v := (S.1 3 0 4)) rfl d_R_add_45 ?_
    refine lv_lload hx hb d_R_add_48 (lv_at hl 4 rfl) ?_
    refine z_last (n := 24) (j := (S.1 3 0 4).toNatClampNeg) hF hG z_o7 (fun f g => z_c7 C ad f g _) rfl (z_inb (n := 24) h0 h6) d_R_add_50 (fun H locs hG => ?_)
    refine lv_aload_n hx hb d_R_add_51 rfl (lv_at hl 0 rfl) ?_
    refine lv_dup hx hb d_R_add_52 rfl ?_
    refine gf_R_25_3 hF hG (v := (S.1 3 0 4)) rfl d_R_add_53 ?_
    refine lv_iconst (v := 1) hx hb d_R_add_56 z_k1 ?_
    refine lv_iadd hx hb d_R_add_57 ?_
    refine pf_R_25_3 hF hG d_R_add_58 (fun H locs hG => ?_)
    exact z_vret hF hr hlk hG (Eq.symm ((if_pos h6).trans rfl)) d_R_add_61
  ·
    exact z_vret hF hr hlk hG (Eq.symm ((if_neg h6).trans rfl)) d_R_add_9
def rg_R_remove_12i_S1 (S : z_S) (k : Nat) : z_S := (z_sL (z_sI (z_sI (z_sI S 4 0 k (S.1 4 0 (k + 1))) 5 0 k (S.1 5 0 (k + 1))) 6 0 k (S.1 6 0 (k + 1))) 7 0 k (S.2 7 0 (k + 1)))
set_option maxHeartbeats 4000000 in
set_option maxRecDepth 100000 in
theorem rg_R_remove_12i {D : va_G} {C : Nat → ClassId} {ad : Nat → Nat → Nat} {S : z_S} {p : Program} {l : Launch} {e : Env} {s : State} {m : MethodId} {args : Array Value} {below : List Frame} {meth : Method} {c : Code} {H H0 : Heap} {locs : List Loc} {Q : State → Prop} {ls : Array Slot} {v1 : Int32} {k : Nat} {N : Nat} (hF : z_F D C ad p m c b_R_remove 3 s args R_R)  (hN : N < 24) (inv : S.1 3 0 4 = nI N) (hk : k < N) (hG : z_G D C ad H0 S H locs) (hl : lv_has ls 3 [(0, .ref (ad 3 0)), (1, .int v1), (2, .int (nI k))]) (kk : ∀ (H : Heap) (locs : List Loc) (ls : Array Slot) (S1 : z_S), z_G D C ad H0 S1 H locs → lv_has ls 3 [(0, .ref (ad 3 0)), (1, .int v1), (2, .int (nI (k + 1)))] → S1 = rg_R_remove_12i_S1 S k → W p l e rm_R_remove s m args below meth c H locs 0 0 Q (F0 m 12 ls [])) : W p l e rm_R_remove s m args below meth c H locs 0 0 Q (F0 m 12 ls []) := by
  obtain ⟨hx, hb, hml, hown, hts⟩ := hF.1
  refine lv_iload_n hx hb d_R_remove_12 rfl (lv_at hl 2 rfl) ?_
  refine lv_aload_n hx hb d_R_remove_13 rfl (lv_at hl 0 rfl) ?_
  refine gf_R_25_3 hF hG (v := (S.1 3 0 4)) rfl d_R_remove_14 ?_
  refine lv_icmp_ge (tgt := 82) hx hb d_R_remove_17 rfl (fun h => absurd h (by rw [inv]; exact nI_ge hk (by omega))) (fun _ => ?_)
  refine lv_aload_n hx hb d_R_remove_20 rfl (lv_at hl 0 rfl) ?_
  refine gf_R_9_3 hF hG d_R_remove_21 ?_
  refine lv_iload_n hx hb d_R_remove_24 rfl (lv_at hl 2 rfl) ?_
  refine lv_aload_n hx hb d_R_remove_25 rfl (lv_at hl 0 rfl) ?_
  refine gf_R_9_3 hF hG d_R_remove_26 ?_
  refine lv_iload_n hx hb d_R_remove_29 rfl (lv_at hl 2 rfl) ?_
  refine lv_iconst (v := 1) hx hb d_R_remove_30 z_k1 ?_
  refine lv_iadd hx hb d_R_remove_31 ?_
  refine z_topi (y := (nI (k + 1))) (nI_succ k).symm ?_
  refine z_iald (n := 24) (j := (k + 1)) (v := (S.1 4 0 (k + 1))) hF hG z_o4 (z_c4 C ad _ _ _) (nI_clamp (by omega)) (vp_in_nI (by omega) (by decide)) rfl d_R_remove_32 ?_
  refine z_iast (n := 24) (j := k) hF hG z_o4 (fun f g => z_c4 C ad f g _) (nI_clamp (by omega)) (vp_in_nI (by omega) (by decide)) d_R_remove_33 (fun H locs hG => ?_)
  refine lv_aload_n hx hb d_R_remove_34 rfl (lv_at hl 0 rfl) ?_
  refine gf_R_15_3 hF hG d_R_remove_35 ?_
  refine lv_iload_n hx hb d_R_remove_38 rfl (lv_at hl 2 rfl) ?_
  refine lv_aload_n hx hb d_R_remove_39 rfl (lv_at hl 0 rfl) ?_
  refine gf_R_15_3 hF hG d_R_remove_40 ?_
  refine lv_iload_n hx hb d_R_remove_43 rfl (lv_at hl 2 rfl) ?_
  refine lv_iconst (v := 1) hx hb d_R_remove_44 z_k1 ?_
  refine lv_iadd hx hb d_R_remove_45 ?_
  refine z_topi (y := (nI (k + 1))) (nI_succ k).symm ?_
  refine z_iald (n := 24) (j := (k + 1)) (v := (S.1 5 0 (k + 1))) hF hG z_o5 (z_c5 C ad _ _ _) (nI_clamp (by omega)) (vp_in_nI (by omega) (by decide)) rfl d_R_remove_46 ?_
  refine z_iast (n := 24) (j := k) hF hG z_o5 (fun f g => z_c5 C ad f g _) (nI_clamp (by omega)) (vp_in_nI (by omega) (by decide)) d_R_remove_47 (fun H locs hG => ?_)
  refine lv_aload_n hx hb d_R_remove_48 rfl (lv_at hl 0 rfl) ?_
  refine gf_R_18_3 hF hG d_R_remove_49 ?_
  refine lv_iload_n hx hb d_R_remove_52 rfl (lv_at hl 2 rfl) ?_
  refine lv_aload_n hx hb d_R_remove_53 rfl (lv_at hl 0 rfl) ?_
  refine gf_R_18_3 hF hG d_R_remove_54 ?_
  refine lv_iload_n hx hb d_R_remove_57 rfl (lv_at hl 2 rfl) ?_
  refine lv_iconst (v := 1) hx hb d_R_remove_58 z_k1 ?_
  refine lv_iadd hx hb d_R_remove_59 ?_
  refine z_topi (y := (nI (k + 1))) (nI_succ k).symm ?_
  refine z_iald (n := 24) (j := (k + 1)) (v := (S.1 6 0 (k + 1))) hF hG z_o6 (z_c6 C ad _ _ _) (nI_clamp (by omega)) (vp_in_nI (by omega) (by decide)) rfl d_R_remove_60 ?_
  refine z_iast (n := 24) (j := k) hF hG z_o6 (fun f g => z_c6 C ad f g _) (nI_clamp (by omega)) (vp_in_nI (by omega) (by decide)) d_R_remove_61 (fun H locs hG => ?_)
  refine lv_aload_n hx hb d_R_remove_62 rfl (lv_at hl 0 rfl) ?_
  refine gf_R_21_3 hF hG d_R_remove_63 ?_
  refine lv_iload_n hx hb d_R_remove_66 rfl (lv_at hl 2 rfl) ?_
  refine lv_aload_n hx hb d_R_remove_67 rfl (lv_at hl 0 rfl) ?_
  refine gf_R_21_3 hF hG d_R_remove_68 ?_
  refine lv_iload_n hx hb d_R_remove_71 rfl (lv_at hl 2 rfl) ?_
  refine lv_iconst (v := 1) hx hb d_R_remove_72 z_k1 ?_
  refine lv_iadd hx hb d_R_remove_73 ?_
  refine z_topi (y := (nI (k + 1))) (nI_succ k).symm ?_
  refine z_lald (n := 24) (j := (k + 1)) (v := (S.2 7 0 (k + 1))) hF hG z_o7 (z_c7 C ad _ _ _) (nI_clamp (by omega)) (vp_in_nI (by omega) (by decide)) rfl d_R_remove_74 ?_
  refine z_last (n := 24) (j := k) hF hG z_o7 (fun f g => z_c7 C ad f g _) (nI_clamp (by omega)) (vp_in_nI (by omega) (by decide)) d_R_remove_75 (fun H locs hG => ?_)
  refine lv_iinc (k := 2) (v := (nI (k + 1))) (lv' := [(2, .int (nI (k + 1))), (0, .ref (ad 3 0)), (1, .int v1)]) hx hb d_R_remove_76 hl rfl (z_incN _) (Nat.le_of_ble_eq_true rfl) rfl (fun ls hl => ?_)
  refine lv_goto (tgt := 12) hx hb d_R_remove_79 rfl ?_
  exact kk _ _ _ _ hG (lv_sub hl [1, 2, 0] rfl) rfl
set_option maxHeartbeats 4000000 in
set_option maxRecDepth 100000 in
theorem rg_R_remove_12e {D : va_G} {C : Nat → ClassId} {ad : Nat → Nat → Nat} {S : z_S} {p : Program} {l : Launch} {e : Env} {s : State} {m : MethodId} {args : Array Value} {below : List Frame} {meth : Method} {c : Code} {H H0 : Heap} {locs : List Loc} {Q : State → Prop} {ls : Array Slot} {v1 : Int32} {k : Nat} {N : Nat} (hF : z_F D C ad p m c b_R_remove 3 s args R_R)  (hN : N < 24) (inv : S.1 3 0 4 = nI N) (hk : k = N) (hG : z_G D C ad H0 S H locs) (hl : lv_has ls 3 [(0, .ref (ad 3 0)), (1, .int v1), (2, .int (nI k))]) (kk : ∀ (H : Heap) (locs : List Loc) (ls : Array Slot) , z_G D C ad H0 S H locs → lv_has ls 3 [(0, .ref (ad 3 0)), (1, .int v1), (2, .int (nI k))] → W p l e rm_R_remove s m args below meth c H locs 0 0 Q (F0 m 82 ls [])) : W p l e rm_R_remove s m args below meth c H locs 0 0 Q (F0 m 12 ls []) := by
  obtain ⟨hx, hb, hml, hown, hts⟩ := hF.1
  refine lv_iload_n hx hb d_R_remove_12 rfl (lv_at hl 2 rfl) ?_
  refine lv_aload_n hx hb d_R_remove_13 rfl (lv_at hl 0 rfl) ?_
  refine gf_R_25_3 hF hG (v := (S.1 3 0 4)) rfl d_R_remove_14 ?_
  refine lv_icmp_ge (tgt := 82) hx hb d_R_remove_17 rfl (fun _ => ?_) (fun h => absurd h (by rw [inv, hk]; exact not_not_intro (nI_le (Nat.le_refl _) (by omega))))
  exact kk _ _ _  hG (lv_sub hl [0, 1, 2] rfl) 
set_option maxHeartbeats 4000000 in
set_option maxRecDepth 100000 in
theorem lp_R_remove_12 {D : va_G} {C : Nat → ClassId} {ad : Nat → Nat → Nat} {p : Program} {l : Launch} {e : Env} {s : State} {m : MethodId} {args : Array Value} {below : List Frame} {meth : Method} {c : Code} {H0 : Heap} {Q : State → Prop} {v1 : Int32} {N : Nat} (hF : z_F D C ad p m c b_R_remove 3 s args R_R)  (hN : N < 24) : ∀ (n k : Nat) (S : z_S) (H : Heap) (locs : List Loc) (ls : Array Slot), k + n = N → S.1 3 0 4 = nI N → z_G D C ad H0 S H locs → lv_has ls 3 [(0, .ref (ad 3 0)), (1, .int v1), (2, .int (nI k))] → (∀ (H : Heap) (locs : List Loc) (ls : Array Slot), z_G D C ad H0 (z_it (fun (k : Nat) (S : z_S) => rg_R_remove_12i_S1 S k) k n S) H locs → lv_has ls 3 [(0, .ref (ad 3 0)), (1, .int v1), (2, .int (nI N))] → W p l e rm_R_remove s m args below meth c H locs 0 0 Q (F0 m 82 ls [])) → W p l e rm_R_remove s m args below meth c H locs 0 0 Q (F0 m 12 ls []) := by
  intro n
  induction n with
  | zero =>
    intro k S H locs ls hk inv hG hl kk
    have hk : k = N := by omega
    refine rg_R_remove_12e hF  hN inv hk hG hl (fun H locs ls hG hl => ?_)
    subst hk
    exact kk H locs ls hG hl
  | succ n ih =>
    intro k S H locs ls hk inv hG hl kk
    refine rg_R_remove_12i hF  hN inv (by omega) hG hl (fun H locs ls S1 hG hl e1 => ?_)
    subst e1
    exact ih (k + 1) (rg_R_remove_12i_S1 S k) H locs ls (by omega) (inv) hG hl kk
def g_R_remove (S : z_S) (k0 : Nat) (N : Nat) : z_S := (z_it (fun (kk9 : Nat) (T9 : z_S) => rg_R_remove_12i_S1 T9 kk9) k0 (N - k0) (z_sI S 3 0 4 ((S.1 3 0 4) - 1)))
set_option maxHeartbeats 4000000 in
set_option maxRecDepth 100000 in
theorem c_R_remove (l : Launch) (D : va_G) (C : Nat → ClassId) (ad : Nat → Nat → Nat) (hJ : z_J ad) (S : z_S) (x0 : Int32) (k0 : Nat) (N : Nat) (hx0 : x0 = nI k0) (hc : S.1 3 0 4 = nI (N + 1)) (hk0 : k0 ≤ N) (hN : N < 24) : z_M l y_R_remove b_R_remove 3 none rm_R_remove D C ad [.ref (ad 3 0), .int x0] S (z_Qv D C ad (g_R_remove S k0 N)) := by
  refine z_enter (by decide) (Nat.le_of_ble_eq_true rfl) hJ ?_
  intro p e s m below meth c ls hF hr hlk hl hG
  obtain ⟨hx, hb, hml, hown, hts⟩ := hF.1
  have hl : lv_has ls 3 [(0, .ref (ad 3 0)), (1, .int x0)] := hl
  refine lv_aload_n hx hb d_R_remove_0 rfl (lv_at hl 0 rfl) ?_
  refine lv_dup hx hb d_R_remove_1 rfl ?_
  refine gf_R_25_3 hF hG (v := (S.1 3 0 4)) rfl d_R_remove_2 ?_
  refine lv_iconst (v := 1) hx hb d_R_remove_5 z_k1 ?_
  refine lv_isub hx hb d_R_remove_6 ?_
  refine pf_R_25_3 hF hG d_R_remove_7 (fun H locs hG => ?_)
  refine lv_iload_n hx hb d_R_remove_10 rfl (lv_at hl 1 rfl) ?_
  refine lv_istore_n (lv' := [(2, .int x0), (0, .ref (ad 3 0)), (1, .int x0)]) hx hb d_R_remove_11 rfl hl (Nat.le_of_ble_eq_true rfl) rfl (fun ls hl => ?_)
  have hl : lv_has ls 3 [(0, .ref (ad 3 0)), (1, .int x0), (2, .int (nI k0))] := by
    have h9 := lv_sub hl [1, 2, 0] rfl
    rw [← hx0]; exact h9
  refine lp_R_remove_12  hF  hN (N - k0) k0 _ _ _ ls (by omega) (show S.1 3 0 4 - 1 = nI N by rw [hc]; exact z_pred N) hG hl (fun H locs ls hG hl => ?_)
  exact z_vret hF hr hlk hG rfl d_R_remove_82
def g_D_finishPart (S : z_S) (x0 : Int32) (x1 : Int32) (x2 : Int32) : z_S := (if x2 = (S.1 10 0 0) then (if (S.1 11 0 (((x0 * 8) + x1).toNatClampNeg)) = (S.1 10 0 0) then S else (z_sI (z_sI S 11 0 (((x0 * 8) + x1).toNatClampNeg) (S.1 10 0 0)) 10 0 1 ((S.1 10 0 1) + 1))) else S)
set_option maxHeartbeats 4000000 in
set_option maxRecDepth 100000 in
theorem c_D_finishPart (l : Launch) (D : va_G) (C : Nat → ClassId) (ad : Nat → Nat → Nat) (hJ : z_J ad) (S : z_S) (x0 : Int32) (x1 : Int32) (x2 : Int32) (hin : vp_in (x0 * 8 + x1) 48) : z_M l y_D_finishPart b_D_finishPart 5 none rm_D_finishPart D C ad [.ref (ad 10 0), .int x0, .int x1, .int x2] S (z_Qv D C ad (g_D_finishPart S x0 x1 x2)) := by
  refine z_enter (by decide) (Nat.le_of_ble_eq_true rfl) hJ ?_
  intro p e s m below meth c ls hF hr hlk hl hG
  obtain ⟨hx, hb, hml, hown, hts⟩ := hF.1
  have hl : lv_has ls 5 [(0, .ref (ad 10 0)), (1, .int x0), (2, .int x1), (3, .int x2)] := hl
  refine lv_iload_n hx hb d_D_finishPart_0 rfl (lv_at hl 1 rfl) ?_
  refine lv_bipush (v := 8) hx hb d_D_finishPart_1 z_bi8 ?_
  refine lv_imul hx hb d_D_finishPart_3 ?_
  refine lv_iload_n hx hb d_D_finishPart_4 rfl (lv_at hl 2 rfl) ?_
  refine lv_iadd hx hb d_D_finishPart_5 ?_
  refine lv_istore (lv' := [(4, .int ((x0 * 8) + x1)), (0, .ref (ad 10 0)), (1, .int x0), (2, .int x1), (3, .int x2)]) hx hb d_D_finishPart_6 hl (Nat.le_of_ble_eq_true rfl) rfl (fun ls hl => ?_)
  refine lv_iload_n hx hb d_D_finishPart_8 rfl (lv_at hl 4 rfl) ?_
  refine lv_aload_n hx hb d_D_finishPart_9 rfl (lv_at hl 1 rfl) ?_
  refine gf_D_9_10 hF hG (v := (S.1 10 0 0)) rfl d_D_finishPart_10 ?_
  refine lv_icmp_ne (tgt := 51) hx hb d_D_finishPart_13 rfl (fun h13 => ?_) (fun h13 => ?_)
  ·
    exact z_vret hF hr hlk hG (Eq.symm ((if_neg h13).trans rfl)) d_D_finishPart_51
  ·
    refine lv_aload_n hx hb d_D_finishPart_16 rfl (lv_at hl 1 rfl) ?_
    refine gf_D_18_10 hF hG d_D_finishPart_17 ?_
    refine lv_iload hx hb d_D_finishPart_20 (lv_at hl 0 rfl) ?_
    refine z_iald (n := 48) (j := ((x0 * 8) + x1).toNatClampNeg) (v := (S.1 11 0 (((x0 * 8) + x1).toNatClampNeg))) hF hG z_o11 (z_c11 C ad _ _ _) rfl hin rfl d_D_finishPart_22 ?_
    refine lv_aload_n hx hb d_D_finishPart_23 rfl (lv_at hl 1 rfl) ?_
    refine gf_D_9_10 hF hG (v := (S.1 10 0 0)) rfl d_D_finishPart_24 ?_
    refine lv_icmp_eq (tgt := 51) hx hb d_D_finishPart_27 rfl (fun h27 => ?_) (fun h27 => ?_)
    ·
      exact z_vret hF hr hlk hG (Eq.symm ((if_pos h13).trans ((if_pos h27).trans rfl))) d_D_finishPart_51
    ·
      refine lv_aload_n hx hb d_D_finishPart_30 rfl (lv_at hl 1 rfl) ?_
      refine gf_D_18_10 hF hG d_D_finishPart_31 ?_
      refine lv_iload hx hb d_D_finishPart_34 (lv_at hl 0 rfl) ?_
      refine lv_aload_n hx hb d_D_finishPart_36 rfl (lv_at hl 1 rfl) ?_
      refine gf_D_9_10 hF hG (v := (S.1 10 0 0)) rfl d_D_finishPart_37 ?_
      refine z_iast (n := 48) (j := ((x0 * 8) + x1).toNatClampNeg) hF hG z_o11 (fun f g => z_c11 C ad f g _) rfl hin d_D_finishPart_40 (fun H locs hG => ?_)
      refine lv_aload_n hx hb d_D_finishPart_41 rfl (lv_at hl 1 rfl) ?_
      refine lv_dup hx hb d_D_finishPart_42 rfl ?_
      refine gf_D_15_10 hF hG (v := (S.1 10 0 1)) rfl d_D_finishPart_43 ?_
      refine lv_iconst (v := 1) hx hb d_D_finishPart_46 z_k1 ?_
      refine lv_iadd hx hb d_D_finishPart_47 ?_
      refine pf_D_15_10 hF hG d_D_finishPart_48 (fun H locs hG => ?_)
      exact z_vret hF hr hlk hG (Eq.symm ((if_pos h13).trans ((if_neg h27).trans rfl))) d_D_finishPart_51
def g_D_endIfAllDone (S : z_S) (x0 : Int32) : z_S := (if (S.1 10 0 1) = x0 then (z_sI (z_sI S 10 0 0 ((S.1 10 0 0) + 1)) 10 0 1 0) else S)
set_option maxHeartbeats 4000000 in
set_option maxRecDepth 100000 in
theorem c_D_endIfAllDone (l : Launch) (D : va_G) (C : Nat → ClassId) (ad : Nat → Nat → Nat) (hJ : z_J ad) (S : z_S) (x0 : Int32)  : z_M l y_D_endIfAllDone b_D_endIfAllDone 2 none rm_D_endIfAllDone D C ad [.ref (ad 10 0), .int x0] S (z_Qv D C ad (g_D_endIfAllDone S x0)) := by
  refine z_enter (by decide) (Nat.le_of_ble_eq_true rfl) hJ ?_
  intro p e s m below meth c ls hF hr hlk hl hG
  obtain ⟨hx, hb, hml, hown, hts⟩ := hF.1
  have hl : lv_has ls 2 [(0, .ref (ad 10 0)), (1, .int x0)] := hl
  refine lv_aload_n hx hb d_D_endIfAllDone_0 rfl (lv_at hl 0 rfl) ?_
  refine gf_D_15_10 hF hG (v := (S.1 10 0 1)) rfl d_D_endIfAllDone_1 ?_
  refine lv_iload_n hx hb d_D_endIfAllDone_4 rfl (lv_at hl 1 rfl) ?_
  refine lv_icmp_ne (tgt := 23) hx hb d_D_endIfAllDone_5 rfl (fun h5 => ?_) (fun h5 => ?_)
  ·
    exact z_vret hF hr hlk hG (Eq.symm ((if_neg h5).trans rfl)) d_D_endIfAllDone_23
  ·
    refine lv_aload_n hx hb d_D_endIfAllDone_8 rfl (lv_at hl 0 rfl) ?_
    refine lv_dup hx hb d_D_endIfAllDone_9 rfl ?_
    refine gf_D_9_10 hF hG (v := (S.1 10 0 0)) rfl d_D_endIfAllDone_10 ?_
    refine lv_iconst (v := 1) hx hb d_D_endIfAllDone_13 z_k1 ?_
    refine lv_iadd hx hb d_D_endIfAllDone_14 ?_
    refine pf_D_9_10 hF hG d_D_endIfAllDone_15 (fun H locs hG => ?_)
    refine lv_aload_n hx hb d_D_endIfAllDone_18 rfl (lv_at hl 0 rfl) ?_
    refine lv_iconst (v := 0) hx hb d_D_endIfAllDone_19 z_k0 ?_
    refine pf_D_15_10 hF hG d_D_endIfAllDone_20 (fun H locs hG => ?_)
    exact z_vret hF hr hlk hG (Eq.symm ((if_pos h5).trans rfl)) d_D_endIfAllDone_23
def g_P_begin (S : z_S) (o : Nat) (x0 : Int32) (x1 : Int32) (x2 : Int32) (x3 : Int64) (x4 : Int32) : z_S := (g_A_forget_18 (g_A_forget_15 (z_sI (z_sL (z_sI (z_sI (z_sI S 14 o 0 x0) 14 o 1 x1) 14 o 2 x2) 14 o 3 x3) 14 o 4 x4) o) o)
set_option maxHeartbeats 4000000 in
set_option maxRecDepth 100000 in
theorem c_P_begin (l : Launch) (D : va_G) (C : Nat → ClassId) (ad : Nat → Nat → Nat) (hJ : z_J ad) (S : z_S) (o : Nat) (ho : o < z_n 14) (x0 : Int32) (x1 : Int32) (x2 : Int32) (x3 : Int64) (x4 : Int32)  : z_M l y_P_begin b_P_begin 7 none rm_P_begin D C ad [.ref (ad 14 o), .int x0, .int x1, .int x2, .long x3, .int x4] S (z_Qv D C ad (g_P_begin S o x0 x1 x2 x3 x4)) := by
  refine z_enter (by decide) (Nat.le_of_ble_eq_true rfl) hJ ?_
  intro p e s m below meth c ls hF hr hlk hl hG
  obtain ⟨hx, hb, hml, hown, hts⟩ := hF.1
  have hl : lv_has ls 7 [(0, .ref (ad 14 o)), (1, .int x0), (2, .int x1), (3, .int x2), (4, .long x3), (6, .int x4)] := hl
  refine lv_aload_n hx hb d_P_begin_0 rfl (lv_at hl 0 rfl) ?_
  refine lv_iload_n hx hb d_P_begin_1 rfl (lv_at hl 1 rfl) ?_
  refine pf_P_9_14 hF hG ho d_P_begin_2 (fun H locs hG => ?_)
  refine lv_aload_n hx hb d_P_begin_5 rfl (lv_at hl 0 rfl) ?_
  refine lv_iload_n hx hb d_P_begin_6 rfl (lv_at hl 2 rfl) ?_
  refine pf_P_15_14 hF hG ho d_P_begin_7 (fun H locs hG => ?_)
  refine lv_aload_n hx hb d_P_begin_10 rfl (lv_at hl 0 rfl) ?_
  refine lv_iload_n hx hb d_P_begin_11 rfl (lv_at hl 3 rfl) ?_
  refine pf_P_18_14 hF hG ho d_P_begin_12 (fun H locs hG => ?_)
  refine lv_aload_n hx hb d_P_begin_15 rfl (lv_at hl 0 rfl) ?_
  refine lv_lload hx hb d_P_begin_16 (lv_at hl 4 rfl) ?_
  refine pf_P_21_14 hF hG ho d_P_begin_18 (fun H locs hG => ?_)
  refine lv_aload_n hx hb d_P_begin_21 rfl (lv_at hl 0 rfl) ?_
  refine lv_iload hx hb d_P_begin_22 (lv_at hl 5 rfl) ?_
  refine pf_P_25_14 hF hG ho d_P_begin_24 (fun H locs hG => ?_)
  refine lv_aload_n hx hb d_P_begin_27 rfl (lv_at hl 0 rfl) ?_
  refine gf_P_31_14 hF hG ho d_P_begin_28 ?_
  refine kc_P_38_15 hF (c_A_forget_15 l D C ad hF.2.2 _ _ ho ) hG ho ⟨Nat.le_of_ble_eq_true rfl, Nat.le_of_ble_eq_true rfl⟩ ⟨Nat.zero_le _, Nat.zero_le _⟩ hl.1 (Nat.le_of_ble_eq_true rfl) d_P_begin_31 (fun H locs hG => ?_)
  refine lv_aload_n hx hb d_P_begin_34 rfl (lv_at hl 0 rfl) ?_
  refine gf_P_35_14 hF hG ho d_P_begin_35 ?_
  refine kc_P_38_18 hF (c_A_forget_18 l D C ad hF.2.2 _ _ ho ) hG ho ⟨Nat.le_of_ble_eq_true rfl, Nat.le_of_ble_eq_true rfl⟩ ⟨Nat.zero_le _, Nat.zero_le _⟩ hl.1 (Nat.le_of_ble_eq_true rfl) d_P_begin_38 (fun H locs hG => ?_)
  exact z_vret hF hr hlk hG rfl d_P_begin_41
def f_P_copiedBlock (S : z_S) (o : Nat) (x0 : Int32) (x1 : Int32) : Int32 := ((((S.2 20 o x0.toNatClampNeg).toUInt64 >>> ((32 * x1).toInt64.toUInt64 &&& Int64.toUInt64 63)).toInt64).toInt32)
set_option maxHeartbeats 4000000 in
set_option maxRecDepth 100000 in
theorem c_P_copiedBlock (l : Launch) (D : va_G) (C : Nat → ClassId) (ad : Nat → Nat → Nat) (hJ : z_J ad) (S : z_S) (o : Nat) (ho : o < z_n 14) (x0 : Int32) (x1 : Int32) (hin : vp_in x0 3) : z_M l y_P_copiedBlock b_P_copiedBlock 3 (some .int) rm_P_copiedBlock D C ad [.ref (ad 14 o), .int x0, .int x1] S (z_Qi D C ad (f_P_copiedBlock S o x0 x1) S) := by
  refine z_enter (by decide) (Nat.le_of_ble_eq_true rfl) hJ ?_
  intro p e s m below meth c ls hF hr hlk hl hG
  obtain ⟨hx, hb, hml, hown, hts⟩ := hF.1
  have hl : lv_has ls 3 [(0, .ref (ad 14 o)), (1, .int x0), (2, .int x1)] := hl
  refine lv_aload_n hx hb d_P_copiedBlock_0 rfl (lv_at hl 0 rfl) ?_
  refine gf_P_35_14 hF hG ho d_P_copiedBlock_1 ?_
  refine gf_P_41_18 hF hG ho d_P_copiedBlock_4 ?_
  refine lv_iload_n hx hb d_P_copiedBlock_7 rfl (lv_at hl 1 rfl) ?_
  refine z_lald (n := 3) (j := x0.toNatClampNeg) (v := (S.2 20 o x0.toNatClampNeg)) hF hG ho (z_c20 C ad _ _ _) rfl hin rfl d_P_copiedBlock_8 ?_
  refine lv_bipush (v := 32) hx hb d_P_copiedBlock_9 z_bi32 ?_
  refine lv_iload_n hx hb d_P_copiedBlock_11 rfl (lv_at hl 2 rfl) ?_
  refine lv_imul hx hb d_P_copiedBlock_12 ?_
  refine lv_lushr hx hb d_P_copiedBlock_13 rfl ?_
  refine lv_l2i hx hb d_P_copiedBlock_14 rfl ?_
  exact z_iret hF hr hlk hG rfl rfl d_P_copiedBlock_15
def f_P_copiesAllDiffer (S : z_S) (o : Nat) (x0 : Int32) : Int32 := (if (f_P_copiedBlock S o 0 x0) = (f_P_copiedBlock S o 1 x0) then 0 else (if (f_P_copiedBlock S o 1 x0) = (f_P_copiedBlock S o 2 x0) then 0 else (if (f_P_copiedBlock S o 0 x0) = (f_P_copiedBlock S o 2 x0) then 0 else 1)))
set_option maxHeartbeats 4000000 in
set_option maxRecDepth 100000 in
theorem c_P_copiesAllDiffer (l : Launch) (D : va_G) (C : Nat → ClassId) (ad : Nat → Nat → Nat) (hJ : z_J ad) (S : z_S) (o : Nat) (ho : o < z_n 14) (x0 : Int32)  : z_M l y_P_copiesAllDiffer b_P_copiesAllDiffer 5 (some .boolean) rm_P_copiesAllDiffer D C ad [.ref (ad 14 o), .int x0] S (z_Qi D C ad (f_P_copiesAllDiffer S o x0) S) := by
  refine z_enter (by decide) (Nat.le_of_ble_eq_true rfl) hJ ?_
  intro p e s m below meth c ls hF hr hlk hl hG
  obtain ⟨hx, hb, hml, hown, hts⟩ := hF.1
  have hl : lv_has ls 5 [(0, .ref (ad 14 o)), (1, .int x0)] := hl
  refine lv_aload_n hx hb d_P_copiesAllDiffer_0 rfl (lv_at hl 0 rfl) ?_
  refine lv_iconst (v := 0) hx hb d_P_copiesAllDiffer_1 z_k0 ?_
  refine lv_iload_n hx hb d_P_copiesAllDiffer_2 rfl (lv_at hl 1 rfl) ?_
  refine kc_P_45 hF (c_P_copiedBlock l D C ad hF.2.2 _ _ ho _ _ z_in0_3) hG ho ⟨Nat.le_of_ble_eq_true rfl, Nat.le_of_ble_eq_true rfl⟩ ⟨Nat.zero_le _, Nat.zero_le _⟩ hl.1 (Nat.le_of_ble_eq_true rfl) d_P_copiesAllDiffer_3 (fun H locs hG => ?_)
  refine lv_istore_n (lv' := [(2, .int (f_P_copiedBlock S o 0 x0)), (0, .ref (ad 14 o)), (1, .int x0)]) hx hb d_P_copiesAllDiffer_6 rfl hl (Nat.le_of_ble_eq_true rfl) rfl (fun ls hl => ?_)
  refine lv_aload_n hx hb d_P_copiesAllDiffer_7 rfl (lv_at hl 1 rfl) ?_
  refine lv_iconst (v := 1) hx hb d_P_copiesAllDiffer_8 z_k1 ?_
  refine lv_iload_n hx hb d_P_copiesAllDiffer_9 rfl (lv_at hl 2 rfl) ?_
  refine kc_P_45 hF (c_P_copiedBlock l D C ad hF.2.2 _ _ ho _ _ z_in1_3) hG ho ⟨Nat.le_of_ble_eq_true rfl, Nat.le_of_ble_eq_true rfl⟩ ⟨Nat.zero_le _, Nat.zero_le _⟩ hl.1 (Nat.le_of_ble_eq_true rfl) d_P_copiesAllDiffer_10 (fun H locs hG => ?_)
  refine lv_istore_n (lv' := [(3, .int (f_P_copiedBlock S o 1 x0)), (2, .int (f_P_copiedBlock S o 0 x0)), (0, .ref (ad 14 o)), (1, .int x0)]) hx hb d_P_copiesAllDiffer_13 rfl hl (Nat.le_of_ble_eq_true rfl) rfl (fun ls hl => ?_)
  refine lv_aload_n hx hb d_P_copiesAllDiffer_14 rfl (lv_at hl 2 rfl) ?_
  refine lv_iconst (v := 2) hx hb d_P_copiesAllDiffer_15 z_k2 ?_
  refine lv_iload_n hx hb d_P_copiesAllDiffer_16 rfl (lv_at hl 3 rfl) ?_
  refine kc_P_45 hF (c_P_copiedBlock l D C ad hF.2.2 _ _ ho _ _ z_in2_3) hG ho ⟨Nat.le_of_ble_eq_true rfl, Nat.le_of_ble_eq_true rfl⟩ ⟨Nat.zero_le _, Nat.zero_le _⟩ hl.1 (Nat.le_of_ble_eq_true rfl) d_P_copiesAllDiffer_17 (fun H locs hG => ?_)
  refine lv_istore (lv' := [(4, .int (f_P_copiedBlock S o 2 x0)), (3, .int (f_P_copiedBlock S o 1 x0)), (2, .int (f_P_copiedBlock S o 0 x0)), (0, .ref (ad 14 o)), (1, .int x0)]) hx hb d_P_copiesAllDiffer_20 hl (Nat.le_of_ble_eq_true rfl) rfl (fun ls hl => ?_)
  refine lv_iload_n hx hb d_P_copiesAllDiffer_22 rfl (lv_at hl 2 rfl) ?_
  refine lv_iload_n hx hb d_P_copiesAllDiffer_23 rfl (lv_at hl 1 rfl) ?_
  refine lv_icmp_eq (tgt := 43) hx hb d_P_copiesAllDiffer_24 rfl (fun h24 => ?_) (fun h24 => ?_)
  ·
    refine lv_iconst (v := 0) hx hb d_P_copiesAllDiffer_43 z_k0 ?_
    exact z_zret hF hr hlk rfl hG (Eq.symm ((if_pos h24).trans rfl)) rfl d_P_copiesAllDiffer_44
  ·
    refine lv_iload_n hx hb d_P_copiesAllDiffer_27 rfl (lv_at hl 1 rfl) ?_
    refine lv_iload hx hb d_P_copiesAllDiffer_28 (lv_at hl 0 rfl) ?_
    refine lv_icmp_eq (tgt := 43) hx hb d_P_copiesAllDiffer_30 rfl (fun h30 => ?_) (fun h30 => ?_)
    ·
      refine lv_iconst (v := 0) hx hb d_P_copiesAllDiffer_43 z_k0 ?_
      exact z_zret hF hr hlk rfl hG (Eq.symm ((if_neg h24).trans ((if_pos h30).trans rfl))) rfl d_P_copiesAllDiffer_44
    ·
      refine lv_iload_n hx hb d_P_copiesAllDiffer_33 rfl (lv_at hl 2 rfl) ?_
      refine lv_iload hx hb d_P_copiesAllDiffer_34 (lv_at hl 0 rfl) ?_
      refine lv_icmp_eq (tgt := 43) hx hb d_P_copiesAllDiffer_36 rfl (fun h36 => ?_) (fun h36 => ?_)
      ·
        refine lv_iconst (v := 0) hx hb d_P_copiesAllDiffer_43 z_k0 ?_
        exact z_zret hF hr hlk rfl hG (Eq.symm ((if_neg h24).trans ((if_neg h30).trans ((if_pos h36).trans rfl)))) rfl d_P_copiesAllDiffer_44
      ·
        refine lv_iconst (v := 1) hx hb d_P_copiesAllDiffer_39 z_k1 ?_
        refine lv_goto (tgt := 44) hx hb d_P_copiesAllDiffer_40 rfl ?_
        exact z_zret hF hr hlk rfl hG (Eq.symm ((if_neg h24).trans ((if_neg h30).trans ((if_neg h36).trans rfl)))) rfl d_P_copiesAllDiffer_44
end
section
abbrev rm_X_isHouse : Room := { frames := 0, cells := 0, slots := 0, locals := 0 }
abbrev rm_X_isDeposit : Room := { frames := 0, cells := 0, slots := 0, locals := 0 }
abbrev rm_X_isPart : Room := { frames := 0, cells := 0, slots := 0, locals := 0 }
abbrev rm_X_isByte : Room := { frames := 1, cells := 0, slots := 0, locals := 20 }
abbrev rm_X_isPoll : Room := { frames := 0, cells := 0, slots := 0, locals := 0 }
abbrev rm_X_allHousesOpen : Room := { frames := 0, cells := 0, slots := 0, locals := 0 }
abbrev rm_X_freePlace : Room := { frames := 0, cells := 0, slots := 0, locals := 0 }
abbrev rm_X_runningPoll : Room := { frames := 1, cells := 0, slots := 0, locals := 21 }
abbrev rm_X_parts : Room := { frames := 1, cells := 0, slots := 0, locals := 21 }
theorem z_bi6 : (Int8.ofInt (6)).toInt32 = 6 := by decide
theorem dp_X_isDeposit : y_X_isDeposit.cls ≠ "java/lang/invoke/MethodHandle" ∧ y_X_isDeposit.cls ≠ "java/lang/invoke/VarHandle" ∧ (parseMethodDescriptor y_X_isDeposit.desc).map (fun d => d.parameters.length) = some 1 := by decide +kernel
theorem z_o0 : 0 < z_n 0 := by decide
theorem z_o2 : 0 < z_n 2 := by decide
theorem z_o1 : 0 < z_n 1 := by decide
theorem z_o12_0 : 0 < z_n 12 := by decide
theorem z_o12_1 : 1 < z_n 12 := by decide
theorem z_o12_2 : 2 < z_n 12 := by decide
theorem z_in0_6 : vp_in (0 : Int32) 6 := by unfold vp_in; decide
theorem z_o8 : 0 < z_n 8 := by decide
theorem z_o14_0 : 0 < z_n 14 := by decide
theorem z_in1_6 : vp_in (1 : Int32) 6 := by unfold vp_in; decide
theorem z_o14_1 : 1 < z_n 14 := by decide
theorem z_in2_6 : vp_in (2 : Int32) 6 := by unfold vp_in; decide
theorem z_o14_2 : 2 < z_n 14 := by decide
theorem z_q3 : (3 : Int32).toNatClampNeg = 3 := by decide
theorem z_in3_6 : vp_in (3 : Int32) 6 := by unfold vp_in; decide
theorem z_o14_3 : 3 < z_n 14 := by decide
theorem z_q4 : (4 : Int32).toNatClampNeg = 4 := by decide
theorem z_in4_6 : vp_in (4 : Int32) 6 := by unfold vp_in; decide
theorem z_o14_4 : 4 < z_n 14 := by decide
theorem z_q5 : (5 : Int32).toNatClampNeg = 5 := by decide
theorem z_in5_6 : vp_in (5 : Int32) 6 := by unfold vp_in; decide
theorem z_o14_5 : 5 < z_n 14 := by decide
theorem dp_X_isPoll : y_X_isPoll.cls ≠ "java/lang/invoke/MethodHandle" ∧ y_X_isPoll.cls ≠ "java/lang/invoke/VarHandle" ∧ (parseMethodDescriptor y_X_isPoll.desc).map (fun d => d.parameters.length) = some 1 := by decide +kernel
section ZI_xlow
variable {D : va_G} {C : Nat → ClassId} {ad : Nat → Nat → Nat} {S : z_S}
variable {p : Program} {l : Launch} {e : Env} {R : Room} {s : State} {m : MethodId} {args : Array Value} {below : List Frame} {meth : Method} {c : Code} {H H0 : Heap} {locs : List Loc} {cells slots : Nat} {Q : State → Prop}
variable {cc : ByteArray} {nL pc : Nat} {ls : Array Slot} {rest : List Value}
theorem kc_X_51 {x0 : Int32} {r : Int32} {S2 : z_S} (hF : z_F D C ad p m c cc nL s args R_X) (hM : z_M l y_X_isDeposit b_X_isDeposit 1 (some .boolean) rm_X_isDeposit D C ad [.int x0] S (z_Qi D C ad r S2)) (hG : z_G D C ad H0 S H locs) (hR : rm_X_isDeposit.frames + 1 ≤ R.frames ∧ 8 + (1 + 11) + rm_X_isDeposit.locals ≤ R.locals) (hcs : cells ≤ R.cells ∧ slots ≤ R.slots) (hsz : ls.size = nL) (hcat : (rest.map fun v => v.category).sum ≤ 8) (hdg : decode cc pc = .ok (.invokestatic 51, 3)) (kk : ∀ (H1 : Heap) (locs1 : List Loc), z_G D C ad H0 S2 H1 locs1 → W p l e R s m args below meth c H1 locs1 cells slots Q (F0 m (pc + 3) ls (.int r :: rest))) : W p l e R s m args below meth c H locs cells slots Q (F0 m pc ls (.int x0 :: rest)) :=
  z_ci (z_runS (As := [.int x0]) hF hM hG wm_X_51 wi_X_isDeposit wn_X wc_X_isDeposit dp_X_isDeposit rfl rfl hR hcs hsz hcat rfl hdg) hG kk
theorem gf_X_15_0 (hF : z_F D C ad p m c cc nL s args R_X) (hG : z_G D C ad H0 S H locs) (hdg : decode cc pc = .ok (.getfield 15, 3)) (kk : W p l e R s m args below meth c H locs cells slots Q (F0 m (pc + 3) ls (.ref (ad 2 0) :: rest))) : W p l e R s m args below meth c H locs cells slots Q (F0 m pc ls (.ref (ad 0 0) :: rest)) :=
  z_get hF hG z_o0 (z_c0 C ad _ _ 0) rfl wl_X 1 (by decide) wf_X_15 rfl rfl hdg kk
theorem gf_X_42_0 (hF : z_F D C ad p m c cc nL s args R_X) (hG : z_G D C ad H0 S H locs) {v : Int32} (hv : S.1 0 0 6 = v) (hdg : decode cc pc = .ok (.getfield 42, 3)) (kk : W p l e R s m args below meth c H locs cells slots Q (F0 m (pc + 3) ls (.int v :: rest))) : W p l e R s m args below meth c H locs cells slots Q (F0 m pc ls (.ref (ad 0 0) :: rest)) :=
  z_get hF hG z_o0 (z_c0 C ad _ _ 0) rfl wl_X 6 (by decide) wf_X_42 rfl (by subst hv; rfl) hdg kk
theorem gf_X_11_0 (hF : z_F D C ad p m c cc nL s args R_X) (hG : z_G D C ad H0 S H locs) (hdg : decode cc pc = .ok (.getfield 11, 3)) (kk : W p l e R s m args below meth c H locs cells slots Q (F0 m (pc + 3) ls (.ref (ad 1 0) :: rest))) : W p l e R s m args below meth c H locs cells slots Q (F0 m pc ls (.ref (ad 0 0) :: rest)) :=
  z_get hF hG z_o0 (z_c0 C ad _ _ 0) rfl wl_X 0 (by decide) wf_X_11 rfl rfl hdg kk
theorem gf_X_140_12 {o : Nat} (hF : z_F D C ad p m c cc nL s args R_X) (hG : z_G D C ad H0 S H locs) (ho : o < z_n 12) {v : Int32} (hv : S.1 12 o 0 = v) (hdg : decode cc pc = .ok (.getfield 140, 3)) (kk : W p l e R s m args below meth c H locs cells slots Q (F0 m (pc + 3) ls (.int v :: rest))) : W p l e R s m args below meth c H locs cells slots Q (F0 m pc ls (.ref (ad 12 o) :: rest)) :=
  z_get hF hG ho (z_c12 C ad _ _ o) rfl wl_H 0 (by decide) wf_X_140 rfl (by subst hv; rfl) hdg kk
theorem gf_X_28_0 (hF : z_F D C ad p m c cc nL s args R_X) (hG : z_G D C ad H0 S H locs) (hdg : decode cc pc = .ok (.getfield 28, 3)) (kk : W p l e R s m args below meth c H locs cells slots Q (F0 m (pc + 3) ls (.ref (ad 8 0) :: rest))) : W p l e R s m args below meth c H locs cells slots Q (F0 m pc ls (.ref (ad 0 0) :: rest)) :=
  z_get hF hG z_o0 (z_c0 C ad _ _ 0) rfl wl_X 3 (by decide) wf_X_28 rfl rfl hdg kk
theorem gf_X_155_14 {o : Nat} (hF : z_F D C ad p m c cc nL s args R_X) (hG : z_G D C ad H0 S H locs) (ho : o < z_n 14) {v : Int32} (hv : S.1 14 o 0 = v) (hdg : decode cc pc = .ok (.getfield 155, 3)) (kk : W p l e R s m args below meth c H locs cells slots Q (F0 m (pc + 3) ls (.int v :: rest))) : W p l e R s m args below meth c H locs cells slots Q (F0 m pc ls (.ref (ad 14 o) :: rest)) :=
  z_get hF hG ho (z_c14 C ad _ _ o) rfl wl_P 0 (by decide) wf_X_155 rfl (by subst hv; rfl) hdg kk
theorem kc_X_99 {x0 : Int32} {r : Int32} {S2 : z_S} (hF : z_F D C ad p m c cc nL s args R_X) (hM : z_M l y_X_isPoll b_X_isPoll 2 (some .boolean) rm_X_isPoll D C ad [.ref (ad 0 0), .int x0] S (z_Qi D C ad r S2)) (hG : z_G D C ad H0 S H locs) (hR : rm_X_isPoll.frames + 1 ≤ R.frames ∧ 8 + (2 + 11) + rm_X_isPoll.locals ≤ R.locals) (hcs : cells ≤ R.cells ∧ slots ≤ R.slots) (hsz : ls.size = nL) (hcat : (rest.map fun v => v.category).sum ≤ 8) (hdg : decode cc pc = .ok (.invokevirtual 99, 3)) (kk : ∀ (H1 : Heap) (locs1 : List Loc), z_G D C ad H0 S2 H1 locs1 → W p l e R s m args below meth c H1 locs1 cells slots Q (F0 m (pc + 3) ls (.int r :: rest))) : W p l e R s m args below meth c H locs cells slots Q (F0 m pc ls (.int x0 :: .ref (ad 0 0) :: rest)) :=
  z_ci (z_runV (As := [.int x0]) hF hM hG z_o0 (z_c0 C ad _ _ 0) rfl wm_X_99 wi_X_isPoll ws_X_isPoll wn_X wc_X_isPoll dp_X_isPoll rfl rfl hR hcs hsz hcat rfl hdg) hG kk
end ZI_xlow
end
section
def f_X_isHouse (x0 : Int32) : Int32 := (if x0 < 0 then 0 else (if 3 ≤ x0 then 0 else 1))
set_option maxHeartbeats 4000000 in
set_option maxRecDepth 100000 in
theorem c_X_isHouse (l : Launch) (D : va_G) (C : Nat → ClassId) (ad : Nat → Nat → Nat) (hJ : z_J ad) (S : z_S) (x0 : Int32)  : z_M l y_X_isHouse b_X_isHouse 1 (some .boolean) rm_X_isHouse D C ad [.int x0] S (z_Qi D C ad (f_X_isHouse x0) S) := by
  refine z_enter (by decide) (Nat.le_of_ble_eq_true rfl) hJ ?_
  intro p e s m below meth c ls hF hr hlk hl hG
  obtain ⟨hx, hb, hml, hown, hts⟩ := hF.1
  have hl : lv_has ls 1 [(0, .int x0)] := hl
  refine lv_iload_n hx hb d_X_isHouse_0 rfl (lv_at hl 0 rfl) ?_
  refine lv_if_lt (tgt := 13) hx hb d_X_isHouse_1 rfl (fun h1 => ?_) (fun h1 => ?_)
  ·
    refine lv_iconst (v := 0) hx hb d_X_isHouse_13 z_k0 ?_
    exact z_zret hF hr hlk rfl hG (Eq.symm ((if_pos h1).trans rfl)) rfl d_X_isHouse_14
  ·
    refine lv_iload_n hx hb d_X_isHouse_4 rfl (lv_at hl 0 rfl) ?_
    refine lv_iconst (v := 3) hx hb d_X_isHouse_5 z_k3 ?_
    refine lv_icmp_ge (tgt := 13) hx hb d_X_isHouse_6 rfl (fun h6 => ?_) (fun h6 => ?_)
    ·
      refine lv_iconst (v := 0) hx hb d_X_isHouse_13 z_k0 ?_
      exact z_zret hF hr hlk rfl hG (Eq.symm ((if_neg h1).trans ((if_pos h6).trans rfl))) rfl d_X_isHouse_14
    ·
      refine lv_iconst (v := 1) hx hb d_X_isHouse_9 z_k1 ?_
      refine lv_goto (tgt := 14) hx hb d_X_isHouse_10 rfl ?_
      exact z_zret hF hr hlk rfl hG (Eq.symm ((if_neg h1).trans ((if_neg h6).trans rfl))) rfl d_X_isHouse_14
def f_X_isDeposit (x0 : Int32) : Int32 := (if x0 < 0 then 0 else (if 6 ≤ x0 then 0 else 1))
set_option maxHeartbeats 4000000 in
set_option maxRecDepth 100000 in
theorem c_X_isDeposit (l : Launch) (D : va_G) (C : Nat → ClassId) (ad : Nat → Nat → Nat) (hJ : z_J ad) (S : z_S) (x0 : Int32)  : z_M l y_X_isDeposit b_X_isDeposit 1 (some .boolean) rm_X_isDeposit D C ad [.int x0] S (z_Qi D C ad (f_X_isDeposit x0) S) := by
  refine z_enter (by decide) (Nat.le_of_ble_eq_true rfl) hJ ?_
  intro p e s m below meth c ls hF hr hlk hl hG
  obtain ⟨hx, hb, hml, hown, hts⟩ := hF.1
  have hl : lv_has ls 1 [(0, .int x0)] := hl
  refine lv_iload_n hx hb d_X_isDeposit_0 rfl (lv_at hl 0 rfl) ?_
  refine lv_if_lt (tgt := 14) hx hb d_X_isDeposit_1 rfl (fun h1 => ?_) (fun h1 => ?_)
  ·
    refine lv_iconst (v := 0) hx hb d_X_isDeposit_14 z_k0 ?_
    exact z_zret hF hr hlk rfl hG (Eq.symm ((if_pos h1).trans rfl)) rfl d_X_isDeposit_15
  ·
    refine lv_iload_n hx hb d_X_isDeposit_4 rfl (lv_at hl 0 rfl) ?_
    refine lv_bipush (v := 6) hx hb d_X_isDeposit_5 z_bi6 ?_
    refine lv_icmp_ge (tgt := 14) hx hb d_X_isDeposit_7 rfl (fun h7 => ?_) (fun h7 => ?_)
    ·
      refine lv_iconst (v := 0) hx hb d_X_isDeposit_14 z_k0 ?_
      exact z_zret hF hr hlk rfl hG (Eq.symm ((if_neg h1).trans ((if_pos h7).trans rfl))) rfl d_X_isDeposit_15
    ·
      refine lv_iconst (v := 1) hx hb d_X_isDeposit_10 z_k1 ?_
      refine lv_goto (tgt := 15) hx hb d_X_isDeposit_11 rfl ?_
      exact z_zret hF hr hlk rfl hG (Eq.symm ((if_neg h1).trans ((if_neg h7).trans rfl))) rfl d_X_isDeposit_15
def f_X_isPart (x0 : Int32) : Int32 := (if x0 < 0 then 0 else (if 8 ≤ x0 then 0 else 1))
set_option maxHeartbeats 4000000 in
set_option maxRecDepth 100000 in
theorem c_X_isPart (l : Launch) (D : va_G) (C : Nat → ClassId) (ad : Nat → Nat → Nat) (hJ : z_J ad) (S : z_S) (x0 : Int32)  : z_M l y_X_isPart b_X_isPart 1 (some .boolean) rm_X_isPart D C ad [.int x0] S (z_Qi D C ad (f_X_isPart x0) S) := by
  refine z_enter (by decide) (Nat.le_of_ble_eq_true rfl) hJ ?_
  intro p e s m below meth c ls hF hr hlk hl hG
  obtain ⟨hx, hb, hml, hown, hts⟩ := hF.1
  have hl : lv_has ls 1 [(0, .int x0)] := hl
  refine lv_iload_n hx hb d_X_isPart_0 rfl (lv_at hl 0 rfl) ?_
  refine lv_if_lt (tgt := 14) hx hb d_X_isPart_1 rfl (fun h1 => ?_) (fun h1 => ?_)
  ·
    refine lv_iconst (v := 0) hx hb d_X_isPart_14 z_k0 ?_
    exact z_zret hF hr hlk rfl hG (Eq.symm ((if_pos h1).trans rfl)) rfl d_X_isPart_15
  ·
    refine lv_iload_n hx hb d_X_isPart_4 rfl (lv_at hl 0 rfl) ?_
    refine lv_bipush (v := 8) hx hb d_X_isPart_5 z_bi8 ?_
    refine lv_icmp_ge (tgt := 14) hx hb d_X_isPart_7 rfl (fun h7 => ?_) (fun h7 => ?_)
    ·
      refine lv_iconst (v := 0) hx hb d_X_isPart_14 z_k0 ?_
      exact z_zret hF hr hlk rfl hG (Eq.symm ((if_neg h1).trans ((if_pos h7).trans rfl))) rfl d_X_isPart_15
    ·
      refine lv_iconst (v := 1) hx hb d_X_isPart_10 z_k1 ?_
      refine lv_goto (tgt := 15) hx hb d_X_isPart_11 rfl ?_
      exact z_zret hF hr hlk rfl hG (Eq.symm ((if_neg h1).trans ((if_neg h7).trans rfl))) rfl d_X_isPart_15
theorem z_rg {x : Int32} {n : Nat} (h1 : ¬ x < 0) (h2 : ¬ nI n ≤ x) (hn : n < 2 ^ 31 := by decide) : vp_in x n := by
  rw [vp_in_iff]
  rw [Int32.lt_iff_toInt_lt, Int32.toInt_zero] at h1
  rw [Int32.le_iff_toInt_le, nI_toInt hn] at h2
  omega
theorem z_dep {x : Int32} (h : ¬ f_X_isDeposit x = 0) : vp_in x 6 := by
  unfold f_X_isDeposit at h
  by_cases h1 : x < 0
  · rw [if_pos h1] at h; exact absurd rfl h
  · rw [if_neg h1] at h
    by_cases h2 : 6 ≤ x
    · rw [if_pos h2] at h; exact absurd rfl h
    · exact z_rg (n := 6) h1 h2
theorem z_hou {x : Int32} (h : ¬ f_X_isHouse x = 0) : vp_in x 3 := by
  unfold f_X_isHouse at h
  by_cases h1 : x < 0
  · rw [if_pos h1] at h; exact absurd rfl h
  · rw [if_neg h1] at h
    by_cases h2 : 3 ≤ x
    · rw [if_pos h2] at h; exact absurd rfl h
    · exact z_rg (n := 3) h1 h2
theorem z_par {x : Int32} (h : ¬ f_X_isPart x = 0) : vp_in x 8 := by
  unfold f_X_isPart at h
  by_cases h1 : x < 0
  · rw [if_pos h1] at h; exact absurd rfl h
  · rw [if_neg h1] at h
    by_cases h2 : 8 ≤ x
    · rw [if_pos h2] at h; exact absurd rfl h
    · exact z_rg (n := 8) h1 h2
def f_X_isByte (S : z_S) (x0 : Int32) (x1 : Int32) : Int32 := (if (f_X_isDeposit x0) = 0 then 0 else (if x1 < 0 then 0 else (if ((S.1 2 0 x0.toNatClampNeg) * 4) ≤ x1 then 0 else 1)))
set_option maxHeartbeats 4000000 in
set_option maxRecDepth 100000 in
theorem c_X_isByte (l : Launch) (D : va_G) (C : Nat → ClassId) (ad : Nat → Nat → Nat) (hJ : z_J ad) (S : z_S) (x0 : Int32) (x1 : Int32)  : z_M l y_X_isByte b_X_isByte 3 (some .boolean) rm_X_isByte D C ad [.ref (ad 0 0), .int x0, .int x1] S (z_Qi D C ad (f_X_isByte S x0 x1) S) := by
  refine z_enter (by decide) (Nat.le_of_ble_eq_true rfl) hJ ?_
  intro p e s m below meth c ls hF hr hlk hl hG
  obtain ⟨hx, hb, hml, hown, hts⟩ := hF.1
  have hl : lv_has ls 3 [(0, .ref (ad 0 0)), (1, .int x0), (2, .int x1)] := hl
  refine lv_iload_n hx hb d_X_isByte_0 rfl (lv_at hl 1 rfl) ?_
  refine kc_X_51 hF (c_X_isDeposit l D C ad hF.2.2 _ _ ) hG ⟨Nat.le_of_ble_eq_true rfl, Nat.le_of_ble_eq_true rfl⟩ ⟨Nat.zero_le _, Nat.zero_le _⟩ hl.1 (Nat.le_of_ble_eq_true rfl) d_X_isByte_1 (fun H locs hG => ?_)
  refine lv_if_eq (tgt := 27) hx hb d_X_isByte_4 rfl (fun h4 => ?_) (fun h4 => ?_)
  ·
    refine lv_iconst (v := 0) hx hb d_X_isByte_27 z_k0 ?_
    exact z_zret hF hr hlk rfl hG (Eq.symm ((if_pos h4).trans rfl)) rfl d_X_isByte_28
  ·
    refine lv_iload_n hx hb d_X_isByte_7 rfl (lv_at hl 2 rfl) ?_
    refine lv_if_lt (tgt := 27) hx hb d_X_isByte_8 rfl (fun h8 => ?_) (fun h8 => ?_)
    ·
      refine lv_iconst (v := 0) hx hb d_X_isByte_27 z_k0 ?_
      exact z_zret hF hr hlk rfl hG (Eq.symm ((if_neg h4).trans ((if_pos h8).trans rfl))) rfl d_X_isByte_28
    ·
      refine lv_iload_n hx hb d_X_isByte_11 rfl (lv_at hl 2 rfl) ?_
      refine lv_aload_n hx hb d_X_isByte_12 rfl (lv_at hl 0 rfl) ?_
      refine gf_X_15_0 hF hG d_X_isByte_13 ?_
      refine lv_iload_n hx hb d_X_isByte_16 rfl (lv_at hl 1 rfl) ?_
      refine z_iald (n := 6) (j := x0.toNatClampNeg) (v := (S.1 2 0 x0.toNatClampNeg)) hF hG z_o2 (z_c2 C ad _ _ _) rfl (z_dep h4) rfl d_X_isByte_17 ?_
      refine lv_iconst (v := 4) hx hb d_X_isByte_18 z_k4 ?_
      refine lv_imul hx hb d_X_isByte_19 ?_
      refine lv_icmp_ge (tgt := 27) hx hb d_X_isByte_20 rfl (fun h20 => ?_) (fun h20 => ?_)
      ·
        refine lv_iconst (v := 0) hx hb d_X_isByte_27 z_k0 ?_
        exact z_zret hF hr hlk rfl hG (Eq.symm ((if_neg h4).trans ((if_neg h8).trans ((if_pos h20).trans rfl)))) rfl d_X_isByte_28
      ·
        refine lv_iconst (v := 1) hx hb d_X_isByte_23 z_k1 ?_
        refine lv_goto (tgt := 28) hx hb d_X_isByte_24 rfl ?_
        exact z_zret hF hr hlk rfl hG (Eq.symm ((if_neg h4).trans ((if_neg h8).trans ((if_neg h20).trans rfl)))) rfl d_X_isByte_28
def f_X_isPoll (S : z_S) (x0 : Int32) : Int32 := (if x0 < 1 then 0 else (if (S.1 0 0 6) < x0 then 0 else 1))
set_option maxHeartbeats 4000000 in
set_option maxRecDepth 100000 in
theorem c_X_isPoll (l : Launch) (D : va_G) (C : Nat → ClassId) (ad : Nat → Nat → Nat) (hJ : z_J ad) (S : z_S) (x0 : Int32)  : z_M l y_X_isPoll b_X_isPoll 2 (some .boolean) rm_X_isPoll D C ad [.ref (ad 0 0), .int x0] S (z_Qi D C ad (f_X_isPoll S x0) S) := by
  refine z_enter (by decide) (Nat.le_of_ble_eq_true rfl) hJ ?_
  intro p e s m below meth c ls hF hr hlk hl hG
  obtain ⟨hx, hb, hml, hown, hts⟩ := hF.1
  have hl : lv_has ls 2 [(0, .ref (ad 0 0)), (1, .int x0)] := hl
  refine lv_iload_n hx hb d_X_isPoll_0 rfl (lv_at hl 1 rfl) ?_
  refine lv_iconst (v := 1) hx hb d_X_isPoll_1 z_k1 ?_
  refine lv_icmp_lt (tgt := 17) hx hb d_X_isPoll_2 rfl (fun h2 => ?_) (fun h2 => ?_)
  ·
    refine lv_iconst (v := 0) hx hb d_X_isPoll_17 z_k0 ?_
    exact z_zret hF hr hlk rfl hG (Eq.symm ((if_pos h2).trans rfl)) rfl d_X_isPoll_18
  ·
    refine lv_iload_n hx hb d_X_isPoll_5 rfl (lv_at hl 1 rfl) ?_
    refine lv_aload_n hx hb d_X_isPoll_6 rfl (lv_at hl 0 rfl) ?_
    refine gf_X_42_0 hF hG (v := (S.1 0 0 6)) rfl d_X_isPoll_7 ?_
    refine lv_icmp_gt (tgt := 17) hx hb d_X_isPoll_10 rfl (fun h10 => ?_) (fun h10 => ?_)
    ·
      refine lv_iconst (v := 0) hx hb d_X_isPoll_17 z_k0 ?_
      exact z_zret hF hr hlk rfl hG (Eq.symm ((if_neg h2).trans ((if_pos h10).trans rfl))) rfl d_X_isPoll_18
    ·
      refine lv_iconst (v := 1) hx hb d_X_isPoll_13 z_k1 ?_
      refine lv_goto (tgt := 18) hx hb d_X_isPoll_14 rfl ?_
      exact z_zret hF hr hlk rfl hG (Eq.symm ((if_neg h2).trans ((if_neg h10).trans rfl))) rfl d_X_isPoll_18
def f_X_allHousesOpen (S : z_S) : Int32 := (if (S.1 12 0 0) = 0 then 0 else (if (S.1 12 1 0) = 0 then 0 else (if (S.1 12 2 0) = 0 then 0 else 1)))
set_option maxHeartbeats 4000000 in
set_option maxRecDepth 100000 in
theorem c_X_allHousesOpen (l : Launch) (D : va_G) (C : Nat → ClassId) (ad : Nat → Nat → Nat) (hJ : z_J ad) (S : z_S)  : z_M l y_X_allHousesOpen b_X_allHousesOpen 2 (some .boolean) rm_X_allHousesOpen D C ad [.ref (ad 0 0)] S (z_Qi D C ad (f_X_allHousesOpen S) S) := by
  refine z_enter (by decide) (Nat.le_of_ble_eq_true rfl) hJ ?_
  intro p e s m below meth c ls hF hr hlk hl hG
  obtain ⟨hx, hb, hml, hown, hts⟩ := hF.1
  have hl : lv_has ls 2 [(0, .ref (ad 0 0))] := hl
  refine lv_iconst (v := 0) hx hb d_X_allHousesOpen_0 z_k0 ?_
  refine lv_istore_n (lv' := [(1, .int 0), (0, .ref (ad 0 0))]) hx hb d_X_allHousesOpen_1 rfl hl (Nat.le_of_ble_eq_true rfl) rfl (fun ls hl => ?_)
  refine lv_iload_n hx hb d_X_allHousesOpen_2 rfl (lv_at hl 0 rfl) ?_
  refine lv_iconst (v := 3) hx hb d_X_allHousesOpen_3 z_k3 ?_
  refine lv_icmp_ge (tgt := 27) hx hb d_X_allHousesOpen_4 rfl (fun h => absurd h (by decide)) (fun _ => ?_)
  refine lv_aload_n hx hb d_X_allHousesOpen_7 rfl (lv_at hl 1 rfl) ?_
  refine gf_X_11_0 hF hG d_X_allHousesOpen_8 ?_
  refine lv_iload_n hx hb d_X_allHousesOpen_11 rfl (lv_at hl 0 rfl) ?_
  refine z_aald (n := 3) (K := 3) (t0 := 3) (Cn := R_H) (j := 0) (v := ad 12 0) hF hG z_o1 (z_c1 C ad _ _ _) rfl z_q0 z_in0_3 rfl d_X_allHousesOpen_12 ?_
  refine gf_X_140_12 hF hG z_o12_0 (v := (S.1 12 0 0)) rfl d_X_allHousesOpen_13 ?_
  refine lv_if_ne (tgt := 21) hx hb d_X_allHousesOpen_16 rfl (fun h16 => ?_) (fun h16 => ?_)
  ·
    refine lv_iinc (k := 0) (v := 1) (lv' := [(1, .int 1), (0, .ref (ad 0 0))]) hx hb d_X_allHousesOpen_21 hl rfl (by decide) (Nat.le_of_ble_eq_true rfl) rfl (fun ls hl => ?_)
    refine lv_goto (tgt := 2) hx hb d_X_allHousesOpen_24 rfl ?_
    refine lv_iload_n hx hb d_X_allHousesOpen_2 rfl (lv_at hl 0 rfl) ?_
    refine lv_iconst (v := 3) hx hb d_X_allHousesOpen_3 z_k3 ?_
    refine lv_icmp_ge (tgt := 27) hx hb d_X_allHousesOpen_4 rfl (fun h => absurd h (by decide)) (fun _ => ?_)
    refine lv_aload_n hx hb d_X_allHousesOpen_7 rfl (lv_at hl 1 rfl) ?_
    refine gf_X_11_0 hF hG d_X_allHousesOpen_8 ?_
    refine lv_iload_n hx hb d_X_allHousesOpen_11 rfl (lv_at hl 0 rfl) ?_
    refine z_aald (n := 3) (K := 3) (t0 := 3) (Cn := R_H) (j := 1) (v := ad 12 1) hF hG z_o1 (z_c1 C ad _ _ _) rfl z_q1 z_in1_3 rfl d_X_allHousesOpen_12 ?_
    refine gf_X_140_12 hF hG z_o12_1 (v := (S.1 12 1 0)) rfl d_X_allHousesOpen_13 ?_
    refine lv_if_ne (tgt := 21) hx hb d_X_allHousesOpen_16 rfl (fun h16_1 => ?_) (fun h16_1 => ?_)
    ·
      refine lv_iinc (k := 0) (v := 2) (lv' := [(1, .int 2), (0, .ref (ad 0 0))]) hx hb d_X_allHousesOpen_21 hl rfl (by decide) (Nat.le_of_ble_eq_true rfl) rfl (fun ls hl => ?_)
      refine lv_goto (tgt := 2) hx hb d_X_allHousesOpen_24 rfl ?_
      refine lv_iload_n hx hb d_X_allHousesOpen_2 rfl (lv_at hl 0 rfl) ?_
      refine lv_iconst (v := 3) hx hb d_X_allHousesOpen_3 z_k3 ?_
      refine lv_icmp_ge (tgt := 27) hx hb d_X_allHousesOpen_4 rfl (fun h => absurd h (by decide)) (fun _ => ?_)
      refine lv_aload_n hx hb d_X_allHousesOpen_7 rfl (lv_at hl 1 rfl) ?_
      refine gf_X_11_0 hF hG d_X_allHousesOpen_8 ?_
      refine lv_iload_n hx hb d_X_allHousesOpen_11 rfl (lv_at hl 0 rfl) ?_
      refine z_aald (n := 3) (K := 3) (t0 := 3) (Cn := R_H) (j := 2) (v := ad 12 2) hF hG z_o1 (z_c1 C ad _ _ _) rfl z_q2 z_in2_3 rfl d_X_allHousesOpen_12 ?_
      refine gf_X_140_12 hF hG z_o12_2 (v := (S.1 12 2 0)) rfl d_X_allHousesOpen_13 ?_
      refine lv_if_ne (tgt := 21) hx hb d_X_allHousesOpen_16 rfl (fun h16_2 => ?_) (fun h16_2 => ?_)
      ·
        refine lv_iinc (k := 0) (v := 3) (lv' := [(1, .int 3), (0, .ref (ad 0 0))]) hx hb d_X_allHousesOpen_21 hl rfl (by decide) (Nat.le_of_ble_eq_true rfl) rfl (fun ls hl => ?_)
        refine lv_goto (tgt := 2) hx hb d_X_allHousesOpen_24 rfl ?_
        refine lv_iload_n hx hb d_X_allHousesOpen_2 rfl (lv_at hl 0 rfl) ?_
        refine lv_iconst (v := 3) hx hb d_X_allHousesOpen_3 z_k3 ?_
        refine lv_icmp_ge (tgt := 27) hx hb d_X_allHousesOpen_4 rfl (fun _ => ?_) (fun h => absurd h (by decide))
        refine lv_iconst (v := 1) hx hb d_X_allHousesOpen_27 z_k1 ?_
        exact z_zret hF hr hlk rfl hG (Eq.symm ((if_neg h16).trans ((if_neg h16_1).trans ((if_neg h16_2).trans rfl)))) rfl d_X_allHousesOpen_28
      ·
        refine lv_iconst (v := 0) hx hb d_X_allHousesOpen_19 z_k0 ?_
        exact z_zret hF hr hlk rfl hG (Eq.symm ((if_neg h16).trans ((if_neg h16_1).trans ((if_pos h16_2).trans rfl)))) rfl d_X_allHousesOpen_20
    ·
      refine lv_iconst (v := 0) hx hb d_X_allHousesOpen_19 z_k0 ?_
      exact z_zret hF hr hlk rfl hG (Eq.symm ((if_neg h16).trans ((if_pos h16_1).trans rfl))) rfl d_X_allHousesOpen_20
  ·
    refine lv_iconst (v := 0) hx hb d_X_allHousesOpen_19 z_k0 ?_
    exact z_zret hF hr hlk rfl hG (Eq.symm ((if_pos h16).trans rfl)) rfl d_X_allHousesOpen_20
def f_X_freePlace (S : z_S) : Option Nat := (if (S.1 14 0 0) = 0 then (some 0) else (if (S.1 14 1 0) = 0 then (some 1) else (if (S.1 14 2 0) = 0 then (some 2) else (if (S.1 14 3 0) = 0 then (some 3) else (if (S.1 14 4 0) = 0 then (some 4) else (if (S.1 14 5 0) = 0 then (some 5) else (none : Option Nat)))))))
set_option maxHeartbeats 4000000 in
set_option maxRecDepth 100000 in
theorem c_X_freePlace (l : Launch) (D : va_G) (C : Nat → ClassId) (ad : Nat → Nat → Nat) (hJ : z_J ad) (S : z_S)  : z_M l y_X_freePlace b_X_freePlace 2 (some (.object R_P)) rm_X_freePlace D C ad [.ref (ad 0 0)] S (z_Qq D C ad (f_X_freePlace S) S) := by
  refine z_enter (by decide) (Nat.le_of_ble_eq_true rfl) hJ ?_
  intro p e s m below meth c ls hF hr hlk hl hG
  obtain ⟨hx, hb, hml, hown, hts⟩ := hF.1
  have hl : lv_has ls 2 [(0, .ref (ad 0 0))] := hl
  refine lv_iconst (v := 0) hx hb d_X_freePlace_0 z_k0 ?_
  refine lv_istore_n (lv' := [(1, .int 0), (0, .ref (ad 0 0))]) hx hb d_X_freePlace_1 rfl hl (Nat.le_of_ble_eq_true rfl) rfl (fun ls hl => ?_)
  refine lv_iload_n hx hb d_X_freePlace_2 rfl (lv_at hl 0 rfl) ?_
  refine lv_bipush (v := 6) hx hb d_X_freePlace_3 z_bi6 ?_
  refine lv_icmp_ge (tgt := 33) hx hb d_X_freePlace_5 rfl (fun h => absurd h (by decide)) (fun _ => ?_)
  refine lv_aload_n hx hb d_X_freePlace_8 rfl (lv_at hl 1 rfl) ?_
  refine gf_X_28_0 hF hG d_X_freePlace_9 ?_
  refine lv_iload_n hx hb d_X_freePlace_12 rfl (lv_at hl 0 rfl) ?_
  refine z_aald (n := 6) (K := 4) (t0 := 4) (Cn := R_P) (j := 0) (v := ad 14 0) hF hG z_o8 (z_c8 C ad _ _ _) rfl z_q0 z_in0_6 rfl d_X_freePlace_13 ?_
  refine gf_X_155_14 hF hG z_o14_0 (v := (S.1 14 0 0)) rfl d_X_freePlace_14 ?_
  refine lv_if_ne (tgt := 27) hx hb d_X_freePlace_17 rfl (fun h17 => ?_) (fun h17 => ?_)
  ·
    refine lv_iinc (k := 0) (v := 1) (lv' := [(1, .int 1), (0, .ref (ad 0 0))]) hx hb d_X_freePlace_27 hl rfl (by decide) (Nat.le_of_ble_eq_true rfl) rfl (fun ls hl => ?_)
    refine lv_goto (tgt := 2) hx hb d_X_freePlace_30 rfl ?_
    refine lv_iload_n hx hb d_X_freePlace_2 rfl (lv_at hl 0 rfl) ?_
    refine lv_bipush (v := 6) hx hb d_X_freePlace_3 z_bi6 ?_
    refine lv_icmp_ge (tgt := 33) hx hb d_X_freePlace_5 rfl (fun h => absurd h (by decide)) (fun _ => ?_)
    refine lv_aload_n hx hb d_X_freePlace_8 rfl (lv_at hl 1 rfl) ?_
    refine gf_X_28_0 hF hG d_X_freePlace_9 ?_
    refine lv_iload_n hx hb d_X_freePlace_12 rfl (lv_at hl 0 rfl) ?_
    refine z_aald (n := 6) (K := 4) (t0 := 4) (Cn := R_P) (j := 1) (v := ad 14 1) hF hG z_o8 (z_c8 C ad _ _ _) rfl z_q1 z_in1_6 rfl d_X_freePlace_13 ?_
    refine gf_X_155_14 hF hG z_o14_1 (v := (S.1 14 1 0)) rfl d_X_freePlace_14 ?_
    refine lv_if_ne (tgt := 27) hx hb d_X_freePlace_17 rfl (fun h17_1 => ?_) (fun h17_1 => ?_)
    ·
      refine lv_iinc (k := 0) (v := 2) (lv' := [(1, .int 2), (0, .ref (ad 0 0))]) hx hb d_X_freePlace_27 hl rfl (by decide) (Nat.le_of_ble_eq_true rfl) rfl (fun ls hl => ?_)
      refine lv_goto (tgt := 2) hx hb d_X_freePlace_30 rfl ?_
      refine lv_iload_n hx hb d_X_freePlace_2 rfl (lv_at hl 0 rfl) ?_
      refine lv_bipush (v := 6) hx hb d_X_freePlace_3 z_bi6 ?_
      refine lv_icmp_ge (tgt := 33) hx hb d_X_freePlace_5 rfl (fun h => absurd h (by decide)) (fun _ => ?_)
      refine lv_aload_n hx hb d_X_freePlace_8 rfl (lv_at hl 1 rfl) ?_
      refine gf_X_28_0 hF hG d_X_freePlace_9 ?_
      refine lv_iload_n hx hb d_X_freePlace_12 rfl (lv_at hl 0 rfl) ?_
      refine z_aald (n := 6) (K := 4) (t0 := 4) (Cn := R_P) (j := 2) (v := ad 14 2) hF hG z_o8 (z_c8 C ad _ _ _) rfl z_q2 z_in2_6 rfl d_X_freePlace_13 ?_
      refine gf_X_155_14 hF hG z_o14_2 (v := (S.1 14 2 0)) rfl d_X_freePlace_14 ?_
      refine lv_if_ne (tgt := 27) hx hb d_X_freePlace_17 rfl (fun h17_2 => ?_) (fun h17_2 => ?_)
      ·
        refine lv_iinc (k := 0) (v := 3) (lv' := [(1, .int 3), (0, .ref (ad 0 0))]) hx hb d_X_freePlace_27 hl rfl (by decide) (Nat.le_of_ble_eq_true rfl) rfl (fun ls hl => ?_)
        refine lv_goto (tgt := 2) hx hb d_X_freePlace_30 rfl ?_
        refine lv_iload_n hx hb d_X_freePlace_2 rfl (lv_at hl 0 rfl) ?_
        refine lv_bipush (v := 6) hx hb d_X_freePlace_3 z_bi6 ?_
        refine lv_icmp_ge (tgt := 33) hx hb d_X_freePlace_5 rfl (fun h => absurd h (by decide)) (fun _ => ?_)
        refine lv_aload_n hx hb d_X_freePlace_8 rfl (lv_at hl 1 rfl) ?_
        refine gf_X_28_0 hF hG d_X_freePlace_9 ?_
        refine lv_iload_n hx hb d_X_freePlace_12 rfl (lv_at hl 0 rfl) ?_
        refine z_aald (n := 6) (K := 4) (t0 := 4) (Cn := R_P) (j := 3) (v := ad 14 3) hF hG z_o8 (z_c8 C ad _ _ _) rfl z_q3 z_in3_6 rfl d_X_freePlace_13 ?_
        refine gf_X_155_14 hF hG z_o14_3 (v := (S.1 14 3 0)) rfl d_X_freePlace_14 ?_
        refine lv_if_ne (tgt := 27) hx hb d_X_freePlace_17 rfl (fun h17_3 => ?_) (fun h17_3 => ?_)
        ·
          refine lv_iinc (k := 0) (v := 4) (lv' := [(1, .int 4), (0, .ref (ad 0 0))]) hx hb d_X_freePlace_27 hl rfl (by decide) (Nat.le_of_ble_eq_true rfl) rfl (fun ls hl => ?_)
          refine lv_goto (tgt := 2) hx hb d_X_freePlace_30 rfl ?_
          refine lv_iload_n hx hb d_X_freePlace_2 rfl (lv_at hl 0 rfl) ?_
          refine lv_bipush (v := 6) hx hb d_X_freePlace_3 z_bi6 ?_
          refine lv_icmp_ge (tgt := 33) hx hb d_X_freePlace_5 rfl (fun h => absurd h (by decide)) (fun _ => ?_)
          refine lv_aload_n hx hb d_X_freePlace_8 rfl (lv_at hl 1 rfl) ?_
          refine gf_X_28_0 hF hG d_X_freePlace_9 ?_
          refine lv_iload_n hx hb d_X_freePlace_12 rfl (lv_at hl 0 rfl) ?_
          refine z_aald (n := 6) (K := 4) (t0 := 4) (Cn := R_P) (j := 4) (v := ad 14 4) hF hG z_o8 (z_c8 C ad _ _ _) rfl z_q4 z_in4_6 rfl d_X_freePlace_13 ?_
          refine gf_X_155_14 hF hG z_o14_4 (v := (S.1 14 4 0)) rfl d_X_freePlace_14 ?_
          refine lv_if_ne (tgt := 27) hx hb d_X_freePlace_17 rfl (fun h17_4 => ?_) (fun h17_4 => ?_)
          ·
            refine lv_iinc (k := 0) (v := 5) (lv' := [(1, .int 5), (0, .ref (ad 0 0))]) hx hb d_X_freePlace_27 hl rfl (by decide) (Nat.le_of_ble_eq_true rfl) rfl (fun ls hl => ?_)
            refine lv_goto (tgt := 2) hx hb d_X_freePlace_30 rfl ?_
            refine lv_iload_n hx hb d_X_freePlace_2 rfl (lv_at hl 0 rfl) ?_
            refine lv_bipush (v := 6) hx hb d_X_freePlace_3 z_bi6 ?_
            refine lv_icmp_ge (tgt := 33) hx hb d_X_freePlace_5 rfl (fun h => absurd h (by decide)) (fun _ => ?_)
            refine lv_aload_n hx hb d_X_freePlace_8 rfl (lv_at hl 1 rfl) ?_
            refine gf_X_28_0 hF hG d_X_freePlace_9 ?_
            refine lv_iload_n hx hb d_X_freePlace_12 rfl (lv_at hl 0 rfl) ?_
            refine z_aald (n := 6) (K := 4) (t0 := 4) (Cn := R_P) (j := 5) (v := ad 14 5) hF hG z_o8 (z_c8 C ad _ _ _) rfl z_q5 z_in5_6 rfl d_X_freePlace_13 ?_
            refine gf_X_155_14 hF hG z_o14_5 (v := (S.1 14 5 0)) rfl d_X_freePlace_14 ?_
            refine lv_if_ne (tgt := 27) hx hb d_X_freePlace_17 rfl (fun h17_5 => ?_) (fun h17_5 => ?_)
            ·
              refine lv_iinc (k := 0) (v := 6) (lv' := [(1, .int 6), (0, .ref (ad 0 0))]) hx hb d_X_freePlace_27 hl rfl (by decide) (Nat.le_of_ble_eq_true rfl) rfl (fun ls hl => ?_)
              refine lv_goto (tgt := 2) hx hb d_X_freePlace_30 rfl ?_
              refine lv_iload_n hx hb d_X_freePlace_2 rfl (lv_at hl 0 rfl) ?_
              refine lv_bipush (v := 6) hx hb d_X_freePlace_3 z_bi6 ?_
              refine lv_icmp_ge (tgt := 33) hx hb d_X_freePlace_5 rfl (fun _ => ?_) (fun h => absurd h (by decide))
              refine lv_null hx hb d_X_freePlace_33 ?_
              exact z_qret hF hr hlk hG (congrArg (fun r : Option Nat => va_rf (r.map (ad 14))) (show (none : Option Nat) = f_X_freePlace S from (Eq.symm ((if_neg h17).trans ((if_neg h17_1).trans ((if_neg h17_2).trans ((if_neg h17_3).trans ((if_neg h17_4).trans ((if_neg h17_5).trans rfl))))))))) rfl d_X_freePlace_34
            ·
              refine lv_aload_n hx hb d_X_freePlace_20 rfl (lv_at hl 1 rfl) ?_
              refine gf_X_28_0 hF hG d_X_freePlace_21 ?_
              refine lv_iload_n hx hb d_X_freePlace_24 rfl (lv_at hl 0 rfl) ?_
              refine z_aald (n := 6) (K := 4) (t0 := 4) (Cn := R_P) (j := 5) (v := ad 14 5) hF hG z_o8 (z_c8 C ad _ _ _) rfl z_q5 z_in5_6 rfl d_X_freePlace_25 ?_
              exact z_qret hF hr hlk hG (congrArg (fun r : Option Nat => va_rf (r.map (ad 14))) (show (some 5 : Option Nat) = f_X_freePlace S from (Eq.symm ((if_neg h17).trans ((if_neg h17_1).trans ((if_neg h17_2).trans ((if_neg h17_3).trans ((if_neg h17_4).trans ((if_pos h17_5).trans rfl))))))))) rfl d_X_freePlace_26
          ·
            refine lv_aload_n hx hb d_X_freePlace_20 rfl (lv_at hl 1 rfl) ?_
            refine gf_X_28_0 hF hG d_X_freePlace_21 ?_
            refine lv_iload_n hx hb d_X_freePlace_24 rfl (lv_at hl 0 rfl) ?_
            refine z_aald (n := 6) (K := 4) (t0 := 4) (Cn := R_P) (j := 4) (v := ad 14 4) hF hG z_o8 (z_c8 C ad _ _ _) rfl z_q4 z_in4_6 rfl d_X_freePlace_25 ?_
            exact z_qret hF hr hlk hG (congrArg (fun r : Option Nat => va_rf (r.map (ad 14))) (show (some 4 : Option Nat) = f_X_freePlace S from (Eq.symm ((if_neg h17).trans ((if_neg h17_1).trans ((if_neg h17_2).trans ((if_neg h17_3).trans ((if_pos h17_4).trans rfl)))))))) rfl d_X_freePlace_26
        ·
          refine lv_aload_n hx hb d_X_freePlace_20 rfl (lv_at hl 1 rfl) ?_
          refine gf_X_28_0 hF hG d_X_freePlace_21 ?_
          refine lv_iload_n hx hb d_X_freePlace_24 rfl (lv_at hl 0 rfl) ?_
          refine z_aald (n := 6) (K := 4) (t0 := 4) (Cn := R_P) (j := 3) (v := ad 14 3) hF hG z_o8 (z_c8 C ad _ _ _) rfl z_q3 z_in3_6 rfl d_X_freePlace_25 ?_
          exact z_qret hF hr hlk hG (congrArg (fun r : Option Nat => va_rf (r.map (ad 14))) (show (some 3 : Option Nat) = f_X_freePlace S from (Eq.symm ((if_neg h17).trans ((if_neg h17_1).trans ((if_neg h17_2).trans ((if_pos h17_3).trans rfl))))))) rfl d_X_freePlace_26
      ·
        refine lv_aload_n hx hb d_X_freePlace_20 rfl (lv_at hl 1 rfl) ?_
        refine gf_X_28_0 hF hG d_X_freePlace_21 ?_
        refine lv_iload_n hx hb d_X_freePlace_24 rfl (lv_at hl 0 rfl) ?_
        refine z_aald (n := 6) (K := 4) (t0 := 4) (Cn := R_P) (j := 2) (v := ad 14 2) hF hG z_o8 (z_c8 C ad _ _ _) rfl z_q2 z_in2_6 rfl d_X_freePlace_25 ?_
        exact z_qret hF hr hlk hG (congrArg (fun r : Option Nat => va_rf (r.map (ad 14))) (show (some 2 : Option Nat) = f_X_freePlace S from (Eq.symm ((if_neg h17).trans ((if_neg h17_1).trans ((if_pos h17_2).trans rfl)))))) rfl d_X_freePlace_26
    ·
      refine lv_aload_n hx hb d_X_freePlace_20 rfl (lv_at hl 1 rfl) ?_
      refine gf_X_28_0 hF hG d_X_freePlace_21 ?_
      refine lv_iload_n hx hb d_X_freePlace_24 rfl (lv_at hl 0 rfl) ?_
      refine z_aald (n := 6) (K := 4) (t0 := 4) (Cn := R_P) (j := 1) (v := ad 14 1) hF hG z_o8 (z_c8 C ad _ _ _) rfl z_q1 z_in1_6 rfl d_X_freePlace_25 ?_
      exact z_qret hF hr hlk hG (congrArg (fun r : Option Nat => va_rf (r.map (ad 14))) (show (some 1 : Option Nat) = f_X_freePlace S from (Eq.symm ((if_neg h17).trans ((if_pos h17_1).trans rfl))))) rfl d_X_freePlace_26
  ·
    refine lv_aload_n hx hb d_X_freePlace_20 rfl (lv_at hl 1 rfl) ?_
    refine gf_X_28_0 hF hG d_X_freePlace_21 ?_
    refine lv_iload_n hx hb d_X_freePlace_24 rfl (lv_at hl 0 rfl) ?_
    refine z_aald (n := 6) (K := 4) (t0 := 4) (Cn := R_P) (j := 0) (v := ad 14 0) hF hG z_o8 (z_c8 C ad _ _ _) rfl z_q0 z_in0_6 rfl d_X_freePlace_25 ?_
    exact z_qret hF hr hlk hG (congrArg (fun r : Option Nat => va_rf (r.map (ad 14))) (show (some 0 : Option Nat) = f_X_freePlace S from (Eq.symm ((if_pos h17).trans rfl)))) rfl d_X_freePlace_26
def f_X_runningPoll (S : z_S) (x0 : Int32) : Option Nat := (if (f_X_isPoll S x0) = 0 then (none : Option Nat) else (if (S.1 14 0 0) = x0 then (some 0) else (if (S.1 14 1 0) = x0 then (some 1) else (if (S.1 14 2 0) = x0 then (some 2) else (if (S.1 14 3 0) = x0 then (some 3) else (if (S.1 14 4 0) = x0 then (some 4) else (if (S.1 14 5 0) = x0 then (some 5) else (none : Option Nat))))))))
set_option maxHeartbeats 4000000 in
set_option maxRecDepth 100000 in
theorem c_X_runningPoll (l : Launch) (D : va_G) (C : Nat → ClassId) (ad : Nat → Nat → Nat) (hJ : z_J ad) (S : z_S) (x0 : Int32)  : z_M l y_X_runningPoll b_X_runningPoll 3 (some (.object R_P)) rm_X_runningPoll D C ad [.ref (ad 0 0), .int x0] S (z_Qq D C ad (f_X_runningPoll S x0) S) := by
  refine z_enter (by decide) (Nat.le_of_ble_eq_true rfl) hJ ?_
  intro p e s m below meth c ls hF hr hlk hl hG
  obtain ⟨hx, hb, hml, hown, hts⟩ := hF.1
  have hl : lv_has ls 3 [(0, .ref (ad 0 0)), (1, .int x0)] := hl
  refine lv_aload_n hx hb d_X_runningPoll_0 rfl (lv_at hl 0 rfl) ?_
  refine lv_iload_n hx hb d_X_runningPoll_1 rfl (lv_at hl 1 rfl) ?_
  refine kc_X_99 hF (c_X_isPoll l D C ad hF.2.2 _ _ ) hG ⟨Nat.le_of_ble_eq_true rfl, Nat.le_of_ble_eq_true rfl⟩ ⟨Nat.zero_le _, Nat.zero_le _⟩ hl.1 (Nat.le_of_ble_eq_true rfl) d_X_runningPoll_2 (fun H locs hG => ?_)
  refine lv_if_ne (tgt := 10) hx hb d_X_runningPoll_5 rfl (fun h5 => ?_) (fun h5 => ?_)
  ·
    refine lv_iconst (v := 0) hx hb d_X_runningPoll_10 z_k0 ?_
    refine lv_istore_n (lv' := [(2, .int 0), (0, .ref (ad 0 0)), (1, .int x0)]) hx hb d_X_runningPoll_11 rfl hl (Nat.le_of_ble_eq_true rfl) rfl (fun ls hl => ?_)
    refine lv_iload_n hx hb d_X_runningPoll_12 rfl (lv_at hl 0 rfl) ?_
    refine lv_bipush (v := 6) hx hb d_X_runningPoll_13 z_bi6 ?_
    refine lv_icmp_ge (tgt := 44) hx hb d_X_runningPoll_15 rfl (fun h => absurd h (by decide)) (fun _ => ?_)
    refine lv_aload_n hx hb d_X_runningPoll_18 rfl (lv_at hl 1 rfl) ?_
    refine gf_X_28_0 hF hG d_X_runningPoll_19 ?_
    refine lv_iload_n hx hb d_X_runningPoll_22 rfl (lv_at hl 0 rfl) ?_
    refine z_aald (n := 6) (K := 4) (t0 := 4) (Cn := R_P) (j := 0) (v := ad 14 0) hF hG z_o8 (z_c8 C ad _ _ _) rfl z_q0 z_in0_6 rfl d_X_runningPoll_23 ?_
    refine gf_X_155_14 hF hG z_o14_0 (v := (S.1 14 0 0)) rfl d_X_runningPoll_24 ?_
    refine lv_iload_n hx hb d_X_runningPoll_27 rfl (lv_at hl 2 rfl) ?_
    refine lv_icmp_ne (tgt := 38) hx hb d_X_runningPoll_28 rfl (fun h28 => ?_) (fun h28 => ?_)
    ·
      refine lv_iinc (k := 0) (v := 1) (lv' := [(2, .int 1), (0, .ref (ad 0 0)), (1, .int x0)]) hx hb d_X_runningPoll_38 hl rfl (by decide) (Nat.le_of_ble_eq_true rfl) rfl (fun ls hl => ?_)
      refine lv_goto (tgt := 12) hx hb d_X_runningPoll_41 rfl ?_
      refine lv_iload_n hx hb d_X_runningPoll_12 rfl (lv_at hl 0 rfl) ?_
      refine lv_bipush (v := 6) hx hb d_X_runningPoll_13 z_bi6 ?_
      refine lv_icmp_ge (tgt := 44) hx hb d_X_runningPoll_15 rfl (fun h => absurd h (by decide)) (fun _ => ?_)
      refine lv_aload_n hx hb d_X_runningPoll_18 rfl (lv_at hl 1 rfl) ?_
      refine gf_X_28_0 hF hG d_X_runningPoll_19 ?_
      refine lv_iload_n hx hb d_X_runningPoll_22 rfl (lv_at hl 0 rfl) ?_
      refine z_aald (n := 6) (K := 4) (t0 := 4) (Cn := R_P) (j := 1) (v := ad 14 1) hF hG z_o8 (z_c8 C ad _ _ _) rfl z_q1 z_in1_6 rfl d_X_runningPoll_23 ?_
      refine gf_X_155_14 hF hG z_o14_1 (v := (S.1 14 1 0)) rfl d_X_runningPoll_24 ?_
      refine lv_iload_n hx hb d_X_runningPoll_27 rfl (lv_at hl 2 rfl) ?_
      refine lv_icmp_ne (tgt := 38) hx hb d_X_runningPoll_28 rfl (fun h28_1 => ?_) (fun h28_1 => ?_)
      ·
        refine lv_iinc (k := 0) (v := 2) (lv' := [(2, .int 2), (0, .ref (ad 0 0)), (1, .int x0)]) hx hb d_X_runningPoll_38 hl rfl (by decide) (Nat.le_of_ble_eq_true rfl) rfl (fun ls hl => ?_)
        refine lv_goto (tgt := 12) hx hb d_X_runningPoll_41 rfl ?_
        refine lv_iload_n hx hb d_X_runningPoll_12 rfl (lv_at hl 0 rfl) ?_
        refine lv_bipush (v := 6) hx hb d_X_runningPoll_13 z_bi6 ?_
        refine lv_icmp_ge (tgt := 44) hx hb d_X_runningPoll_15 rfl (fun h => absurd h (by decide)) (fun _ => ?_)
        refine lv_aload_n hx hb d_X_runningPoll_18 rfl (lv_at hl 1 rfl) ?_
        refine gf_X_28_0 hF hG d_X_runningPoll_19 ?_
        refine lv_iload_n hx hb d_X_runningPoll_22 rfl (lv_at hl 0 rfl) ?_
        refine z_aald (n := 6) (K := 4) (t0 := 4) (Cn := R_P) (j := 2) (v := ad 14 2) hF hG z_o8 (z_c8 C ad _ _ _) rfl z_q2 z_in2_6 rfl d_X_runningPoll_23 ?_
        refine gf_X_155_14 hF hG z_o14_2 (v := (S.1 14 2 0)) rfl d_X_runningPoll_24 ?_
        refine lv_iload_n hx hb d_X_runningPoll_27 rfl (lv_at hl 2 rfl) ?_
        refine lv_icmp_ne (tgt := 38) hx hb d_X_runningPoll_28 rfl (fun h28_2 => ?_) (fun h28_2 => ?_)
        ·
          refine lv_iinc (k := 0) (v := 3) (lv' := [(2, .int 3), (0, .ref (ad 0 0)), (1, .int x0)]) hx hb d_X_runningPoll_38 hl rfl (by decide) (Nat.le_of_ble_eq_true rfl) rfl (fun ls hl => ?_)
          refine lv_goto (tgt := 12) hx hb d_X_runningPoll_41 rfl ?_
          refine lv_iload_n hx hb d_X_runningPoll_12 rfl (lv_at hl 0 rfl) ?_
          refine lv_bipush (v := 6) hx hb d_X_runningPoll_13 z_bi6 ?_
          refine lv_icmp_ge (tgt := 44) hx hb d_X_runningPoll_15 rfl (fun h => absurd h (by decide)) (fun _ => ?_)
          refine lv_aload_n hx hb d_X_runningPoll_18 rfl (lv_at hl 1 rfl) ?_
          refine gf_X_28_0 hF hG d_X_runningPoll_19 ?_
          refine lv_iload_n hx hb d_X_runningPoll_22 rfl (lv_at hl 0 rfl) ?_
          refine z_aald (n := 6) (K := 4) (t0 := 4) (Cn := R_P) (j := 3) (v := ad 14 3) hF hG z_o8 (z_c8 C ad _ _ _) rfl z_q3 z_in3_6 rfl d_X_runningPoll_23 ?_
          refine gf_X_155_14 hF hG z_o14_3 (v := (S.1 14 3 0)) rfl d_X_runningPoll_24 ?_
          refine lv_iload_n hx hb d_X_runningPoll_27 rfl (lv_at hl 2 rfl) ?_
          refine lv_icmp_ne (tgt := 38) hx hb d_X_runningPoll_28 rfl (fun h28_3 => ?_) (fun h28_3 => ?_)
          ·
            refine lv_iinc (k := 0) (v := 4) (lv' := [(2, .int 4), (0, .ref (ad 0 0)), (1, .int x0)]) hx hb d_X_runningPoll_38 hl rfl (by decide) (Nat.le_of_ble_eq_true rfl) rfl (fun ls hl => ?_)
            refine lv_goto (tgt := 12) hx hb d_X_runningPoll_41 rfl ?_
            refine lv_iload_n hx hb d_X_runningPoll_12 rfl (lv_at hl 0 rfl) ?_
            refine lv_bipush (v := 6) hx hb d_X_runningPoll_13 z_bi6 ?_
            refine lv_icmp_ge (tgt := 44) hx hb d_X_runningPoll_15 rfl (fun h => absurd h (by decide)) (fun _ => ?_)
            refine lv_aload_n hx hb d_X_runningPoll_18 rfl (lv_at hl 1 rfl) ?_
            refine gf_X_28_0 hF hG d_X_runningPoll_19 ?_
            refine lv_iload_n hx hb d_X_runningPoll_22 rfl (lv_at hl 0 rfl) ?_
            refine z_aald (n := 6) (K := 4) (t0 := 4) (Cn := R_P) (j := 4) (v := ad 14 4) hF hG z_o8 (z_c8 C ad _ _ _) rfl z_q4 z_in4_6 rfl d_X_runningPoll_23 ?_
            refine gf_X_155_14 hF hG z_o14_4 (v := (S.1 14 4 0)) rfl d_X_runningPoll_24 ?_
            refine lv_iload_n hx hb d_X_runningPoll_27 rfl (lv_at hl 2 rfl) ?_
            refine lv_icmp_ne (tgt := 38) hx hb d_X_runningPoll_28 rfl (fun h28_4 => ?_) (fun h28_4 => ?_)
            ·
              refine lv_iinc (k := 0) (v := 5) (lv' := [(2, .int 5), (0, .ref (ad 0 0)), (1, .int x0)]) hx hb d_X_runningPoll_38 hl rfl (by decide) (Nat.le_of_ble_eq_true rfl) rfl (fun ls hl => ?_)
              refine lv_goto (tgt := 12) hx hb d_X_runningPoll_41 rfl ?_
              refine lv_iload_n hx hb d_X_runningPoll_12 rfl (lv_at hl 0 rfl) ?_
              refine lv_bipush (v := 6) hx hb d_X_runningPoll_13 z_bi6 ?_
              refine lv_icmp_ge (tgt := 44) hx hb d_X_runningPoll_15 rfl (fun h => absurd h (by decide)) (fun _ => ?_)
              refine lv_aload_n hx hb d_X_runningPoll_18 rfl (lv_at hl 1 rfl) ?_
              refine gf_X_28_0 hF hG d_X_runningPoll_19 ?_
              refine lv_iload_n hx hb d_X_runningPoll_22 rfl (lv_at hl 0 rfl) ?_
              refine z_aald (n := 6) (K := 4) (t0 := 4) (Cn := R_P) (j := 5) (v := ad 14 5) hF hG z_o8 (z_c8 C ad _ _ _) rfl z_q5 z_in5_6 rfl d_X_runningPoll_23 ?_
              refine gf_X_155_14 hF hG z_o14_5 (v := (S.1 14 5 0)) rfl d_X_runningPoll_24 ?_
              refine lv_iload_n hx hb d_X_runningPoll_27 rfl (lv_at hl 2 rfl) ?_
              refine lv_icmp_ne (tgt := 38) hx hb d_X_runningPoll_28 rfl (fun h28_5 => ?_) (fun h28_5 => ?_)
              ·
                refine lv_iinc (k := 0) (v := 6) (lv' := [(2, .int 6), (0, .ref (ad 0 0)), (1, .int x0)]) hx hb d_X_runningPoll_38 hl rfl (by decide) (Nat.le_of_ble_eq_true rfl) rfl (fun ls hl => ?_)
                refine lv_goto (tgt := 12) hx hb d_X_runningPoll_41 rfl ?_
                refine lv_iload_n hx hb d_X_runningPoll_12 rfl (lv_at hl 0 rfl) ?_
                refine lv_bipush (v := 6) hx hb d_X_runningPoll_13 z_bi6 ?_
                refine lv_icmp_ge (tgt := 44) hx hb d_X_runningPoll_15 rfl (fun _ => ?_) (fun h => absurd h (by decide))
                refine lv_null hx hb d_X_runningPoll_44 ?_
                exact z_qret hF hr hlk hG (congrArg (fun r : Option Nat => va_rf (r.map (ad 14))) (show (none : Option Nat) = f_X_runningPoll S x0 from (Eq.symm ((if_neg h5).trans ((if_neg h28).trans ((if_neg h28_1).trans ((if_neg h28_2).trans ((if_neg h28_3).trans ((if_neg h28_4).trans ((if_neg h28_5).trans rfl)))))))))) rfl d_X_runningPoll_45
              ·
                refine lv_aload_n hx hb d_X_runningPoll_31 rfl (lv_at hl 1 rfl) ?_
                refine gf_X_28_0 hF hG d_X_runningPoll_32 ?_
                refine lv_iload_n hx hb d_X_runningPoll_35 rfl (lv_at hl 0 rfl) ?_
                refine z_aald (n := 6) (K := 4) (t0 := 4) (Cn := R_P) (j := 5) (v := ad 14 5) hF hG z_o8 (z_c8 C ad _ _ _) rfl z_q5 z_in5_6 rfl d_X_runningPoll_36 ?_
                exact z_qret hF hr hlk hG (congrArg (fun r : Option Nat => va_rf (r.map (ad 14))) (show (some 5 : Option Nat) = f_X_runningPoll S x0 from (Eq.symm ((if_neg h5).trans ((if_neg h28).trans ((if_neg h28_1).trans ((if_neg h28_2).trans ((if_neg h28_3).trans ((if_neg h28_4).trans ((if_pos h28_5).trans rfl)))))))))) rfl d_X_runningPoll_37
            ·
              refine lv_aload_n hx hb d_X_runningPoll_31 rfl (lv_at hl 1 rfl) ?_
              refine gf_X_28_0 hF hG d_X_runningPoll_32 ?_
              refine lv_iload_n hx hb d_X_runningPoll_35 rfl (lv_at hl 0 rfl) ?_
              refine z_aald (n := 6) (K := 4) (t0 := 4) (Cn := R_P) (j := 4) (v := ad 14 4) hF hG z_o8 (z_c8 C ad _ _ _) rfl z_q4 z_in4_6 rfl d_X_runningPoll_36 ?_
              exact z_qret hF hr hlk hG (congrArg (fun r : Option Nat => va_rf (r.map (ad 14))) (show (some 4 : Option Nat) = f_X_runningPoll S x0 from (Eq.symm ((if_neg h5).trans ((if_neg h28).trans ((if_neg h28_1).trans ((if_neg h28_2).trans ((if_neg h28_3).trans ((if_pos h28_4).trans rfl))))))))) rfl d_X_runningPoll_37
          ·
            refine lv_aload_n hx hb d_X_runningPoll_31 rfl (lv_at hl 1 rfl) ?_
            refine gf_X_28_0 hF hG d_X_runningPoll_32 ?_
            refine lv_iload_n hx hb d_X_runningPoll_35 rfl (lv_at hl 0 rfl) ?_
            refine z_aald (n := 6) (K := 4) (t0 := 4) (Cn := R_P) (j := 3) (v := ad 14 3) hF hG z_o8 (z_c8 C ad _ _ _) rfl z_q3 z_in3_6 rfl d_X_runningPoll_36 ?_
            exact z_qret hF hr hlk hG (congrArg (fun r : Option Nat => va_rf (r.map (ad 14))) (show (some 3 : Option Nat) = f_X_runningPoll S x0 from (Eq.symm ((if_neg h5).trans ((if_neg h28).trans ((if_neg h28_1).trans ((if_neg h28_2).trans ((if_pos h28_3).trans rfl)))))))) rfl d_X_runningPoll_37
        ·
          refine lv_aload_n hx hb d_X_runningPoll_31 rfl (lv_at hl 1 rfl) ?_
          refine gf_X_28_0 hF hG d_X_runningPoll_32 ?_
          refine lv_iload_n hx hb d_X_runningPoll_35 rfl (lv_at hl 0 rfl) ?_
          refine z_aald (n := 6) (K := 4) (t0 := 4) (Cn := R_P) (j := 2) (v := ad 14 2) hF hG z_o8 (z_c8 C ad _ _ _) rfl z_q2 z_in2_6 rfl d_X_runningPoll_36 ?_
          exact z_qret hF hr hlk hG (congrArg (fun r : Option Nat => va_rf (r.map (ad 14))) (show (some 2 : Option Nat) = f_X_runningPoll S x0 from (Eq.symm ((if_neg h5).trans ((if_neg h28).trans ((if_neg h28_1).trans ((if_pos h28_2).trans rfl))))))) rfl d_X_runningPoll_37
      ·
        refine lv_aload_n hx hb d_X_runningPoll_31 rfl (lv_at hl 1 rfl) ?_
        refine gf_X_28_0 hF hG d_X_runningPoll_32 ?_
        refine lv_iload_n hx hb d_X_runningPoll_35 rfl (lv_at hl 0 rfl) ?_
        refine z_aald (n := 6) (K := 4) (t0 := 4) (Cn := R_P) (j := 1) (v := ad 14 1) hF hG z_o8 (z_c8 C ad _ _ _) rfl z_q1 z_in1_6 rfl d_X_runningPoll_36 ?_
        exact z_qret hF hr hlk hG (congrArg (fun r : Option Nat => va_rf (r.map (ad 14))) (show (some 1 : Option Nat) = f_X_runningPoll S x0 from (Eq.symm ((if_neg h5).trans ((if_neg h28).trans ((if_pos h28_1).trans rfl)))))) rfl d_X_runningPoll_37
    ·
      refine lv_aload_n hx hb d_X_runningPoll_31 rfl (lv_at hl 1 rfl) ?_
      refine gf_X_28_0 hF hG d_X_runningPoll_32 ?_
      refine lv_iload_n hx hb d_X_runningPoll_35 rfl (lv_at hl 0 rfl) ?_
      refine z_aald (n := 6) (K := 4) (t0 := 4) (Cn := R_P) (j := 0) (v := ad 14 0) hF hG z_o8 (z_c8 C ad _ _ _) rfl z_q0 z_in0_6 rfl d_X_runningPoll_36 ?_
      exact z_qret hF hr hlk hG (congrArg (fun r : Option Nat => va_rf (r.map (ad 14))) (show (some 0 : Option Nat) = f_X_runningPoll S x0 from (Eq.symm ((if_neg h5).trans ((if_pos h28).trans rfl))))) rfl d_X_runningPoll_37
  ·
    refine lv_null hx hb d_X_runningPoll_8 ?_
    exact z_qret hF hr hlk hG (congrArg (fun r : Option Nat => va_rf (r.map (ad 14))) (show (none : Option Nat) = f_X_runningPoll S x0 from (Eq.symm ((if_pos h5).trans rfl)))) rfl d_X_runningPoll_9
def f_X_parts (S : z_S) : Int32 := ((((((0 + (if 8 < (S.1 2 0 0) then 8 else (S.1 2 0 0))) + (if 8 < (S.1 2 0 1) then 8 else (S.1 2 0 1))) + (if 8 < (S.1 2 0 2) then 8 else (S.1 2 0 2))) + (if 8 < (S.1 2 0 3) then 8 else (S.1 2 0 3))) + (if 8 < (S.1 2 0 4) then 8 else (S.1 2 0 4))) + (if 8 < (S.1 2 0 5) then 8 else (S.1 2 0 5)))
set_option maxHeartbeats 4000000 in
set_option maxRecDepth 100000 in
theorem c_X_parts (l : Launch) (D : va_G) (C : Nat → ClassId) (ad : Nat → Nat → Nat) (hJ : z_J ad) (S : z_S)  : z_M l y_X_parts b_X_parts 3 (some .int) rm_X_parts D C ad [.ref (ad 0 0)] S (z_Qi D C ad (f_X_parts S) S) := by
  refine z_enter (by decide) (Nat.le_of_ble_eq_true rfl) hJ ?_
  intro p e s m below meth c ls hF hr hlk hl hG
  obtain ⟨hx, hb, hml, hown, hts⟩ := hF.1
  have hl : lv_has ls 3 [(0, .ref (ad 0 0))] := hl
  refine lv_iconst (v := 0) hx hb d_X_parts_0 z_k0 ?_
  refine lv_istore_n (lv' := [(1, .int 0), (0, .ref (ad 0 0))]) hx hb d_X_parts_1 rfl hl (Nat.le_of_ble_eq_true rfl) rfl (fun ls hl => ?_)
  refine lv_iconst (v := 0) hx hb d_X_parts_2 z_k0 ?_
  refine lv_istore_n (lv' := [(2, .int 0), (1, .int 0), (0, .ref (ad 0 0))]) hx hb d_X_parts_3 rfl hl (Nat.le_of_ble_eq_true rfl) rfl (fun ls hl => ?_)
  refine lv_iload_n hx hb d_X_parts_4 rfl (lv_at hl 0 rfl) ?_
  refine lv_bipush (v := 6) hx hb d_X_parts_5 z_bi6 ?_
  refine lv_icmp_ge (tgt := 30) hx hb d_X_parts_7 rfl (fun h => absurd h (by decide)) (fun _ => ?_)
  refine lv_iload_n hx hb d_X_parts_10 rfl (lv_at hl 1 rfl) ?_
  refine lv_aload_n hx hb d_X_parts_11 rfl (lv_at hl 2 rfl) ?_
  refine gf_X_15_0 hF hG d_X_parts_12 ?_
  refine lv_iload_n hx hb d_X_parts_15 rfl (lv_at hl 0 rfl) ?_
  refine z_iald (n := 6) (j := 0) (v := (S.1 2 0 0)) hF hG z_o2 (z_c2 C ad _ _ _) z_q0 z_in0_6 rfl d_X_parts_16 ?_
  refine lv_bipush (v := 8) hx hb d_X_parts_17 z_bi8 ?_
  refine va_mmin hx hb (hml.trans hl.1.symm) hown (hts _ wm_X_147) (hts _ wi_Math_min) (hts _ wn_Math) (hts _ wc_Math_min) (Nat.le_of_ble_eq_true rfl) (Nat.le_of_ble_eq_true rfl) (Nat.zero_le _) (Nat.zero_le _) d_X_parts_19 ?_
  refine lv_iadd hx hb d_X_parts_22 ?_
  refine lv_istore_n (lv' := [(1, .int (0 + (if 8 < (S.1 2 0 0) then 8 else (S.1 2 0 0)))), (2, .int 0), (0, .ref (ad 0 0))]) hx hb d_X_parts_23 rfl hl (Nat.le_of_ble_eq_true rfl) rfl (fun ls hl => ?_)
  refine lv_iinc (k := 1) (v := 1) (lv' := [(2, .int 1), (1, .int (0 + (if 8 < (S.1 2 0 0) then 8 else (S.1 2 0 0)))), (0, .ref (ad 0 0))]) hx hb d_X_parts_24 hl rfl (by decide) (Nat.le_of_ble_eq_true rfl) rfl (fun ls hl => ?_)
  refine lv_goto (tgt := 4) hx hb d_X_parts_27 rfl ?_
  refine lv_iload_n hx hb d_X_parts_4 rfl (lv_at hl 0 rfl) ?_
  refine lv_bipush (v := 6) hx hb d_X_parts_5 z_bi6 ?_
  refine lv_icmp_ge (tgt := 30) hx hb d_X_parts_7 rfl (fun h => absurd h (by decide)) (fun _ => ?_)
  refine lv_iload_n hx hb d_X_parts_10 rfl (lv_at hl 1 rfl) ?_
  refine lv_aload_n hx hb d_X_parts_11 rfl (lv_at hl 2 rfl) ?_
  refine gf_X_15_0 hF hG d_X_parts_12 ?_
  refine lv_iload_n hx hb d_X_parts_15 rfl (lv_at hl 0 rfl) ?_
  refine z_iald (n := 6) (j := 1) (v := (S.1 2 0 1)) hF hG z_o2 (z_c2 C ad _ _ _) z_q1 z_in1_6 rfl d_X_parts_16 ?_
  refine lv_bipush (v := 8) hx hb d_X_parts_17 z_bi8 ?_
  refine va_mmin hx hb (hml.trans hl.1.symm) hown (hts _ wm_X_147) (hts _ wi_Math_min) (hts _ wn_Math) (hts _ wc_Math_min) (Nat.le_of_ble_eq_true rfl) (Nat.le_of_ble_eq_true rfl) (Nat.zero_le _) (Nat.zero_le _) d_X_parts_19 ?_
  refine lv_iadd hx hb d_X_parts_22 ?_
  refine lv_istore_n (lv' := [(1, .int ((0 + (if 8 < (S.1 2 0 0) then 8 else (S.1 2 0 0))) + (if 8 < (S.1 2 0 1) then 8 else (S.1 2 0 1)))), (2, .int 1), (0, .ref (ad 0 0))]) hx hb d_X_parts_23 rfl hl (Nat.le_of_ble_eq_true rfl) rfl (fun ls hl => ?_)
  refine lv_iinc (k := 1) (v := 2) (lv' := [(2, .int 2), (1, .int ((0 + (if 8 < (S.1 2 0 0) then 8 else (S.1 2 0 0))) + (if 8 < (S.1 2 0 1) then 8 else (S.1 2 0 1)))), (0, .ref (ad 0 0))]) hx hb d_X_parts_24 hl rfl (by decide) (Nat.le_of_ble_eq_true rfl) rfl (fun ls hl => ?_)
  refine lv_goto (tgt := 4) hx hb d_X_parts_27 rfl ?_
  refine lv_iload_n hx hb d_X_parts_4 rfl (lv_at hl 0 rfl) ?_
  refine lv_bipush (v := 6) hx hb d_X_parts_5 z_bi6 ?_
  refine lv_icmp_ge (tgt := 30) hx hb d_X_parts_7 rfl (fun h => absurd h (by decide)) (fun _ => ?_)
  refine lv_iload_n hx hb d_X_parts_10 rfl (lv_at hl 1 rfl) ?_
  refine lv_aload_n hx hb d_X_parts_11 rfl (lv_at hl 2 rfl) ?_
  refine gf_X_15_0 hF hG d_X_parts_12 ?_
  refine lv_iload_n hx hb d_X_parts_15 rfl (lv_at hl 0 rfl) ?_
  refine z_iald (n := 6) (j := 2) (v := (S.1 2 0 2)) hF hG z_o2 (z_c2 C ad _ _ _) z_q2 z_in2_6 rfl d_X_parts_16 ?_
  refine lv_bipush (v := 8) hx hb d_X_parts_17 z_bi8 ?_
  refine va_mmin hx hb (hml.trans hl.1.symm) hown (hts _ wm_X_147) (hts _ wi_Math_min) (hts _ wn_Math) (hts _ wc_Math_min) (Nat.le_of_ble_eq_true rfl) (Nat.le_of_ble_eq_true rfl) (Nat.zero_le _) (Nat.zero_le _) d_X_parts_19 ?_
  refine lv_iadd hx hb d_X_parts_22 ?_
  refine lv_istore_n (lv' := [(1, .int (((0 + (if 8 < (S.1 2 0 0) then 8 else (S.1 2 0 0))) + (if 8 < (S.1 2 0 1) then 8 else (S.1 2 0 1))) + (if 8 < (S.1 2 0 2) then 8 else (S.1 2 0 2)))), (2, .int 2), (0, .ref (ad 0 0))]) hx hb d_X_parts_23 rfl hl (Nat.le_of_ble_eq_true rfl) rfl (fun ls hl => ?_)
  refine lv_iinc (k := 1) (v := 3) (lv' := [(2, .int 3), (1, .int (((0 + (if 8 < (S.1 2 0 0) then 8 else (S.1 2 0 0))) + (if 8 < (S.1 2 0 1) then 8 else (S.1 2 0 1))) + (if 8 < (S.1 2 0 2) then 8 else (S.1 2 0 2)))), (0, .ref (ad 0 0))]) hx hb d_X_parts_24 hl rfl (by decide) (Nat.le_of_ble_eq_true rfl) rfl (fun ls hl => ?_)
  refine lv_goto (tgt := 4) hx hb d_X_parts_27 rfl ?_
  refine lv_iload_n hx hb d_X_parts_4 rfl (lv_at hl 0 rfl) ?_
  refine lv_bipush (v := 6) hx hb d_X_parts_5 z_bi6 ?_
  refine lv_icmp_ge (tgt := 30) hx hb d_X_parts_7 rfl (fun h => absurd h (by decide)) (fun _ => ?_)
  refine lv_iload_n hx hb d_X_parts_10 rfl (lv_at hl 1 rfl) ?_
  refine lv_aload_n hx hb d_X_parts_11 rfl (lv_at hl 2 rfl) ?_
  refine gf_X_15_0 hF hG d_X_parts_12 ?_
  refine lv_iload_n hx hb d_X_parts_15 rfl (lv_at hl 0 rfl) ?_
  refine z_iald (n := 6) (j := 3) (v := (S.1 2 0 3)) hF hG z_o2 (z_c2 C ad _ _ _) z_q3 z_in3_6 rfl d_X_parts_16 ?_
  refine lv_bipush (v := 8) hx hb d_X_parts_17 z_bi8 ?_
  refine va_mmin hx hb (hml.trans hl.1.symm) hown (hts _ wm_X_147) (hts _ wi_Math_min) (hts _ wn_Math) (hts _ wc_Math_min) (Nat.le_of_ble_eq_true rfl) (Nat.le_of_ble_eq_true rfl) (Nat.zero_le _) (Nat.zero_le _) d_X_parts_19 ?_
  refine lv_iadd hx hb d_X_parts_22 ?_
  refine lv_istore_n (lv' := [(1, .int ((((0 + (if 8 < (S.1 2 0 0) then 8 else (S.1 2 0 0))) + (if 8 < (S.1 2 0 1) then 8 else (S.1 2 0 1))) + (if 8 < (S.1 2 0 2) then 8 else (S.1 2 0 2))) + (if 8 < (S.1 2 0 3) then 8 else (S.1 2 0 3)))), (2, .int 3), (0, .ref (ad 0 0))]) hx hb d_X_parts_23 rfl hl (Nat.le_of_ble_eq_true rfl) rfl (fun ls hl => ?_)
  refine lv_iinc (k := 1) (v := 4) (lv' := [(2, .int 4), (1, .int ((((0 + (if 8 < (S.1 2 0 0) then 8 else (S.1 2 0 0))) + (if 8 < (S.1 2 0 1) then 8 else (S.1 2 0 1))) + (if 8 < (S.1 2 0 2) then 8 else (S.1 2 0 2))) + (if 8 < (S.1 2 0 3) then 8 else (S.1 2 0 3)))), (0, .ref (ad 0 0))]) hx hb d_X_parts_24 hl rfl (by decide) (Nat.le_of_ble_eq_true rfl) rfl (fun ls hl => ?_)
  refine lv_goto (tgt := 4) hx hb d_X_parts_27 rfl ?_
  refine lv_iload_n hx hb d_X_parts_4 rfl (lv_at hl 0 rfl) ?_
  refine lv_bipush (v := 6) hx hb d_X_parts_5 z_bi6 ?_
  refine lv_icmp_ge (tgt := 30) hx hb d_X_parts_7 rfl (fun h => absurd h (by decide)) (fun _ => ?_)
  refine lv_iload_n hx hb d_X_parts_10 rfl (lv_at hl 1 rfl) ?_
  refine lv_aload_n hx hb d_X_parts_11 rfl (lv_at hl 2 rfl) ?_
  refine gf_X_15_0 hF hG d_X_parts_12 ?_
  refine lv_iload_n hx hb d_X_parts_15 rfl (lv_at hl 0 rfl) ?_
  refine z_iald (n := 6) (j := 4) (v := (S.1 2 0 4)) hF hG z_o2 (z_c2 C ad _ _ _) z_q4 z_in4_6 rfl d_X_parts_16 ?_
  refine lv_bipush (v := 8) hx hb d_X_parts_17 z_bi8 ?_
  refine va_mmin hx hb (hml.trans hl.1.symm) hown (hts _ wm_X_147) (hts _ wi_Math_min) (hts _ wn_Math) (hts _ wc_Math_min) (Nat.le_of_ble_eq_true rfl) (Nat.le_of_ble_eq_true rfl) (Nat.zero_le _) (Nat.zero_le _) d_X_parts_19 ?_
  refine lv_iadd hx hb d_X_parts_22 ?_
  refine lv_istore_n (lv' := [(1, .int (((((0 + (if 8 < (S.1 2 0 0) then 8 else (S.1 2 0 0))) + (if 8 < (S.1 2 0 1) then 8 else (S.1 2 0 1))) + (if 8 < (S.1 2 0 2) then 8 else (S.1 2 0 2))) + (if 8 < (S.1 2 0 3) then 8 else (S.1 2 0 3))) + (if 8 < (S.1 2 0 4) then 8 else (S.1 2 0 4)))), (2, .int 4), (0, .ref (ad 0 0))]) hx hb d_X_parts_23 rfl hl (Nat.le_of_ble_eq_true rfl) rfl (fun ls hl => ?_)
  refine lv_iinc (k := 1) (v := 5) (lv' := [(2, .int 5), (1, .int (((((0 + (if 8 < (S.1 2 0 0) then 8 else (S.1 2 0 0))) + (if 8 < (S.1 2 0 1) then 8 else (S.1 2 0 1))) + (if 8 < (S.1 2 0 2) then 8 else (S.1 2 0 2))) + (if 8 < (S.1 2 0 3) then 8 else (S.1 2 0 3))) + (if 8 < (S.1 2 0 4) then 8 else (S.1 2 0 4)))), (0, .ref (ad 0 0))]) hx hb d_X_parts_24 hl rfl (by decide) (Nat.le_of_ble_eq_true rfl) rfl (fun ls hl => ?_)
  refine lv_goto (tgt := 4) hx hb d_X_parts_27 rfl ?_
  refine lv_iload_n hx hb d_X_parts_4 rfl (lv_at hl 0 rfl) ?_
  refine lv_bipush (v := 6) hx hb d_X_parts_5 z_bi6 ?_
  refine lv_icmp_ge (tgt := 30) hx hb d_X_parts_7 rfl (fun h => absurd h (by decide)) (fun _ => ?_)
  refine lv_iload_n hx hb d_X_parts_10 rfl (lv_at hl 1 rfl) ?_
  refine lv_aload_n hx hb d_X_parts_11 rfl (lv_at hl 2 rfl) ?_
  refine gf_X_15_0 hF hG d_X_parts_12 ?_
  refine lv_iload_n hx hb d_X_parts_15 rfl (lv_at hl 0 rfl) ?_
  refine z_iald (n := 6) (j := 5) (v := (S.1 2 0 5)) hF hG z_o2 (z_c2 C ad _ _ _) z_q5 z_in5_6 rfl d_X_parts_16 ?_
  refine lv_bipush (v := 8) hx hb d_X_parts_17 z_bi8 ?_
  refine va_mmin hx hb (hml.trans hl.1.symm) hown (hts _ wm_X_147) (hts _ wi_Math_min) (hts _ wn_Math) (hts _ wc_Math_min) (Nat.le_of_ble_eq_true rfl) (Nat.le_of_ble_eq_true rfl) (Nat.zero_le _) (Nat.zero_le _) d_X_parts_19 ?_
  refine lv_iadd hx hb d_X_parts_22 ?_
  refine lv_istore_n (lv' := [(1, .int ((((((0 + (if 8 < (S.1 2 0 0) then 8 else (S.1 2 0 0))) + (if 8 < (S.1 2 0 1) then 8 else (S.1 2 0 1))) + (if 8 < (S.1 2 0 2) then 8 else (S.1 2 0 2))) + (if 8 < (S.1 2 0 3) then 8 else (S.1 2 0 3))) + (if 8 < (S.1 2 0 4) then 8 else (S.1 2 0 4))) + (if 8 < (S.1 2 0 5) then 8 else (S.1 2 0 5)))), (2, .int 5), (0, .ref (ad 0 0))]) hx hb d_X_parts_23 rfl hl (Nat.le_of_ble_eq_true rfl) rfl (fun ls hl => ?_)
  refine lv_iinc (k := 1) (v := 6) (lv' := [(2, .int 6), (1, .int ((((((0 + (if 8 < (S.1 2 0 0) then 8 else (S.1 2 0 0))) + (if 8 < (S.1 2 0 1) then 8 else (S.1 2 0 1))) + (if 8 < (S.1 2 0 2) then 8 else (S.1 2 0 2))) + (if 8 < (S.1 2 0 3) then 8 else (S.1 2 0 3))) + (if 8 < (S.1 2 0 4) then 8 else (S.1 2 0 4))) + (if 8 < (S.1 2 0 5) then 8 else (S.1 2 0 5)))), (0, .ref (ad 0 0))]) hx hb d_X_parts_24 hl rfl (by decide) (Nat.le_of_ble_eq_true rfl) rfl (fun ls hl => ?_)
  refine lv_goto (tgt := 4) hx hb d_X_parts_27 rfl ?_
  refine lv_iload_n hx hb d_X_parts_4 rfl (lv_at hl 0 rfl) ?_
  refine lv_bipush (v := 6) hx hb d_X_parts_5 z_bi6 ?_
  refine lv_icmp_ge (tgt := 30) hx hb d_X_parts_7 rfl (fun _ => ?_) (fun h => absurd h (by decide))
  refine lv_iload_n hx hb d_X_parts_30 rfl (lv_at hl 1 rfl) ?_
  exact z_iret hF hr hlk hG rfl rfl d_X_parts_31
theorem lt_X_freePlace {S : z_S} {i : Nat} (h : f_X_freePlace S = some i) : i < z_n 14 := by
  unfold f_X_freePlace at h
  repeat' split at h
  all_goals (cases h <;> decide)
theorem lt_X_runningPoll {S : z_S} {x : Int32} {i : Nat} (h : f_X_runningPoll S x = some i) : i < z_n 14 := by
  unfold f_X_runningPoll at h
  repeat' split at h
  all_goals (cases h <;> decide)
/-- what keeps the class's own indices within bounds -/
def z_Ok (S : z_S) : Prop := (∀ d : Nat, d < 6 → 0 ≤ (S.1 2 0 d).toInt ∧ (S.1 2 0 d).toInt ≤ 16) ∧ (0 ≤ (S.1 3 0 4).toInt ∧ (S.1 3 0 4).toInt ≤ 24) ∧ (∀ k : Nat, k < 24 → vp_in (S.1 6 0 k) 3) ∧ (∀ i : Nat, i < 6 → vp_in (S.1 14 i 0) 513 ∧ vp_in (S.1 14 i 1) 6 ∧ vp_in (S.1 14 i 2) 8) ∧ (0 ≤ (S.1 0 0 6).toInt ∧ (S.1 0 0 6).toInt ≤ 512)
theorem z_Ok.of {S S' : z_S} (h : z_Ok S) (e2 : S'.1 2 0 = S.1 2 0) (e3 : S'.1 3 0 4 = S.1 3 0 4) (e6 : S'.1 6 0 = S.1 6 0) (e14 : S'.1 14 = S.1 14) (e0 : S'.1 0 0 6 = S.1 0 0 6) : z_Ok S' := by
  unfold z_Ok
  rw [e2, e3, e6, e14, e0]
  exact h
theorem z_okc {S : z_S} (hok : z_Ok S) : 0 ≤ S.1 3 0 4 := by
  rw [Int32.le_iff_toInt_le, Int32.toInt_zero]; exact hok.2.1.1
theorem z_bcI {S : z_S} {x : Int32} (hok : z_Ok S) (h : vp_in x 6) : 0 ≤ (S.1 2 0 x.toNatClampNeg).toInt ∧ (S.1 2 0 x.toNatClampNeg).toInt ≤ 16 := hok.1 _ (z_lt h)
theorem z_npt {S : z_S} {i : Nat} (hok : z_Ok S) (hi : i < z_n 14) : vp_in (S.1 14 i 0) 513 := (hok.2.2.2.1 i hi).1
theorem z_dpt {S : z_S} {i : Nat} (hok : z_Ok S) (hi : i < z_n 14) : vp_in (S.1 14 i 1) 6 := (hok.2.2.2.1 i hi).2.1
theorem z_ppt {S : z_S} {i : Nat} (hok : z_Ok S) (hi : i < z_n 14) : vp_in (S.1 14 i 2) 8 := (hok.2.2.2.1 i hi).2.2
theorem z_plI {d b : Int32} (hd : vp_in d 6) (hb : vp_in b 16) : vp_in (f_H_place d b) 96 := by
  obtain ⟨x, hx, rfl⟩ := vp_in_of hd (by decide)
  obtain ⟨y, hy, rfl⟩ := vp_in_of hb (by decide)
  exact z_pla hx hy
theorem z_p8 {b : Int32} (hb : vp_in b 8) : vp_in b 16 ∧ vp_in (b + 8) 16 := by
  obtain ⟨y, hy, rfl⟩ := vp_in_of hb (by decide)
  have e : nI y + 8 = nI (y + 8) := nI_add y 8
  rw [e]
  exact ⟨vp_in_nI (by omega) (by decide), vp_in_nI (by omega) (by decide)⟩
theorem z_bp1 {S : z_S} {i : Nat} (hok : z_Ok S) (hi : i < z_n 14) : vp_in (f_H_place (S.1 14 i 1) (S.1 14 i 2)) 96 := z_plI (z_dpt hok hi) (z_p8 (z_ppt hok hi)).1
theorem z_bp2 {S : z_S} {i : Nat} (hok : z_Ok S) (hi : i < z_n 14) : vp_in (f_H_place (S.1 14 i 1) (S.1 14 i 2 + 8)) 96 := z_plI (z_dpt hok hi) (z_p8 (z_ppt hok hi)).2
theorem z_d8 {d b : Int32} (hd : vp_in d 6) (hb : vp_in b 8) : vp_in (d * 8 + b) 48 := by
  obtain ⟨x, hx, rfl⟩ := vp_in_of hd (by decide)
  obtain ⟨y, hy, rfl⟩ := vp_in_of hb (by decide)
  show vp_in (nI x * nI 8 + nI y) 48
  rw [pk_mul, nI_add]
  exact vp_in_nI (by omega) (by decide)
theorem z_fp {S : z_S} {i : Nat} (hok : z_Ok S) (hi : i < z_n 14) : vp_in (S.1 14 i 1 * 8 + S.1 14 i 2) 48 := z_d8 (z_dpt hok hi) (z_ppt hok hi)
theorem z_m31 {v : Int32} (h : vp_in v 3) : vp_in ((v + 1) - (v + 1) / 3 * 3) 3 := by
  obtain ⟨y, hy, rfl⟩ := vp_in_of h (by decide)
  have e : nI y + 1 = nI (y + 1) := nI_add y 1
  rw [e]
  show vp_in (nI (y + 1) - nI (y + 1) / nI 3 * nI 3) 3
  rw [pk_rem (by omega) (by decide) (by decide)]
  exact vp_in_nI (by omega) (by decide)
theorem z_m32 {v : Int32} (h : vp_in v 3) : vp_in ((v + 2) - (v + 2) / 3 * 3) 3 := by
  obtain ⟨y, hy, rfl⟩ := vp_in_of h (by decide)
  have e : nI y + 2 = nI (y + 2) := nI_add y 2
  rw [e]
  show vp_in (nI (y + 2) - nI (y + 2) / nI 3 * nI 3) 3
  rw [pk_rem (by omega) (by decide) (by decide)]
  exact vp_in_nI (by omega) (by decide)
theorem z_mnd {S : z_S} {i : Nat} {v : Int32} (hok : z_Ok S) (hi : i < z_n 14) (hh : vp_in v 2) : vp_in (f_H_place (S.1 14 i 1) (S.1 14 i 2 + v * 8)) 96 := by
  refine z_plI (z_dpt hok hi) ?_
  obtain ⟨y, hy, e⟩ := vp_in_of (z_ppt hok hi) (by decide)
  obtain ⟨q, hq, rfl⟩ := vp_in_of hh (by decide)
  rw [e]
  show vp_in (nI y + nI q * nI 8) 16
  rw [pk_mul, nI_add]
  exact vp_in_nI (by omega) (by decide)
theorem z_hasI {S : z_S} {x : Int32} (h : ¬ f_R_has S x = 0) : ¬ x < 0 ∧ ¬ S.1 3 0 4 ≤ x := by
  unfold f_R_has at h
  by_cases h1 : x < 0
  · rw [if_pos h1] at h; exact absurd rfl h
  · rw [if_neg h1] at h
    by_cases h2 : S.1 3 0 4 ≤ x
    · rw [if_pos h2] at h; exact absurd rfl h
    · exact ⟨h1, h2⟩
theorem z_hasN {S : z_S} {x : Int32} (hok : z_Ok S) (h : ¬ f_R_has S x = 0) : ∃ k n : Nat, x = nI k ∧ S.1 3 0 4 = nI (n + 1) ∧ k ≤ n ∧ n < 24 := by
  obtain ⟨h1, h2⟩ := z_hasI h
  obtain ⟨k, hk, rfl⟩ := nI_of h1
  obtain ⟨c, hc, e⟩ := vp_in_of (x := S.1 3 0 4) (n := 25) (vp_in_iff.mpr ⟨hok.2.1.1, by have := hok.2.1.2; omega⟩) (by decide)
  rw [e] at h2
  have hlt : k < c := by
    apply Classical.byContradiction
    intro q
    exact h2 (nI_le (by omega) hk)
  refine ⟨k, c - 1, rfl, ?_, by omega, by omega⟩
  rw [e]
  exact congrArg nI (by omega)
theorem z_has {S : z_S} {x : Int32} (hok : z_Ok S) (h : ¬ f_R_has S x = 0) : vp_in x 24 := by
  obtain ⟨k, n, rfl, -, h1, h2⟩ := z_hasN hok h
  exact vp_in_nI (by omega) (by decide)
theorem z_rm1 {S : z_S} {x : Int32} (h : ¬ f_R_has S x = 0) : x = nI x.toNatClampNeg := by
  obtain ⟨k, hk, rfl⟩ := nI_of (z_hasI h).1
  rw [nI_clamp hk]
theorem z_rm2 {S : z_S} {x : Int32} (hok : z_Ok S) (h : ¬ f_R_has S x = 0) : S.1 3 0 4 = nI ((S.1 3 0 4).toNatClampNeg - 1 + 1) := by
  obtain ⟨k, n, -, e, h1, h2⟩ := z_hasN hok h
  rw [e, nI_clamp (by omega)]
  exact congrArg nI (by omega)
theorem z_rm3 {S : z_S} {x : Int32} (hok : z_Ok S) (h : ¬ f_R_has S x = 0) : x.toNatClampNeg ≤ (S.1 3 0 4).toNatClampNeg - 1 := by
  obtain ⟨k, n, rfl, e, h1, h2⟩ := z_hasN hok h
  rw [e, nI_clamp (by omega), nI_clamp (by omega)]
  omega
theorem z_rm4 {S : z_S} {x : Int32} (hok : z_Ok S) (h : ¬ f_R_has S x = 0) : (S.1 3 0 4).toNatClampNeg - 1 < 24 := by
  obtain ⟨k, n, -, e, h1, h2⟩ := z_hasN hok h
  rw [e, nI_clamp (by omega)]
  omega
theorem z_rsN {S : z_S} (hok : z_Ok S) (h : ¬ S.1 3 0 4 = 0) : ¬ f_R_has S 0 = 0 := by
  obtain ⟨c, hc, e⟩ := vp_in_of (x := S.1 3 0 4) (n := 25) (vp_in_iff.mpr ⟨hok.2.1.1, by have := hok.2.1.2; omega⟩) (by decide)
  unfold f_R_has
  rw [if_neg (by decide), if_neg]
  · decide
  · rw [e]
    have h0 : 0 < c := by
      rcases Nat.eq_zero_or_pos c with z | z
      · subst z; exact absurd e h
      · exact z
    exact nI_ge (a := 0) h0 (by omega)
theorem z_rs2 {S : z_S} (hok : z_Ok S) (h : ¬ S.1 3 0 4 = 0) : S.1 3 0 4 = nI ((S.1 3 0 4).toNatClampNeg - 1 + 1) := z_rm2 hok (z_rsN hok h)
theorem z_rs4 {S : z_S} (hok : z_Ok S) (h : ¬ S.1 3 0 4 = 0) : (S.1 3 0 4).toNatClampNeg - 1 < 24 := z_rm4 hok (z_rsN hok h)
theorem z_pol {S : z_S} {x : Int32} (hok : z_Ok S) (h : ¬ f_X_isPoll S x = 0) : vp_in x 513 := by
  unfold f_X_isPoll at h
  by_cases h1 : x < 1
  · rw [if_pos h1] at h; exact absurd rfl h
  · rw [if_neg h1] at h
    by_cases h2 : S.1 0 0 6 < x
    · rw [if_pos h2] at h; exact absurd rfl h
    · rw [vp_in_iff]
      rw [Int32.lt_iff_toInt_lt] at h1 h2
      have h3 : (1 : Int32).toInt = 1 := by decide
      have := hok.2.2.2.2.2
      omega
theorem z_pc1 {S : z_S} (hok : z_Ok S) (h : S.1 0 0 6 < 512) : vp_in (S.1 0 0 6 + 1) 513 := by
  rw [Int32.lt_iff_toInt_lt] at h
  have h3 : (512 : Int32).toInt = 512 := by decide
  obtain ⟨c, hc, e⟩ := vp_in_of (x := S.1 0 0 6) (n := 512) (vp_in_iff.mpr ⟨hok.2.2.2.2.1, by omega⟩) (by decide)
  rw [e]
  have e2 : nI c + 1 = nI (c + 1) := nI_add c 1
  rw [e2]
  exact vp_in_nI (by omega) (by decide)
theorem z_deN {x : Int32} (h9 : ¬ x < 1) (h15 : x ≤ 16) : ∃ n : Nat, n ≤ 16 ∧ x = nI n := by
  rw [Int32.lt_iff_toInt_lt] at h9
  rw [Int32.le_iff_toInt_le] at h15
  have h3 : (1 : Int32).toInt = 1 := by decide
  have h4 : (16 : Int32).toInt = 16 := by decide
  obtain ⟨c, hc, e⟩ := vp_in_of (x := x) (n := 17) (vp_in_iff.mpr ⟨by omega, by omega⟩) (by decide)
  exact ⟨c, by omega, e⟩
theorem z_de1 {x : Int32} (h9 : ¬ x < 1) (h15 : x ≤ 16) : x * 4 = nI (4 * x.toNatClampNeg) := by
  obtain ⟨n, hn, rfl⟩ := z_deN h9 h15
  rw [nI_clamp (by omega), Nat.mul_comm]
  exact pk_mul n 4
theorem z_de2 {x : Int32} (h9 : ¬ x < 1) (h15 : x ≤ 16) : 4 * x.toNatClampNeg < 2 ^ 31 := by
  obtain ⟨n, hn, rfl⟩ := z_deN h9 h15
  rw [nI_clamp (by omega)]
  omega
theorem z_de3 {x d : Int32} (h9 : ¬ x < 1) (h15 : x ≤ 16) (hd : vp_in d 6) : ∀ k : Nat, k < 4 * x.toNatClampNeg → vp_in (f_H_place d (nI k / 4)) 96 := by
  obtain ⟨n, hn, rfl⟩ := z_deN h9 h15
  rw [nI_clamp (by omega)]
  intro k hk
  refine z_plI hd ?_
  show vp_in (nI k / nI 4) 16
  rw [pk_div (by omega) (by decide) (by decide)]
  exact vp_in_nI (by omega) (by decide)
theorem z_bytN {S : z_S} {d i : Int32} (hok : z_Ok S) (h : ¬ f_X_isByte S d i = 0) : ∃ (x k : Nat), x < 6 ∧ k < 64 ∧ d = nI x ∧ i = nI k ∧ (k : Int) < 4 * (S.1 2 0 x).toInt := by
  unfold f_X_isByte at h
  by_cases h0 : f_X_isDeposit d = 0
  · rw [if_pos h0] at h; exact absurd rfl h
  · rw [if_neg h0] at h
    by_cases h1 : i < 0
    · rw [if_pos h1] at h; exact absurd rfl h
    · rw [if_neg h1] at h
      by_cases h2 : S.1 2 0 d.toNatClampNeg * 4 ≤ i
      · rw [if_pos h2] at h; exact absurd rfl h
      · obtain ⟨x, hx, rfl⟩ := vp_in_of (z_dep h0) (by decide)
        obtain ⟨k, hk, rfl⟩ := nI_of h1
        rw [nI_clamp (by omega)] at h2
        have hb := hok.1 x hx
        obtain ⟨b, hb2, e⟩ := vp_in_of (x := S.1 2 0 x) (n := 17) (vp_in_iff.mpr ⟨hb.1, by omega⟩) (by decide)
        rw [e] at h2
        have h3 : ¬ nI b * nI 4 ≤ nI k := h2
        rw [pk_mul, nI_leI (by omega) hk] at h3
        refine ⟨x, k, hx, by omega, rfl, rfl, ?_⟩
        rw [e, nI_toInt (by omega)]
        omega
theorem z_byt {S : z_S} {d i : Int32} (hok : z_Ok S) (h : ¬ f_X_isByte S d i = 0) : vp_in (f_H_place d (i / 4)) 96 := by
  obtain ⟨x, k, hx, hk, rfl, rfl, -⟩ := z_bytN hok h
  refine z_plI (vp_in_nI hx (by decide)) ?_
  show vp_in (nI k / nI 4) 16
  rw [pk_div (by omega) (by decide) (by decide)]
  exact vp_in_nI (by omega) (by decide)
theorem ok_H_mend {S : z_S} {o : Nat} {x0 x1 x2 : Int32} (hok : z_Ok S) : z_Ok (g_H_mend S o x0 x1 x2) := hok.of rfl rfl rfl rfl rfl
theorem ok_A_take_15 {S : z_S} {o : Nat} {x0 : Int32} {x1 : Int64} (hok : z_Ok S) : z_Ok (g_A_take_15 S o x0 x1) := by
  unfold g_A_take_15
  split
  · exact hok.of rfl rfl rfl rfl rfl
  · exact hok.of rfl rfl rfl rfl rfl
theorem ok_A_take_18 {S : z_S} {o : Nat} {x0 : Int32} {x1 : Int64} (hok : z_Ok S) : z_Ok (g_A_take_18 S o x0 x1) := by
  unfold g_A_take_18
  split
  · exact hok.of rfl rfl rfl rfl rfl
  · exact hok.of rfl rfl rfl rfl rfl
theorem ok_R_add {S : z_S} {x0 x1 x2 : Int32} {x3 : Int64} (hok : z_Ok S) (hh : vp_in x2 3) : z_Ok (g_R_add S x0 x1 x2 x3) := by
  unfold g_R_add
  split
  · rename_i h
    refine ⟨hok.1, ?_, ?_, hok.2.2.2.1, hok.2.2.2.2⟩
    · rw [Int32.lt_iff_toInt_lt] at h
      have h3 : (24 : Int32).toInt = 24 := by decide
      obtain ⟨c, hc, e⟩ := vp_in_of (x := S.1 3 0 4) (n := 24) (vp_in_iff.mpr ⟨hok.2.1.1, by omega⟩) (by decide)
      show 0 ≤ (S.1 3 0 4 + 1).toInt ∧ (S.1 3 0 4 + 1).toInt ≤ 24
      have e2 : nI c + 1 = nI (c + 1) := nI_add c 1
      rw [e, e2, nI_toInt (by omega)]
      omega
    · intro k hk
      show vp_in ((z_sI (z_sI (z_sI S 4 0 _ x0) 5 0 _ x1) 6 0 _ x2).1 6 0 k) 3
      rw [z_rI]
      split
      · exact hh
      · exact hok.2.2.1 k hk
  · exact hok
theorem ok_P_begin {S : z_S} {o : Nat} {x0 x1 x2 : Int32} {x3 : Int64} {x4 : Int32} (hok : z_Ok S) (h0 : vp_in x0 513) (h1 : vp_in x1 6) (h2 : vp_in x2 8) : z_Ok (g_P_begin S o x0 x1 x2 x3 x4) := by
  refine ⟨hok.1, hok.2.1, hok.2.2.1, fun i hi => ?_, hok.2.2.2.2⟩
  have h := hok.2.2.2.1 i hi
  by_cases e : i = o
  · subst e
    simp [g_P_begin, g_A_forget_15, g_A_forget_18, z_rI, z_rIL, z_rLI, h0, h1, h2]
  · simp [g_P_begin, g_A_forget_15, g_A_forget_18, z_rI, z_rIL, z_rLI, e, h]
theorem ok_pc {S : z_S} {j : Nat} {v : Int32} (hok : z_Ok S) (h : S.1 0 0 6 < 512) : z_Ok (z_sI (z_sI S 0 0 6 (S.1 0 0 6 + 1)) 9 0 j v) := by
  refine ⟨hok.1, hok.2.1, hok.2.2.1, hok.2.2.2.1, ?_⟩
  have h2 := vp_in_iff.mp (z_pc1 hok h)
  exact ⟨h2.1, by have := h2.2; show (S.1 0 0 6 + 1).toInt ≤ 512; omega⟩
theorem z_it_inv {α : Type} {f : Nat → α → α} {P : α → Prop} (h : ∀ k x, P x → P (f k x)) : ∀ {n k : Nat} {x : α}, P x → P (z_it f k n x)
  | 0, _, _, hx => hx
  | n + 1, k, x, hx => z_it_inv h (n := n) (k := k + 1) (h k x hx)
theorem z_it_invB {α : Type} {f : Nat → α → α} {P : α → Prop} {K : Nat} (h : ∀ k x, k < K → P x → P (f k x)) : ∀ (n k : Nat) (x : α), k + n ≤ K → P x → P (z_it f k n x)
  | 0, _, _, _, hx => hx
  | n + 1, k, x, hk, hx => z_it_invB h n (k + 1) (f k x) (by omega) (h k x (by omega) hx)
theorem ok_R_remove {S : z_S} {k0 N : Nat} (hok : z_Ok S) (hc : S.1 3 0 4 = nI (N + 1)) (hk0 : k0 ≤ N) (hN : N < 24) : z_Ok (g_R_remove S k0 N) := by
  unfold g_R_remove
  refine z_it_invB (K := N) (P := z_Ok) ?_ _ _ _ (by omega) ?_
  · intro k T hk hT
    refine ⟨hT.1, hT.2.1, ?_, hT.2.2.2.1, hT.2.2.2.2⟩
    intro j hj
    have h1 := hT.2.2.1 (k + 1) (by omega)
    have h2 := hT.2.2.1 j hj
    show vp_in ((z_sI (z_sI (z_sI T 4 0 k _) 5 0 k _) 6 0 k (T.1 6 0 (k + 1))).1 6 0 j) 3
    rw [z_rI]
    split
    · exact h1
    · exact h2
  · refine ⟨hok.1, ?_, hok.2.2.1, hok.2.2.2.1, hok.2.2.2.2⟩
    show 0 ≤ (S.1 3 0 4 - 1).toInt ∧ (S.1 3 0 4 - 1).toInt ≤ 24
    rw [hc, z_pred, nI_toInt (by omega)]
    omega
end
section
abbrev rm_X_sendToAwaited : Room := { frames := 1, cells := 0, slots := 0, locals := 25 }
abbrev rm_X_answerAsk : Room := { frames := 3, cells := 0, slots := 0, locals := 72 }
abbrev rm_X_answerFetch : Room := { frames := 2, cells := 0, slots := 0, locals := 47 }
abbrev rm_X_finish : Room := { frames := 2, cells := 0, slots := 0, locals := 43 }
abbrev rm_X_areCopiesCurrent : Room := { frames := 2, cells := 0, slots := 0, locals := 47 }
abbrev rm_X_mendBlock : Room := { frames := 2, cells := 0, slots := 0, locals := 44 }
abbrev rm_X_decide : Room := { frames := 3, cells := 0, slots := 0, locals := 70 }
abbrev rm_X_takeSum : Room := { frames := 3, cells := 0, slots := 0, locals := 65 }
abbrev rm_X_takeCopy : Room := { frames := 4, cells := 0, slots := 0, locals := 91 }
abbrev rm_X_arrive : Room := { frames := 5, cells := 0, slots := 0, locals := 115 }
theorem dp_A_isComplete : y_A_isComplete.cls ≠ "java/lang/invoke/MethodHandle" ∧ y_A_isComplete.cls ≠ "java/lang/invoke/VarHandle" ∧ (parseMethodDescriptor y_A_isComplete.desc).map (fun d => d.parameters.length) = some 0 := by decide +kernel
theorem dp_R_add : y_R_add.cls ≠ "java/lang/invoke/MethodHandle" ∧ y_R_add.cls ≠ "java/lang/invoke/VarHandle" ∧ (parseMethodDescriptor y_R_add.desc).map (fun d => d.parameters.length) = some 4 := by decide +kernel
theorem dp_H_sumOfPart : y_H_sumOfPart.cls ≠ "java/lang/invoke/MethodHandle" ∧ y_H_sumOfPart.cls ≠ "java/lang/invoke/VarHandle" ∧ (parseMethodDescriptor y_H_sumOfPart.desc).map (fun d => d.parameters.length) = some 4 := by decide +kernel
theorem dp_H_bytesOfPart : y_H_bytesOfPart.cls ≠ "java/lang/invoke/MethodHandle" ∧ y_H_bytesOfPart.cls ≠ "java/lang/invoke/VarHandle" ∧ (parseMethodDescriptor y_H_bytesOfPart.desc).map (fun d => d.parameters.length) = some 2 := by decide +kernel
theorem z_o9 : 0 < z_n 9 := by decide
theorem dp_D_finishPart : y_D_finishPart.cls ≠ "java/lang/invoke/MethodHandle" ∧ y_D_finishPart.cls ≠ "java/lang/invoke/VarHandle" ∧ (parseMethodDescriptor y_D_finishPart.desc).map (fun d => d.parameters.length) = some 3 := by decide +kernel
theorem dp_X_parts : y_X_parts.cls ≠ "java/lang/invoke/MethodHandle" ∧ y_X_parts.cls ≠ "java/lang/invoke/VarHandle" ∧ (parseMethodDescriptor y_X_parts.desc).map (fun d => d.parameters.length) = some 0 := by decide +kernel
theorem dp_D_endIfAllDone : y_D_endIfAllDone.cls ≠ "java/lang/invoke/MethodHandle" ∧ y_D_endIfAllDone.cls ≠ "java/lang/invoke/VarHandle" ∧ (parseMethodDescriptor y_D_endIfAllDone.desc).map (fun d => d.parameters.length) = some 1 := by decide +kernel
theorem dp_H_mend : y_H_mend.cls ≠ "java/lang/invoke/MethodHandle" ∧ y_H_mend.cls ≠ "java/lang/invoke/VarHandle" ∧ (parseMethodDescriptor y_H_mend.desc).map (fun d => d.parameters.length) = some 3 := by decide +kernel
theorem z_in0_2 : vp_in (0 : Int32) 2 := by unfold vp_in; decide
theorem z_in1_2 : vp_in (1 : Int32) 2 := by unfold vp_in; decide
theorem dp_P_copiesAllDiffer : y_P_copiesAllDiffer.cls ≠ "java/lang/invoke/MethodHandle" ∧ y_P_copiesAllDiffer.cls ≠ "java/lang/invoke/VarHandle" ∧ (parseMethodDescriptor y_P_copiesAllDiffer.desc).map (fun d => d.parameters.length) = some 1 := by decide +kernel
theorem dp_X_allHousesOpen : y_X_allHousesOpen.cls ≠ "java/lang/invoke/MethodHandle" ∧ y_X_allHousesOpen.cls ≠ "java/lang/invoke/VarHandle" ∧ (parseMethodDescriptor y_X_allHousesOpen.desc).map (fun d => d.parameters.length) = some 0 := by decide +kernel
theorem dp_X_areCopiesCurrent : y_X_areCopiesCurrent.cls ≠ "java/lang/invoke/MethodHandle" ∧ y_X_areCopiesCurrent.cls ≠ "java/lang/invoke/VarHandle" ∧ (parseMethodDescriptor y_X_areCopiesCurrent.desc).map (fun d => d.parameters.length) = some 1 := by decide +kernel
theorem dp_X_mendBlock : y_X_mendBlock.cls ≠ "java/lang/invoke/MethodHandle" ∧ y_X_mendBlock.cls ≠ "java/lang/invoke/VarHandle" ∧ (parseMethodDescriptor y_X_mendBlock.desc).map (fun d => d.parameters.length) = some 2 := by decide +kernel
theorem dp_A_take : y_A_take.cls ≠ "java/lang/invoke/MethodHandle" ∧ y_A_take.cls ≠ "java/lang/invoke/VarHandle" ∧ (parseMethodDescriptor y_A_take.desc).map (fun d => d.parameters.length) = some 2 := by decide +kernel
theorem dp_A_areAlike : y_A_areAlike.cls ≠ "java/lang/invoke/MethodHandle" ∧ y_A_areAlike.cls ≠ "java/lang/invoke/VarHandle" ∧ (parseMethodDescriptor y_A_areAlike.desc).map (fun d => d.parameters.length) = some 0 := by decide +kernel
theorem dp_X_sendToAwaited : y_X_sendToAwaited.cls ≠ "java/lang/invoke/MethodHandle" ∧ y_X_sendToAwaited.cls ≠ "java/lang/invoke/VarHandle" ∧ (parseMethodDescriptor y_X_sendToAwaited.desc).map (fun d => d.parameters.length) = some 1 := by decide +kernel
theorem dp_X_finish : y_X_finish.cls ≠ "java/lang/invoke/MethodHandle" ∧ y_X_finish.cls ≠ "java/lang/invoke/VarHandle" ∧ (parseMethodDescriptor y_X_finish.desc).map (fun d => d.parameters.length) = some 2 := by decide +kernel
theorem dp_X_decide : y_X_decide.cls ≠ "java/lang/invoke/MethodHandle" ∧ y_X_decide.cls ≠ "java/lang/invoke/VarHandle" ∧ (parseMethodDescriptor y_X_decide.desc).map (fun d => d.parameters.length) = some 1 := by decide +kernel
theorem dp_X_answerAsk : y_X_answerAsk.cls ≠ "java/lang/invoke/MethodHandle" ∧ y_X_answerAsk.cls ≠ "java/lang/invoke/VarHandle" ∧ (parseMethodDescriptor y_X_answerAsk.desc).map (fun d => d.parameters.length) = some 2 := by decide +kernel
theorem dp_X_takeSum : y_X_takeSum.cls ≠ "java/lang/invoke/MethodHandle" ∧ y_X_takeSum.cls ≠ "java/lang/invoke/VarHandle" ∧ (parseMethodDescriptor y_X_takeSum.desc).map (fun d => d.parameters.length) = some 3 := by decide +kernel
theorem dp_X_answerFetch : y_X_answerFetch.cls ≠ "java/lang/invoke/MethodHandle" ∧ y_X_answerFetch.cls ≠ "java/lang/invoke/VarHandle" ∧ (parseMethodDescriptor y_X_answerFetch.desc).map (fun d => d.parameters.length) = some 2 := by decide +kernel
theorem dp_X_takeCopy : y_X_takeCopy.cls ≠ "java/lang/invoke/MethodHandle" ∧ y_X_takeCopy.cls ≠ "java/lang/invoke/VarHandle" ∧ (parseMethodDescriptor y_X_takeCopy.desc).map (fun d => d.parameters.length) = some 3 := by decide +kernel
section ZI_xmid
variable {D : va_G} {C : Nat → ClassId} {ad : Nat → Nat → Nat} {S : z_S}
variable {p : Program} {l : Launch} {e : Env} {R : Room} {s : State} {m : MethodId} {args : Array Value} {below : List Frame} {meth : Method} {c : Code} {H H0 : Heap} {locs : List Loc} {cells slots : Nat} {Q : State → Prop}
variable {cc : ByteArray} {nL pc : Nat} {ls : Array Slot} {rest : List Value}
theorem gf_X_156_14 {o : Nat} (hF : z_F D C ad p m c cc nL s args R_X) (hG : z_G D C ad H0 S H locs) (ho : o < z_n 14) (hdg : decode cc pc = .ok (.getfield 156, 3)) (kk : W p l e R s m args below meth c H locs cells slots Q (F0 m (pc + 3) ls (.ref (ad 15 o) :: rest))) : W p l e R s m args below meth c H locs cells slots Q (F0 m pc ls (.ref (ad 14 o) :: rest)) :=
  z_get hF hG ho (z_c14 C ad _ _ o) rfl wl_P 5 (by decide) wf_X_156 rfl rfl hdg kk
theorem kc_X_160_15 {o : Nat}  {r : Int32} {S2 : z_S} (hF : z_F D C ad p m c cc nL s args R_X) (hM : z_M l y_A_isComplete b_A_isComplete 1 (some .boolean) rm_A_isComplete D C ad [.ref (ad 15 o)] S (z_Qi D C ad r S2)) (hG : z_G D C ad H0 S H locs) (ho : o < z_n 15) (hR : rm_A_isComplete.frames + 1 ≤ R.frames ∧ 8 + (1 + 11) + rm_A_isComplete.locals ≤ R.locals) (hcs : cells ≤ R.cells ∧ slots ≤ R.slots) (hsz : ls.size = nL) (hcat : (rest.map fun v => v.category).sum ≤ 8) (hdg : decode cc pc = .ok (.invokevirtual 160, 3)) (kk : ∀ (H1 : Heap) (locs1 : List Loc), z_G D C ad H0 S2 H1 locs1 → W p l e R s m args below meth c H1 locs1 cells slots Q (F0 m (pc + 3) ls (.int r :: rest))) : W p l e R s m args below meth c H locs cells slots Q (F0 m pc ls (.ref (ad 15 o) :: rest)) :=
  z_ci (z_runV (As := []) hF hM hG ho (z_c15 C ad _ _ o) rfl wm_X_160 wi_A_isComplete ws_A_isComplete wn_A wc_A_isComplete dp_A_isComplete rfl rfl hR hcs hsz hcat rfl hdg) hG kk
theorem gf_X_168_15 {o : Nat} (hF : z_F D C ad p m c cc nL s args R_X) (hG : z_G D C ad H0 S H locs) (ho : o < z_n 15) (hdg : decode cc pc = .ok (.getfield 168, 3)) (kk : W p l e R s m args below meth c H locs cells slots Q (F0 m (pc + 3) ls (.ref (ad 16 o) :: rest))) : W p l e R s m args below meth c H locs cells slots Q (F0 m pc ls (.ref (ad 15 o) :: rest)) :=
  z_get hF hG ho (z_c15 C ad _ _ o) rfl wl_A 0 (by decide) wf_X_168 rfl rfl hdg kk
theorem gf_X_22_0 (hF : z_F D C ad p m c cc nL s args R_X) (hG : z_G D C ad H0 S H locs) (hdg : decode cc pc = .ok (.getfield 22, 3)) (kk : W p l e R s m args below meth c H locs cells slots Q (F0 m (pc + 3) ls (.ref (ad 3 0) :: rest))) : W p l e R s m args below meth c H locs cells slots Q (F0 m pc ls (.ref (ad 0 0) :: rest)) :=
  z_get hF hG z_o0 (z_c0 C ad _ _ 0) rfl wl_X 2 (by decide) wf_X_22 rfl rfl hdg kk
theorem kc_X_132 {x0 : Int32} {x1 : Int32} {x2 : Int32} {x3 : Int64} {S2 : z_S} (hF : z_F D C ad p m c cc nL s args R_X) (hM : z_M l y_R_add b_R_add 6 none rm_R_add D C ad [.ref (ad 3 0), .int x0, .int x1, .int x2, .long x3] S (z_Qv D C ad S2)) (hG : z_G D C ad H0 S H locs) (hR : rm_R_add.frames + 1 ≤ R.frames ∧ 8 + (6 + 11) + rm_R_add.locals ≤ R.locals) (hcs : cells ≤ R.cells ∧ slots ≤ R.slots) (hsz : ls.size = nL) (hcat : (rest.map fun v => v.category).sum ≤ 8) (hdg : decode cc pc = .ok (.invokevirtual 132, 3)) (kk : ∀ (H1 : Heap) (locs1 : List Loc), z_G D C ad H0 S2 H1 locs1 → W p l e R s m args below meth c H1 locs1 cells slots Q (F0 m (pc + 3) ls rest)) : W p l e R s m args below meth c H locs cells slots Q (F0 m pc ls (.long x3 :: .int x2 :: .int x1 :: .int x0 :: .ref (ad 3 0) :: rest)) :=
  z_cv (z_runV (As := [.int x0, .int x1, .int x2, .long x3]) hF hM hG z_o3 (z_c3 C ad _ _ 0) rfl wm_X_132 wi_R_add ws_R_add wn_R wc_R_add dp_R_add rfl rfl hR hcs hsz hcat rfl hdg) hG kk
theorem gf_X_165_14 {o : Nat} (hF : z_F D C ad p m c cc nL s args R_X) (hG : z_G D C ad H0 S H locs) (ho : o < z_n 14) (hdg : decode cc pc = .ok (.getfield 165, 3)) (kk : W p l e R s m args below meth c H locs cells slots Q (F0 m (pc + 3) ls (.ref (ad 18 o) :: rest))) : W p l e R s m args below meth c H locs cells slots Q (F0 m pc ls (.ref (ad 14 o) :: rest)) :=
  z_get hF hG ho (z_c14 C ad _ _ o) rfl wl_P 6 (by decide) wf_X_165 rfl rfl hdg kk
theorem gf_X_168_18 {o : Nat} (hF : z_F D C ad p m c cc nL s args R_X) (hG : z_G D C ad H0 S H locs) (ho : o < z_n 18) (hdg : decode cc pc = .ok (.getfield 168, 3)) (kk : W p l e R s m args below meth c H locs cells slots Q (F0 m (pc + 3) ls (.ref (ad 19 o) :: rest))) : W p l e R s m args below meth c H locs cells slots Q (F0 m pc ls (.ref (ad 18 o) :: rest)) :=
  z_get hF hG ho (z_c18 C ad _ _ o) rfl wl_A 0 (by decide) wf_X_168 rfl rfl hdg kk
theorem gf_X_185_14 {o : Nat} (hF : z_F D C ad p m c cc nL s args R_X) (hG : z_G D C ad H0 S H locs) (ho : o < z_n 14) {v : Int32} (hv : S.1 14 o 1 = v) (hdg : decode cc pc = .ok (.getfield 185, 3)) (kk : W p l e R s m args below meth c H locs cells slots Q (F0 m (pc + 3) ls (.int v :: rest))) : W p l e R s m args below meth c H locs cells slots Q (F0 m pc ls (.ref (ad 14 o) :: rest)) :=
  z_get hF hG ho (z_c14 C ad _ _ o) rfl wl_P 1 (by decide) wf_X_185 rfl (by subst hv; rfl) hdg kk
theorem gf_X_188_14 {o : Nat} (hF : z_F D C ad p m c cc nL s args R_X) (hG : z_G D C ad H0 S H locs) (ho : o < z_n 14) {v : Int32} (hv : S.1 14 o 2 = v) (hdg : decode cc pc = .ok (.getfield 188, 3)) (kk : W p l e R s m args below meth c H locs cells slots Q (F0 m (pc + 3) ls (.int v :: rest))) : W p l e R s m args below meth c H locs cells slots Q (F0 m pc ls (.ref (ad 14 o) :: rest)) :=
  z_get hF hG ho (z_c14 C ad _ _ o) rfl wl_P 2 (by decide) wf_X_188 rfl (by subst hv; rfl) hdg kk
theorem gf_X_191_14 {o : Nat} (hF : z_F D C ad p m c cc nL s args R_X) (hG : z_G D C ad H0 S H locs) (ho : o < z_n 14) {v : Int64} (hv : S.2 14 o 3 = v) (hdg : decode cc pc = .ok (.getfield 191, 3)) (kk : W p l e R s m args below meth c H locs cells slots Q (F0 m (pc + 3) ls (.long v :: rest))) : W p l e R s m args below meth c H locs cells slots Q (F0 m pc ls (.ref (ad 14 o) :: rest)) :=
  z_get hF hG ho (z_c14 C ad _ _ o) rfl wl_P 3 (by decide) wf_X_191 rfl (by subst hv; rfl) hdg kk
theorem kc_X_80 {o : Nat} {x0 : Int32} {x1 : Int32} {x2 : Int32} {x3 : Int64} {r : Int64} {S2 : z_S} (hF : z_F D C ad p m c cc nL s args R_X) (hM : z_M l y_H_sumOfPart b_H_sumOfPart 10 (some .long) rm_H_sumOfPart D C ad [.ref (ad 12 o), .int x0, .int x1, .int x2, .long x3] S (z_Ql D C ad r S2)) (hG : z_G D C ad H0 S H locs) (ho : o < z_n 12) (hR : rm_H_sumOfPart.frames + 1 ≤ R.frames ∧ 8 + (10 + 11) + rm_H_sumOfPart.locals ≤ R.locals) (hcs : cells ≤ R.cells ∧ slots ≤ R.slots) (hsz : ls.size = nL) (hcat : (rest.map fun v => v.category).sum ≤ 8) (hdg : decode cc pc = .ok (.invokevirtual 80, 3)) (kk : ∀ (H1 : Heap) (locs1 : List Loc), z_G D C ad H0 S2 H1 locs1 → W p l e R s m args below meth c H1 locs1 cells slots Q (F0 m (pc + 3) ls (.long r :: rest))) : W p l e R s m args below meth c H locs cells slots Q (F0 m pc ls (.long x3 :: .int x2 :: .int x1 :: .int x0 :: .ref (ad 12 o) :: rest)) :=
  z_cj (z_runV (As := [.int x0, .int x1, .int x2, .long x3]) hF hM hG ho (z_c12 C ad _ _ o) rfl wm_X_80 wi_H_sumOfPart ws_H_sumOfPart wn_H wc_H_sumOfPart dp_H_sumOfPart rfl rfl hR hcs hsz hcat rfl hdg) hG kk
theorem kc_X_195 {o : Nat} {x0 : Int32} {x1 : Int32} {r : Int64} {S2 : z_S} (hF : z_F D C ad p m c cc nL s args R_X) (hM : z_M l y_H_bytesOfPart b_H_bytesOfPart 7 (some .long) rm_H_bytesOfPart D C ad [.ref (ad 12 o), .int x0, .int x1] S (z_Ql D C ad r S2)) (hG : z_G D C ad H0 S H locs) (ho : o < z_n 12) (hR : rm_H_bytesOfPart.frames + 1 ≤ R.frames ∧ 8 + (7 + 11) + rm_H_bytesOfPart.locals ≤ R.locals) (hcs : cells ≤ R.cells ∧ slots ≤ R.slots) (hsz : ls.size = nL) (hcat : (rest.map fun v => v.category).sum ≤ 8) (hdg : decode cc pc = .ok (.invokevirtual 195, 3)) (kk : ∀ (H1 : Heap) (locs1 : List Loc), z_G D C ad H0 S2 H1 locs1 → W p l e R s m args below meth c H1 locs1 cells slots Q (F0 m (pc + 3) ls (.long r :: rest))) : W p l e R s m args below meth c H locs cells slots Q (F0 m pc ls (.int x1 :: .int x0 :: .ref (ad 12 o) :: rest)) :=
  z_cj (z_runV (As := [.int x0, .int x1]) hF hM hG ho (z_c12 C ad _ _ o) rfl wm_X_195 wi_H_bytesOfPart ws_H_bytesOfPart wn_H wc_H_bytesOfPart dp_H_bytesOfPart rfl rfl hR hcs hsz hcat rfl hdg) hG kk
theorem gf_X_32_0 (hF : z_F D C ad p m c cc nL s args R_X) (hG : z_G D C ad H0 S H locs) (hdg : decode cc pc = .ok (.getfield 32, 3)) (kk : W p l e R s m args below meth c H locs cells slots Q (F0 m (pc + 3) ls (.ref (ad 9 0) :: rest))) : W p l e R s m args below meth c H locs cells slots Q (F0 m pc ls (.ref (ad 0 0) :: rest)) :=
  z_get hF hG z_o0 (z_c0 C ad _ _ 0) rfl wl_X 4 (by decide) wf_X_32 rfl rfl hdg kk
theorem pf_X_155_14 {o : Nat} {v : Int32} (hF : z_F D C ad p m c cc nL s args R_X) (hG : z_G D C ad H0 S H locs) (ho : o < z_n 14) (hdg : decode cc pc = .ok (.putfield 155, 3)) (kk : ∀ (H1 : Heap) (locs1 : List Loc), z_G D C ad H0 (z_sI S 14 o 0 v) H1 locs1 → W p l e R s m args below meth c H1 locs1 cells slots Q (F0 m (pc + 3) ls rest)) : W p l e R s m args below meth c H locs cells slots Q (F0 m pc ls (.int v :: .ref (ad 14 o) :: rest)) :=
  z_put (S' := z_sI S 14 o 0 v) hF hG ho (z_c14 C ad _ _ o) rfl wl_P t_P t_P_ok n_P 0 (by decide) wf_X_155 rfl rfl (ty := .int) (by decide +kernel) rfl rfl (Nat.le_of_ble_eq_true rfl) (fun a2 o2 hne => ⟨z_sI_ne S 14 o 0 v hne, rfl⟩) (by rw [z_sI_at]; rfl) hdg kk
theorem gf_X_38_0 (hF : z_F D C ad p m c cc nL s args R_X) (hG : z_G D C ad H0 S H locs) (hdg : decode cc pc = .ok (.getfield 38, 3)) (kk : W p l e R s m args below meth c H locs cells slots Q (F0 m (pc + 3) ls (.ref (ad 10 0) :: rest))) : W p l e R s m args below meth c H locs cells slots Q (F0 m pc ls (.ref (ad 0 0) :: rest)) :=
  z_get hF hG z_o0 (z_c0 C ad _ _ 0) rfl wl_X 5 (by decide) wf_X_38 rfl rfl hdg kk
theorem gf_X_228_14 {o : Nat} (hF : z_F D C ad p m c cc nL s args R_X) (hG : z_G D C ad H0 S H locs) (ho : o < z_n 14) {v : Int32} (hv : S.1 14 o 4 = v) (hdg : decode cc pc = .ok (.getfield 228, 3)) (kk : W p l e R s m args below meth c H locs cells slots Q (F0 m (pc + 3) ls (.int v :: rest))) : W p l e R s m args below meth c H locs cells slots Q (F0 m pc ls (.ref (ad 14 o) :: rest)) :=
  z_get hF hG ho (z_c14 C ad _ _ o) rfl wl_P 4 (by decide) wf_X_228 rfl (by subst hv; rfl) hdg kk
theorem kc_X_231 {x0 : Int32} {x1 : Int32} {x2 : Int32} {S2 : z_S} (hF : z_F D C ad p m c cc nL s args R_X) (hM : z_M l y_D_finishPart b_D_finishPart 5 none rm_D_finishPart D C ad [.ref (ad 10 0), .int x0, .int x1, .int x2] S (z_Qv D C ad S2)) (hG : z_G D C ad H0 S H locs) (hR : rm_D_finishPart.frames + 1 ≤ R.frames ∧ 8 + (5 + 11) + rm_D_finishPart.locals ≤ R.locals) (hcs : cells ≤ R.cells ∧ slots ≤ R.slots) (hsz : ls.size = nL) (hcat : (rest.map fun v => v.category).sum ≤ 8) (hdg : decode cc pc = .ok (.invokevirtual 231, 3)) (kk : ∀ (H1 : Heap) (locs1 : List Loc), z_G D C ad H0 S2 H1 locs1 → W p l e R s m args below meth c H1 locs1 cells slots Q (F0 m (pc + 3) ls rest)) : W p l e R s m args below meth c H locs cells slots Q (F0 m pc ls (.int x2 :: .int x1 :: .int x0 :: .ref (ad 10 0) :: rest)) :=
  z_cv (z_runV (As := [.int x0, .int x1, .int x2]) hF hM hG z_o10 (z_c10 C ad _ _ 0) rfl wm_X_231 wi_D_finishPart ws_D_finishPart wn_D wc_D_finishPart dp_D_finishPart rfl rfl hR hcs hsz hcat rfl hdg) hG kk
theorem kc_X_234  {r : Int32} {S2 : z_S} (hF : z_F D C ad p m c cc nL s args R_X) (hM : z_M l y_X_parts b_X_parts 3 (some .int) rm_X_parts D C ad [.ref (ad 0 0)] S (z_Qi D C ad r S2)) (hG : z_G D C ad H0 S H locs) (hR : rm_X_parts.frames + 1 ≤ R.frames ∧ 8 + (3 + 11) + rm_X_parts.locals ≤ R.locals) (hcs : cells ≤ R.cells ∧ slots ≤ R.slots) (hsz : ls.size = nL) (hcat : (rest.map fun v => v.category).sum ≤ 8) (hdg : decode cc pc = .ok (.invokevirtual 234, 3)) (kk : ∀ (H1 : Heap) (locs1 : List Loc), z_G D C ad H0 S2 H1 locs1 → W p l e R s m args below meth c H1 locs1 cells slots Q (F0 m (pc + 3) ls (.int r :: rest))) : W p l e R s m args below meth c H locs cells slots Q (F0 m pc ls (.ref (ad 0 0) :: rest)) :=
  z_ci (z_runV (As := []) hF hM hG z_o0 (z_c0 C ad _ _ 0) rfl wm_X_234 wi_X_parts ws_X_parts wn_X wc_X_parts dp_X_parts rfl rfl hR hcs hsz hcat rfl hdg) hG kk
theorem kc_X_238 {x0 : Int32} {S2 : z_S} (hF : z_F D C ad p m c cc nL s args R_X) (hM : z_M l y_D_endIfAllDone b_D_endIfAllDone 2 none rm_D_endIfAllDone D C ad [.ref (ad 10 0), .int x0] S (z_Qv D C ad S2)) (hG : z_G D C ad H0 S H locs) (hR : rm_D_endIfAllDone.frames + 1 ≤ R.frames ∧ 8 + (2 + 11) + rm_D_endIfAllDone.locals ≤ R.locals) (hcs : cells ≤ R.cells ∧ slots ≤ R.slots) (hsz : ls.size = nL) (hcat : (rest.map fun v => v.category).sum ≤ 8) (hdg : decode cc pc = .ok (.invokevirtual 238, 3)) (kk : ∀ (H1 : Heap) (locs1 : List Loc), z_G D C ad H0 S2 H1 locs1 → W p l e R s m args below meth c H1 locs1 cells slots Q (F0 m (pc + 3) ls rest)) : W p l e R s m args below meth c H locs cells slots Q (F0 m pc ls (.int x0 :: .ref (ad 10 0) :: rest)) :=
  z_cv (z_runV (As := [.int x0]) hF hM hG z_o10 (z_c10 C ad _ _ 0) rfl wm_X_238 wi_D_endIfAllDone ws_D_endIfAllDone wn_D wc_D_endIfAllDone dp_D_endIfAllDone rfl rfl hR hcs hsz hcat rfl hdg) hG kk
theorem gf_X_46_0 (hF : z_F D C ad p m c cc nL s args R_X) (hG : z_G D C ad H0 S H locs) {v : Int32} (hv : S.1 0 0 7 = v) (hdg : decode cc pc = .ok (.getfield 46, 3)) (kk : W p l e R s m args below meth c H locs cells slots Q (F0 m (pc + 3) ls (.int v :: rest))) : W p l e R s m args below meth c H locs cells slots Q (F0 m pc ls (.ref (ad 0 0) :: rest)) :=
  z_get hF hG z_o0 (z_c0 C ad _ _ 0) rfl wl_X 7 (by decide) wf_X_46 rfl (by subst hv; rfl) hdg kk
theorem pf_X_46_0 {v : Int32} (hF : z_F D C ad p m c cc nL s args R_X) (hG : z_G D C ad H0 S H locs) (hdg : decode cc pc = .ok (.putfield 46, 3)) (kk : ∀ (H1 : Heap) (locs1 : List Loc), z_G D C ad H0 (z_sI S 0 0 7 v) H1 locs1 → W p l e R s m args below meth c H1 locs1 cells slots Q (F0 m (pc + 3) ls rest)) : W p l e R s m args below meth c H locs cells slots Q (F0 m pc ls (.int v :: .ref (ad 0 0) :: rest)) :=
  z_put (S' := z_sI S 0 0 7 v) hF hG z_o0 (z_c0 C ad _ _ 0) rfl wl_X t_X t_X_ok n_X 7 (by decide) wf_X_46 rfl rfl (ty := .int) (by decide +kernel) rfl rfl (Nat.le_of_ble_eq_true rfl) (fun a2 o2 hne => ⟨z_sI_ne S 0 0 7 v hne, rfl⟩) (by rw [z_sI_at]; rfl) hdg kk
theorem gf_X_219_18 {o : Nat} (hF : z_F D C ad p m c cc nL s args R_X) (hG : z_G D C ad H0 S H locs) (ho : o < z_n 18) (hdg : decode cc pc = .ok (.getfield 219, 3)) (kk : W p l e R s m args below meth c H locs cells slots Q (F0 m (pc + 3) ls (.ref (ad 20 o) :: rest))) : W p l e R s m args below meth c H locs cells slots Q (F0 m pc ls (.ref (ad 18 o) :: rest)) :=
  z_get hF hG ho (z_c18 C ad _ _ o) rfl wl_A 1 (by decide) wf_X_219 rfl rfl hdg kk
theorem kc_X_222 {o : Nat} {x0 : Int32} {x1 : Int32} {r : Int32} {S2 : z_S} (hF : z_F D C ad p m c cc nL s args R_X) (hM : z_M l y_P_copiedBlock b_P_copiedBlock 3 (some .int) rm_P_copiedBlock D C ad [.ref (ad 14 o), .int x0, .int x1] S (z_Qi D C ad r S2)) (hG : z_G D C ad H0 S H locs) (ho : o < z_n 14) (hR : rm_P_copiedBlock.frames + 1 ≤ R.frames ∧ 8 + (3 + 11) + rm_P_copiedBlock.locals ≤ R.locals) (hcs : cells ≤ R.cells ∧ slots ≤ R.slots) (hsz : ls.size = nL) (hcat : (rest.map fun v => v.category).sum ≤ 8) (hdg : decode cc pc = .ok (.invokevirtual 222, 3)) (kk : ∀ (H1 : Heap) (locs1 : List Loc), z_G D C ad H0 S2 H1 locs1 → W p l e R s m args below meth c H1 locs1 cells slots Q (F0 m (pc + 3) ls (.int r :: rest))) : W p l e R s m args below meth c H locs cells slots Q (F0 m pc ls (.int x1 :: .int x0 :: .ref (ad 14 o) :: rest)) :=
  z_ci (z_runV (As := [.int x0, .int x1]) hF hM hG ho (z_c14 C ad _ _ o) rfl wm_X_222 wi_P_copiedBlock ws_P_copiedBlock wn_P wc_P_copiedBlock dp_P_copiedBlock rfl rfl hR hcs hsz hcat rfl hdg) hG kk
theorem kc_X_225 {o : Nat} {x0 : Int32} {x1 : Int32} {x2 : Int32} {S2 : z_S} (hF : z_F D C ad p m c cc nL s args R_X) (hM : z_M l y_H_mend b_H_mend 4 none rm_H_mend D C ad [.ref (ad 12 o), .int x0, .int x1, .int x2] S (z_Qv D C ad S2)) (hG : z_G D C ad H0 S H locs) (ho : o < z_n 12) (hR : rm_H_mend.frames + 1 ≤ R.frames ∧ 8 + (4 + 11) + rm_H_mend.locals ≤ R.locals) (hcs : cells ≤ R.cells ∧ slots ≤ R.slots) (hsz : ls.size = nL) (hcat : (rest.map fun v => v.category).sum ≤ 8) (hdg : decode cc pc = .ok (.invokevirtual 225, 3)) (kk : ∀ (H1 : Heap) (locs1 : List Loc), z_G D C ad H0 S2 H1 locs1 → W p l e R s m args below meth c H1 locs1 cells slots Q (F0 m (pc + 3) ls rest)) : W p l e R s m args below meth c H locs cells slots Q (F0 m pc ls (.int x2 :: .int x1 :: .int x0 :: .ref (ad 12 o) :: rest)) :=
  z_cv (z_runV (As := [.int x0, .int x1, .int x2]) hF hM hG ho (z_c12 C ad _ _ o) rfl wm_X_225 wi_H_mend ws_H_mend wn_H wc_H_mend dp_H_mend rfl rfl hR hcs hsz hcat rfl hdg) hG kk
theorem kc_X_209 {o : Nat} {x0 : Int32} {r : Int32} {S2 : z_S} (hF : z_F D C ad p m c cc nL s args R_X) (hM : z_M l y_P_copiesAllDiffer b_P_copiesAllDiffer 5 (some .boolean) rm_P_copiesAllDiffer D C ad [.ref (ad 14 o), .int x0] S (z_Qi D C ad r S2)) (hG : z_G D C ad H0 S H locs) (ho : o < z_n 14) (hR : rm_P_copiesAllDiffer.frames + 1 ≤ R.frames ∧ 8 + (5 + 11) + rm_P_copiesAllDiffer.locals ≤ R.locals) (hcs : cells ≤ R.cells ∧ slots ≤ R.slots) (hsz : ls.size = nL) (hcat : (rest.map fun v => v.category).sum ≤ 8) (hdg : decode cc pc = .ok (.invokevirtual 209, 3)) (kk : ∀ (H1 : Heap) (locs1 : List Loc), z_G D C ad H0 S2 H1 locs1 → W p l e R s m args below meth c H1 locs1 cells slots Q (F0 m (pc + 3) ls (.int r :: rest))) : W p l e R s m args below meth c H locs cells slots Q (F0 m pc ls (.int x0 :: .ref (ad 14 o) :: rest)) :=
  z_ci (z_runV (As := [.int x0]) hF hM hG ho (z_c14 C ad _ _ o) rfl wm_X_209 wi_P_copiesAllDiffer ws_P_copiesAllDiffer wn_P wc_P_copiesAllDiffer dp_P_copiesAllDiffer rfl rfl hR hcs hsz hcat rfl hdg) hG kk
theorem kc_X_55  {r : Int32} {S2 : z_S} (hF : z_F D C ad p m c cc nL s args R_X) (hM : z_M l y_X_allHousesOpen b_X_allHousesOpen 2 (some .boolean) rm_X_allHousesOpen D C ad [.ref (ad 0 0)] S (z_Qi D C ad r S2)) (hG : z_G D C ad H0 S H locs) (hR : rm_X_allHousesOpen.frames + 1 ≤ R.frames ∧ 8 + (2 + 11) + rm_X_allHousesOpen.locals ≤ R.locals) (hcs : cells ≤ R.cells ∧ slots ≤ R.slots) (hsz : ls.size = nL) (hcat : (rest.map fun v => v.category).sum ≤ 8) (hdg : decode cc pc = .ok (.invokevirtual 55, 3)) (kk : ∀ (H1 : Heap) (locs1 : List Loc), z_G D C ad H0 S2 H1 locs1 → W p l e R s m args below meth c H1 locs1 cells slots Q (F0 m (pc + 3) ls (.int r :: rest))) : W p l e R s m args below meth c H locs cells slots Q (F0 m pc ls (.ref (ad 0 0) :: rest)) :=
  z_ci (z_runV (As := []) hF hM hG z_o0 (z_c0 C ad _ _ 0) rfl wm_X_55 wi_X_allHousesOpen ws_X_allHousesOpen wn_X wc_X_allHousesOpen dp_X_allHousesOpen rfl rfl hR hcs hsz hcat rfl hdg) hG kk
theorem kc_X_212 {x0 : Nat} {r : Int32} {S2 : z_S} (hF : z_F D C ad p m c cc nL s args R_X) (hM : z_M l y_X_areCopiesCurrent b_X_areCopiesCurrent 3 (some .boolean) rm_X_areCopiesCurrent D C ad [.ref (ad 0 0), .ref (ad 14 x0)] S (z_Qi D C ad r S2)) (hG : z_G D C ad H0 S H locs) (hR : rm_X_areCopiesCurrent.frames + 1 ≤ R.frames ∧ 8 + (3 + 11) + rm_X_areCopiesCurrent.locals ≤ R.locals) (hcs : cells ≤ R.cells ∧ slots ≤ R.slots) (hsz : ls.size = nL) (hcat : (rest.map fun v => v.category).sum ≤ 8) (hdg : decode cc pc = .ok (.invokevirtual 212, 3)) (kk : ∀ (H1 : Heap) (locs1 : List Loc), z_G D C ad H0 S2 H1 locs1 → W p l e R s m args below meth c H1 locs1 cells slots Q (F0 m (pc + 3) ls (.int r :: rest))) : W p l e R s m args below meth c H locs cells slots Q (F0 m pc ls (.ref (ad 14 x0) :: .ref (ad 0 0) :: rest)) :=
  z_ci (z_runV (As := [.ref (ad 14 x0)]) hF hM hG z_o0 (z_c0 C ad _ _ 0) rfl wm_X_212 wi_X_areCopiesCurrent ws_X_areCopiesCurrent wn_X wc_X_areCopiesCurrent dp_X_areCopiesCurrent rfl rfl hR hcs hsz hcat rfl hdg) hG kk
theorem kc_X_216 {x0 : Nat} {x1 : Int32} {S2 : z_S} (hF : z_F D C ad p m c cc nL s args R_X) (hM : z_M l y_X_mendBlock b_X_mendBlock 7 none rm_X_mendBlock D C ad [.ref (ad 0 0), .ref (ad 14 x0), .int x1] S (z_Qv D C ad S2)) (hG : z_G D C ad H0 S H locs) (hR : rm_X_mendBlock.frames + 1 ≤ R.frames ∧ 8 + (7 + 11) + rm_X_mendBlock.locals ≤ R.locals) (hcs : cells ≤ R.cells ∧ slots ≤ R.slots) (hsz : ls.size = nL) (hcat : (rest.map fun v => v.category).sum ≤ 8) (hdg : decode cc pc = .ok (.invokevirtual 216, 3)) (kk : ∀ (H1 : Heap) (locs1 : List Loc), z_G D C ad H0 S2 H1 locs1 → W p l e R s m args below meth c H1 locs1 cells slots Q (F0 m (pc + 3) ls rest)) : W p l e R s m args below meth c H locs cells slots Q (F0 m pc ls (.int x1 :: .ref (ad 14 x0) :: .ref (ad 0 0) :: rest)) :=
  z_cv (z_runV (As := [.ref (ad 14 x0), .int x1]) hF hM hG z_o0 (z_c0 C ad _ _ 0) rfl wm_X_216 wi_X_mendBlock ws_X_mendBlock wn_X wc_X_mendBlock dp_X_mendBlock rfl rfl hR hcs hsz hcat rfl hdg) hG kk
theorem kc_X_199_15 {o : Nat} {x0 : Int32} {x1 : Int64} {r : Int32} {S2 : z_S} (hF : z_F D C ad p m c cc nL s args R_X) (hM : z_M l y_A_take b_A_take 4 (some .boolean) rm_A_take D C ad [.ref (ad 15 o), .int x0, .long x1] S (z_Qi D C ad r S2)) (hG : z_G D C ad H0 S H locs) (ho : o < z_n 15) (hR : rm_A_take.frames + 1 ≤ R.frames ∧ 8 + (4 + 11) + rm_A_take.locals ≤ R.locals) (hcs : cells ≤ R.cells ∧ slots ≤ R.slots) (hsz : ls.size = nL) (hcat : (rest.map fun v => v.category).sum ≤ 8) (hdg : decode cc pc = .ok (.invokevirtual 199, 3)) (kk : ∀ (H1 : Heap) (locs1 : List Loc), z_G D C ad H0 S2 H1 locs1 → W p l e R s m args below meth c H1 locs1 cells slots Q (F0 m (pc + 3) ls (.int r :: rest))) : W p l e R s m args below meth c H locs cells slots Q (F0 m pc ls (.long x1 :: .int x0 :: .ref (ad 15 o) :: rest)) :=
  z_ci (z_runV (As := [.int x0, .long x1]) hF hM hG ho (z_c15 C ad _ _ o) rfl wm_X_199 wi_A_take ws_A_take wn_A wc_A_take dp_A_take rfl rfl hR hcs hsz hcat rfl hdg) hG kk
theorem kc_X_203_15 {o : Nat}  {r : Int32} {S2 : z_S} (hF : z_F D C ad p m c cc nL s args R_X) (hM : z_M l y_A_areAlike b_A_areAlike 1 (some .boolean) rm_A_areAlike D C ad [.ref (ad 15 o)] S (z_Qi D C ad r S2)) (hG : z_G D C ad H0 S H locs) (ho : o < z_n 15) (hR : rm_A_areAlike.frames + 1 ≤ R.frames ∧ 8 + (1 + 11) + rm_A_areAlike.locals ≤ R.locals) (hcs : cells ≤ R.cells ∧ slots ≤ R.slots) (hsz : ls.size = nL) (hcat : (rest.map fun v => v.category).sum ≤ 8) (hdg : decode cc pc = .ok (.invokevirtual 203, 3)) (kk : ∀ (H1 : Heap) (locs1 : List Loc), z_G D C ad H0 S2 H1 locs1 → W p l e R s m args below meth c H1 locs1 cells slots Q (F0 m (pc + 3) ls (.int r :: rest))) : W p l e R s m args below meth c H locs cells slots Q (F0 m pc ls (.ref (ad 15 o) :: rest)) :=
  z_ci (z_runV (As := []) hF hM hG ho (z_c15 C ad _ _ o) rfl wm_X_203 wi_A_areAlike ws_A_areAlike wn_A wc_A_areAlike dp_A_areAlike rfl rfl hR hcs hsz hcat rfl hdg) hG kk
theorem kc_X_95 {x0 : Nat} {r : Int32} {S2 : z_S} (hF : z_F D C ad p m c cc nL s args R_X) (hM : z_M l y_X_sendToAwaited b_X_sendToAwaited 7 (some .int) rm_X_sendToAwaited D C ad [.ref (ad 0 0), .ref (ad 14 x0)] S (z_Qi D C ad r S2)) (hG : z_G D C ad H0 S H locs) (hR : rm_X_sendToAwaited.frames + 1 ≤ R.frames ∧ 8 + (7 + 11) + rm_X_sendToAwaited.locals ≤ R.locals) (hcs : cells ≤ R.cells ∧ slots ≤ R.slots) (hsz : ls.size = nL) (hcat : (rest.map fun v => v.category).sum ≤ 8) (hdg : decode cc pc = .ok (.invokevirtual 95, 3)) (kk : ∀ (H1 : Heap) (locs1 : List Loc), z_G D C ad H0 S2 H1 locs1 → W p l e R s m args below meth c H1 locs1 cells slots Q (F0 m (pc + 3) ls (.int r :: rest))) : W p l e R s m args below meth c H locs cells slots Q (F0 m pc ls (.ref (ad 14 x0) :: .ref (ad 0 0) :: rest)) :=
  z_ci (z_runV (As := [.ref (ad 14 x0)]) hF hM hG z_o0 (z_c0 C ad _ _ 0) rfl wm_X_95 wi_X_sendToAwaited ws_X_sendToAwaited wn_X wc_X_sendToAwaited dp_X_sendToAwaited rfl rfl hR hcs hsz hcat rfl hdg) hG kk
theorem kc_X_136 {x0 : Nat} {x1 : Int32} {S2 : z_S} (hF : z_F D C ad p m c cc nL s args R_X) (hM : z_M l y_X_finish b_X_finish 3 none rm_X_finish D C ad [.ref (ad 0 0), .ref (ad 14 x0), .int x1] S (z_Qv D C ad S2)) (hG : z_G D C ad H0 S H locs) (hR : rm_X_finish.frames + 1 ≤ R.frames ∧ 8 + (3 + 11) + rm_X_finish.locals ≤ R.locals) (hcs : cells ≤ R.cells ∧ slots ≤ R.slots) (hsz : ls.size = nL) (hcat : (rest.map fun v => v.category).sum ≤ 8) (hdg : decode cc pc = .ok (.invokevirtual 136, 3)) (kk : ∀ (H1 : Heap) (locs1 : List Loc), z_G D C ad H0 S2 H1 locs1 → W p l e R s m args below meth c H1 locs1 cells slots Q (F0 m (pc + 3) ls rest)) : W p l e R s m args below meth c H locs cells slots Q (F0 m pc ls (.int x1 :: .ref (ad 14 x0) :: .ref (ad 0 0) :: rest)) :=
  z_cv (z_runV (As := [.ref (ad 14 x0), .int x1]) hF hM hG z_o0 (z_c0 C ad _ _ 0) rfl wm_X_136 wi_X_finish ws_X_finish wn_X wc_X_finish dp_X_finish rfl rfl hR hcs hsz hcat rfl hdg) hG kk
theorem kc_X_199_18 {o : Nat} {x0 : Int32} {x1 : Int64} {r : Int32} {S2 : z_S} (hF : z_F D C ad p m c cc nL s args R_X) (hM : z_M l y_A_take b_A_take 4 (some .boolean) rm_A_take D C ad [.ref (ad 18 o), .int x0, .long x1] S (z_Qi D C ad r S2)) (hG : z_G D C ad H0 S H locs) (ho : o < z_n 18) (hR : rm_A_take.frames + 1 ≤ R.frames ∧ 8 + (4 + 11) + rm_A_take.locals ≤ R.locals) (hcs : cells ≤ R.cells ∧ slots ≤ R.slots) (hsz : ls.size = nL) (hcat : (rest.map fun v => v.category).sum ≤ 8) (hdg : decode cc pc = .ok (.invokevirtual 199, 3)) (kk : ∀ (H1 : Heap) (locs1 : List Loc), z_G D C ad H0 S2 H1 locs1 → W p l e R s m args below meth c H1 locs1 cells slots Q (F0 m (pc + 3) ls (.int r :: rest))) : W p l e R s m args below meth c H locs cells slots Q (F0 m pc ls (.long x1 :: .int x0 :: .ref (ad 18 o) :: rest)) :=
  z_ci (z_runV (As := [.int x0, .long x1]) hF hM hG ho (z_c18 C ad _ _ o) rfl wm_X_199 wi_A_take ws_A_take wn_A wc_A_take dp_A_take rfl rfl hR hcs hsz hcat rfl hdg) hG kk
theorem kc_X_160_18 {o : Nat}  {r : Int32} {S2 : z_S} (hF : z_F D C ad p m c cc nL s args R_X) (hM : z_M l y_A_isComplete b_A_isComplete 1 (some .boolean) rm_A_isComplete D C ad [.ref (ad 18 o)] S (z_Qi D C ad r S2)) (hG : z_G D C ad H0 S H locs) (ho : o < z_n 18) (hR : rm_A_isComplete.frames + 1 ≤ R.frames ∧ 8 + (1 + 11) + rm_A_isComplete.locals ≤ R.locals) (hcs : cells ≤ R.cells ∧ slots ≤ R.slots) (hsz : ls.size = nL) (hcat : (rest.map fun v => v.category).sum ≤ 8) (hdg : decode cc pc = .ok (.invokevirtual 160, 3)) (kk : ∀ (H1 : Heap) (locs1 : List Loc), z_G D C ad H0 S2 H1 locs1 → W p l e R s m args below meth c H1 locs1 cells slots Q (F0 m (pc + 3) ls (.int r :: rest))) : W p l e R s m args below meth c H locs cells slots Q (F0 m pc ls (.ref (ad 18 o) :: rest)) :=
  z_ci (z_runV (As := []) hF hM hG ho (z_c18 C ad _ _ o) rfl wm_X_160 wi_A_isComplete ws_A_isComplete wn_A wc_A_isComplete dp_A_isComplete rfl rfl hR hcs hsz hcat rfl hdg) hG kk
theorem kc_X_206 {x0 : Nat} {r : Int32} {S2 : z_S} (hF : z_F D C ad p m c cc nL s args R_X) (hM : z_M l y_X_decide b_X_decide 2 (some .int) rm_X_decide D C ad [.ref (ad 0 0), .ref (ad 14 x0)] S (z_Qi D C ad r S2)) (hG : z_G D C ad H0 S H locs) (hR : rm_X_decide.frames + 1 ≤ R.frames ∧ 8 + (2 + 11) + rm_X_decide.locals ≤ R.locals) (hcs : cells ≤ R.cells ∧ slots ≤ R.slots) (hsz : ls.size = nL) (hcat : (rest.map fun v => v.category).sum ≤ 8) (hdg : decode cc pc = .ok (.invokevirtual 206, 3)) (kk : ∀ (H1 : Heap) (locs1 : List Loc), z_G D C ad H0 S2 H1 locs1 → W p l e R s m args below meth c H1 locs1 cells slots Q (F0 m (pc + 3) ls (.int r :: rest))) : W p l e R s m args below meth c H locs cells slots Q (F0 m pc ls (.ref (ad 14 x0) :: .ref (ad 0 0) :: rest)) :=
  z_ci (z_runV (As := [.ref (ad 14 x0)]) hF hM hG z_o0 (z_c0 C ad _ _ 0) rfl wm_X_206 wi_X_decide ws_X_decide wn_X wc_X_decide dp_X_decide rfl rfl hR hcs hsz hcat rfl hdg) hG kk
theorem kc_X_172 {x0 : Nat} {x1 : Int32} {S2 : z_S} (hF : z_F D C ad p m c cc nL s args R_X) (hM : z_M l y_X_answerAsk b_X_answerAsk 6 none rm_X_answerAsk D C ad [.ref (ad 0 0), .ref (ad 14 x0), .int x1] S (z_Qv D C ad S2)) (hG : z_G D C ad H0 S H locs) (hR : rm_X_answerAsk.frames + 1 ≤ R.frames ∧ 8 + (6 + 11) + rm_X_answerAsk.locals ≤ R.locals) (hcs : cells ≤ R.cells ∧ slots ≤ R.slots) (hsz : ls.size = nL) (hcat : (rest.map fun v => v.category).sum ≤ 8) (hdg : decode cc pc = .ok (.invokevirtual 172, 3)) (kk : ∀ (H1 : Heap) (locs1 : List Loc), z_G D C ad H0 S2 H1 locs1 → W p l e R s m args below meth c H1 locs1 cells slots Q (F0 m (pc + 3) ls rest)) : W p l e R s m args below meth c H locs cells slots Q (F0 m pc ls (.int x1 :: .ref (ad 14 x0) :: .ref (ad 0 0) :: rest)) :=
  z_cv (z_runV (As := [.ref (ad 14 x0), .int x1]) hF hM hG z_o0 (z_c0 C ad _ _ 0) rfl wm_X_172 wi_X_answerAsk ws_X_answerAsk wn_X wc_X_answerAsk dp_X_answerAsk rfl rfl hR hcs hsz hcat rfl hdg) hG kk
theorem kc_X_175 {x0 : Nat} {x1 : Int32} {x2 : Int64} {S2 : z_S} (hF : z_F D C ad p m c cc nL s args R_X) (hM : z_M l y_X_takeSum b_X_takeSum 5 none rm_X_takeSum D C ad [.ref (ad 0 0), .ref (ad 14 x0), .int x1, .long x2] S (z_Qv D C ad S2)) (hG : z_G D C ad H0 S H locs) (hR : rm_X_takeSum.frames + 1 ≤ R.frames ∧ 8 + (5 + 11) + rm_X_takeSum.locals ≤ R.locals) (hcs : cells ≤ R.cells ∧ slots ≤ R.slots) (hsz : ls.size = nL) (hcat : (rest.map fun v => v.category).sum ≤ 8) (hdg : decode cc pc = .ok (.invokevirtual 175, 3)) (kk : ∀ (H1 : Heap) (locs1 : List Loc), z_G D C ad H0 S2 H1 locs1 → W p l e R s m args below meth c H1 locs1 cells slots Q (F0 m (pc + 3) ls rest)) : W p l e R s m args below meth c H locs cells slots Q (F0 m pc ls (.long x2 :: .int x1 :: .ref (ad 14 x0) :: .ref (ad 0 0) :: rest)) :=
  z_cv (z_runV (As := [.ref (ad 14 x0), .int x1, .long x2]) hF hM hG z_o0 (z_c0 C ad _ _ 0) rfl wm_X_175 wi_X_takeSum ws_X_takeSum wn_X wc_X_takeSum dp_X_takeSum rfl rfl hR hcs hsz hcat rfl hdg) hG kk
theorem kc_X_179 {x0 : Nat} {x1 : Int32} {S2 : z_S} (hF : z_F D C ad p m c cc nL s args R_X) (hM : z_M l y_X_answerFetch b_X_answerFetch 5 none rm_X_answerFetch D C ad [.ref (ad 0 0), .ref (ad 14 x0), .int x1] S (z_Qv D C ad S2)) (hG : z_G D C ad H0 S H locs) (hR : rm_X_answerFetch.frames + 1 ≤ R.frames ∧ 8 + (5 + 11) + rm_X_answerFetch.locals ≤ R.locals) (hcs : cells ≤ R.cells ∧ slots ≤ R.slots) (hsz : ls.size = nL) (hcat : (rest.map fun v => v.category).sum ≤ 8) (hdg : decode cc pc = .ok (.invokevirtual 179, 3)) (kk : ∀ (H1 : Heap) (locs1 : List Loc), z_G D C ad H0 S2 H1 locs1 → W p l e R s m args below meth c H1 locs1 cells slots Q (F0 m (pc + 3) ls rest)) : W p l e R s m args below meth c H locs cells slots Q (F0 m pc ls (.int x1 :: .ref (ad 14 x0) :: .ref (ad 0 0) :: rest)) :=
  z_cv (z_runV (As := [.ref (ad 14 x0), .int x1]) hF hM hG z_o0 (z_c0 C ad _ _ 0) rfl wm_X_179 wi_X_answerFetch ws_X_answerFetch wn_X wc_X_answerFetch dp_X_answerFetch rfl rfl hR hcs hsz hcat rfl hdg) hG kk
theorem kc_X_182 {x0 : Nat} {x1 : Int32} {x2 : Int64} {S2 : z_S} (hF : z_F D C ad p m c cc nL s args R_X) (hM : z_M l y_X_takeCopy b_X_takeCopy 5 none rm_X_takeCopy D C ad [.ref (ad 0 0), .ref (ad 14 x0), .int x1, .long x2] S (z_Qv D C ad S2)) (hG : z_G D C ad H0 S H locs) (hR : rm_X_takeCopy.frames + 1 ≤ R.frames ∧ 8 + (5 + 11) + rm_X_takeCopy.locals ≤ R.locals) (hcs : cells ≤ R.cells ∧ slots ≤ R.slots) (hsz : ls.size = nL) (hcat : (rest.map fun v => v.category).sum ≤ 8) (hdg : decode cc pc = .ok (.invokevirtual 182, 3)) (kk : ∀ (H1 : Heap) (locs1 : List Loc), z_G D C ad H0 S2 H1 locs1 → W p l e R s m args below meth c H1 locs1 cells slots Q (F0 m (pc + 3) ls rest)) : W p l e R s m args below meth c H locs cells slots Q (F0 m pc ls (.long x2 :: .int x1 :: .ref (ad 14 x0) :: .ref (ad 0 0) :: rest)) :=
  z_cv (z_runV (As := [.ref (ad 14 x0), .int x1, .long x2]) hF hM hG z_o0 (z_c0 C ad _ _ 0) rfl wm_X_182 wi_X_takeCopy ws_X_takeCopy wn_X wc_X_takeCopy dp_X_takeCopy rfl rfl hR hcs hsz hcat rfl hdg) hG kk
end ZI_xmid
end
section
def rg_X_sendToAwaited_47_S1 (S : z_S) (v1 : Nat) (v3 : Int32) (v4 : Nat) (v6 : Int32) : z_S := (if (S.1 16 v4 v6.toNatClampNeg) = 0 then (g_R_add S v3 (S.1 14 v1 0) v6 0) else S)
def rg_X_sendToAwaited_47_u5 (S : z_S) (v4 : Nat) (v5 : Int32) (v6 : Int32) : Int32 := (if (S.1 16 v4 v6.toNatClampNeg) = 0 then (v5 + 1) else v5)
set_option maxHeartbeats 4000000 in
set_option maxRecDepth 100000 in
theorem rg_X_sendToAwaited_47 {D : va_G} {C : Nat → ClassId} {ad : Nat → Nat → Nat} {S : z_S} {p : Program} {l : Launch} {e : Env} {s : State} {m : MethodId} {args : Array Value} {below : List Frame} {meth : Method} {c : Code} {H H0 : Heap} {locs : List Loc} {Q : State → Prop} {ls : Array Slot} {v1 : Nat} {v3 : Int32} {v4 : Nat} {v5 : Int32} {v6 : Int32}  (hF : z_F D C ad p m c b_X_sendToAwaited 7 s args R_X) (hv1 : v1 < z_n 14) (hv4 : v4 < z_n 15) (hok : z_Ok S) (hv : vp_in v6 3) (hG : z_G D C ad H0 S H locs) (hl : lv_has ls 7 [(0, .ref (ad 0 0)), (1, .ref (ad 14 v1)), (3, .int v3), (4, .ref (ad 15 v4)), (5, .int v5), (6, .int v6)]) (kk : ∀ (H : Heap) (locs : List Loc) (ls : Array Slot) (S1 : z_S) (u5 : Int32), z_G D C ad H0 S1 H locs → lv_has ls 7 [(0, .ref (ad 0 0)), (1, .ref (ad 14 v1)), (3, .int v3), (4, .ref (ad 15 v4)), (5, .int u5), (6, .int v6)] → S1 = rg_X_sendToAwaited_47_S1 S v1 v3 v4 v6 → u5 = rg_X_sendToAwaited_47_u5 S v4 v5 v6 → W p l e rm_X_sendToAwaited s m args below meth c H locs 0 0 Q (F0 m 76 ls [])) : W p l e rm_X_sendToAwaited s m args below meth c H locs 0 0 Q (F0 m 47 ls []) := by
  obtain ⟨hx, hb, hml, hown, hts⟩ := hF.1
  refine lv_aload hx hb d_X_sendToAwaited_47 (lv_at hl 3 rfl) ?_
  refine gf_X_168_15 hF hG hv4 d_X_sendToAwaited_49 ?_
  refine lv_iload hx hb d_X_sendToAwaited_52 (lv_at hl 5 rfl) ?_
  refine z_zald (n := 3) (j := v6.toNatClampNeg) (v := (S.1 16 v4 v6.toNatClampNeg)) hF hG hv4 (z_c16 C ad _ _ _) rfl hv rfl d_X_sendToAwaited_54 ?_
  refine lv_if_ne (tgt := 76) hx hb d_X_sendToAwaited_55 rfl (fun h55 => ?_) (fun h55 => ?_)
  ·
    exact kk _ _ _ _ _ hG (lv_sub hl [0, 1, 2, 3, 4, 5] rfl) (Eq.symm ((if_neg h55).trans rfl)) (Eq.symm ((if_neg h55).trans rfl))
  ·
    refine lv_aload_n hx hb d_X_sendToAwaited_58 rfl (lv_at hl 0 rfl) ?_
    refine gf_X_22_0 hF hG d_X_sendToAwaited_59 ?_
    refine lv_iload_n hx hb d_X_sendToAwaited_62 rfl (lv_at hl 2 rfl) ?_
    refine lv_aload_n hx hb d_X_sendToAwaited_63 rfl (lv_at hl 1 rfl) ?_
    refine gf_X_155_14 hF hG hv1 (v := (S.1 14 v1 0)) rfl d_X_sendToAwaited_64 ?_
    refine lv_iload hx hb d_X_sendToAwaited_67 (lv_at hl 5 rfl) ?_
    refine lv_lconst (v := 0) hx hb d_X_sendToAwaited_69 rfl ?_
    refine kc_X_132 hF (c_R_add l D C ad hF.2.2 _ _ _ _ _ (z_okc hok)) hG ⟨Nat.le_of_ble_eq_true rfl, Nat.le_of_ble_eq_true rfl⟩ ⟨Nat.zero_le _, Nat.zero_le _⟩ hl.1 (Nat.le_of_ble_eq_true rfl) d_X_sendToAwaited_70 (fun H locs hG => ?_)
    refine lv_iinc (k := 4) (v := (v5 + 1)) (lv' := [(5, .int (v5 + 1)), (0, .ref (ad 0 0)), (1, .ref (ad 14 v1)), (3, .int v3), (4, .ref (ad 15 v4)), (6, .int v6)]) hx hb d_X_sendToAwaited_73 hl rfl (by rw [z_k1]) (Nat.le_of_ble_eq_true rfl) rfl (fun ls hl => ?_)
    exact kk _ _ _ _ _ hG (lv_sub hl [1, 2, 3, 4, 0, 5] rfl) (Eq.symm ((if_pos h55).trans rfl)) (Eq.symm ((if_pos h55).trans rfl))
theorem ok_rg_X_sendToAwaited_47 {S : z_S} {v1 : Nat} {v3 : Int32} {v4 : Nat} {v6 : Int32} (hok : z_Ok S) (hv : vp_in v6 3) : z_Ok (rg_X_sendToAwaited_47_S1 S v1 v3 v4 v6) := by
  unfold rg_X_sendToAwaited_47_S1
  split
  · exact ok_R_add hok hv
  · exact hok
def rg_X_sendToAwaited_47_1_S1 (S : z_S) (v1 : Nat) (v3 : Int32) (v4 : Nat) (v6 : Int32) : z_S := (if (S.1 19 v4 v6.toNatClampNeg) = 0 then (g_R_add S v3 (S.1 14 v1 0) v6 0) else S)
def rg_X_sendToAwaited_47_1_u5 (S : z_S) (v4 : Nat) (v5 : Int32) (v6 : Int32) : Int32 := (if (S.1 19 v4 v6.toNatClampNeg) = 0 then (v5 + 1) else v5)
set_option maxHeartbeats 4000000 in
set_option maxRecDepth 100000 in
theorem rg_X_sendToAwaited_47_1 {D : va_G} {C : Nat → ClassId} {ad : Nat → Nat → Nat} {S : z_S} {p : Program} {l : Launch} {e : Env} {s : State} {m : MethodId} {args : Array Value} {below : List Frame} {meth : Method} {c : Code} {H H0 : Heap} {locs : List Loc} {Q : State → Prop} {ls : Array Slot} {v1 : Nat} {v3 : Int32} {v4 : Nat} {v5 : Int32} {v6 : Int32}  (hF : z_F D C ad p m c b_X_sendToAwaited 7 s args R_X) (hv1 : v1 < z_n 14) (hv4 : v4 < z_n 18) (hok : z_Ok S) (hv : vp_in v6 3) (hG : z_G D C ad H0 S H locs) (hl : lv_has ls 7 [(0, .ref (ad 0 0)), (1, .ref (ad 14 v1)), (3, .int v3), (4, .ref (ad 18 v4)), (5, .int v5), (6, .int v6)]) (kk : ∀ (H : Heap) (locs : List Loc) (ls : Array Slot) (S1 : z_S) (u5 : Int32), z_G D C ad H0 S1 H locs → lv_has ls 7 [(0, .ref (ad 0 0)), (1, .ref (ad 14 v1)), (3, .int v3), (4, .ref (ad 18 v4)), (5, .int u5), (6, .int v6)] → S1 = rg_X_sendToAwaited_47_1_S1 S v1 v3 v4 v6 → u5 = rg_X_sendToAwaited_47_1_u5 S v4 v5 v6 → W p l e rm_X_sendToAwaited s m args below meth c H locs 0 0 Q (F0 m 76 ls [])) : W p l e rm_X_sendToAwaited s m args below meth c H locs 0 0 Q (F0 m 47 ls []) := by
  obtain ⟨hx, hb, hml, hown, hts⟩ := hF.1
  refine lv_aload hx hb d_X_sendToAwaited_47 (lv_at hl 3 rfl) ?_
  refine gf_X_168_18 hF hG hv4 d_X_sendToAwaited_49 ?_
  refine lv_iload hx hb d_X_sendToAwaited_52 (lv_at hl 5 rfl) ?_
  refine z_zald (n := 3) (j := v6.toNatClampNeg) (v := (S.1 19 v4 v6.toNatClampNeg)) hF hG hv4 (z_c19 C ad _ _ _) rfl hv rfl d_X_sendToAwaited_54 ?_
  refine lv_if_ne (tgt := 76) hx hb d_X_sendToAwaited_55 rfl (fun h55 => ?_) (fun h55 => ?_)
  ·
    exact kk _ _ _ _ _ hG (lv_sub hl [0, 1, 2, 3, 4, 5] rfl) (Eq.symm ((if_neg h55).trans rfl)) (Eq.symm ((if_neg h55).trans rfl))
  ·
    refine lv_aload_n hx hb d_X_sendToAwaited_58 rfl (lv_at hl 0 rfl) ?_
    refine gf_X_22_0 hF hG d_X_sendToAwaited_59 ?_
    refine lv_iload_n hx hb d_X_sendToAwaited_62 rfl (lv_at hl 2 rfl) ?_
    refine lv_aload_n hx hb d_X_sendToAwaited_63 rfl (lv_at hl 1 rfl) ?_
    refine gf_X_155_14 hF hG hv1 (v := (S.1 14 v1 0)) rfl d_X_sendToAwaited_64 ?_
    refine lv_iload hx hb d_X_sendToAwaited_67 (lv_at hl 5 rfl) ?_
    refine lv_lconst (v := 0) hx hb d_X_sendToAwaited_69 rfl ?_
    refine kc_X_132 hF (c_R_add l D C ad hF.2.2 _ _ _ _ _ (z_okc hok)) hG ⟨Nat.le_of_ble_eq_true rfl, Nat.le_of_ble_eq_true rfl⟩ ⟨Nat.zero_le _, Nat.zero_le _⟩ hl.1 (Nat.le_of_ble_eq_true rfl) d_X_sendToAwaited_70 (fun H locs hG => ?_)
    refine lv_iinc (k := 4) (v := (v5 + 1)) (lv' := [(5, .int (v5 + 1)), (0, .ref (ad 0 0)), (1, .ref (ad 14 v1)), (3, .int v3), (4, .ref (ad 18 v4)), (6, .int v6)]) hx hb d_X_sendToAwaited_73 hl rfl (by rw [z_k1]) (Nat.le_of_ble_eq_true rfl) rfl (fun ls hl => ?_)
    exact kk _ _ _ _ _ hG (lv_sub hl [1, 2, 3, 4, 0, 5] rfl) (Eq.symm ((if_pos h55).trans rfl)) (Eq.symm ((if_pos h55).trans rfl))
theorem ok_rg_X_sendToAwaited_47_1 {S : z_S} {v1 : Nat} {v3 : Int32} {v4 : Nat} {v6 : Int32} (hok : z_Ok S) (hv : vp_in v6 3) : z_Ok (rg_X_sendToAwaited_47_1_S1 S v1 v3 v4 v6) := by
  unfold rg_X_sendToAwaited_47_1_S1
  split
  · exact ok_R_add hok hv
  · exact hok
def f_X_sendToAwaited (S : z_S) (x0 : Nat) : Int32 := (if (f_A_isComplete_15 S x0) = 0 then (rg_X_sendToAwaited_47_u5 (rg_X_sendToAwaited_47_S1 (rg_X_sendToAwaited_47_S1 S x0 1 x0 0) x0 1 x0 1) x0 (rg_X_sendToAwaited_47_u5 (rg_X_sendToAwaited_47_S1 S x0 1 x0 0) x0 (rg_X_sendToAwaited_47_u5 S x0 0 0) 1) 2) else (rg_X_sendToAwaited_47_1_u5 (rg_X_sendToAwaited_47_1_S1 (rg_X_sendToAwaited_47_1_S1 S x0 3 x0 0) x0 3 x0 1) x0 (rg_X_sendToAwaited_47_1_u5 (rg_X_sendToAwaited_47_1_S1 S x0 3 x0 0) x0 (rg_X_sendToAwaited_47_1_u5 S x0 0 0) 1) 2))
def g_X_sendToAwaited (S : z_S) (x0 : Nat) : z_S := (if (f_A_isComplete_15 S x0) = 0 then (rg_X_sendToAwaited_47_S1 (rg_X_sendToAwaited_47_S1 (rg_X_sendToAwaited_47_S1 S x0 1 x0 0) x0 1 x0 1) x0 1 x0 2) else (rg_X_sendToAwaited_47_1_S1 (rg_X_sendToAwaited_47_1_S1 (rg_X_sendToAwaited_47_1_S1 S x0 3 x0 0) x0 3 x0 1) x0 3 x0 2))
set_option maxHeartbeats 4000000 in
set_option maxRecDepth 100000 in
theorem c_X_sendToAwaited (l : Launch) (D : va_G) (C : Nat → ClassId) (ad : Nat → Nat → Nat) (hJ : z_J ad) (S : z_S) (x0 : Nat) (hx0 : x0 < z_n 14) (hok : z_Ok S) : z_M l y_X_sendToAwaited b_X_sendToAwaited 7 (some .int) rm_X_sendToAwaited D C ad [.ref (ad 0 0), .ref (ad 14 x0)] S (z_Qi D C ad (f_X_sendToAwaited S x0) (g_X_sendToAwaited S x0)) := by
  refine z_enter (by decide) (Nat.le_of_ble_eq_true rfl) hJ ?_
  intro p e s m below meth c ls hF hr hlk hl hG
  obtain ⟨hx, hb, hml, hown, hts⟩ := hF.1
  have hl : lv_has ls 7 [(0, .ref (ad 0 0)), (1, .ref (ad 14 x0))] := hl
  refine lv_aload_n hx hb d_X_sendToAwaited_0 rfl (lv_at hl 1 rfl) ?_
  refine gf_X_156_14 hF hG hx0 d_X_sendToAwaited_1 ?_
  refine kc_X_160_15 hF (c_A_isComplete_15 l D C ad hF.2.2 _ _ hx0 ) hG hx0 ⟨Nat.le_of_ble_eq_true rfl, Nat.le_of_ble_eq_true rfl⟩ ⟨Nat.zero_le _, Nat.zero_le _⟩ hl.1 (Nat.le_of_ble_eq_true rfl) d_X_sendToAwaited_4 (fun H locs hG => ?_)
  refine lv_istore_n (lv' := [(2, .int (f_A_isComplete_15 S x0)), (0, .ref (ad 0 0)), (1, .ref (ad 14 x0))]) hx hb d_X_sendToAwaited_7 rfl hl (Nat.le_of_ble_eq_true rfl) rfl (fun ls hl => ?_)
  refine lv_iload_n hx hb d_X_sendToAwaited_8 rfl (lv_at hl 0 rfl) ?_
  refine lv_if_eq (tgt := 16) hx hb d_X_sendToAwaited_9 rfl (fun h9 => ?_) (fun h9 => ?_)
  ·
    refine lv_iconst (v := 1) hx hb d_X_sendToAwaited_16 z_k1 ?_
    refine lv_istore_n (lv' := [(3, .int 1), (2, .int (f_A_isComplete_15 S x0)), (0, .ref (ad 0 0)), (1, .ref (ad 14 x0))]) hx hb d_X_sendToAwaited_17 rfl hl (Nat.le_of_ble_eq_true rfl) rfl (fun ls hl => ?_)
    refine lv_iload_n hx hb d_X_sendToAwaited_18 rfl (lv_at hl 1 rfl) ?_
    refine lv_if_eq (tgt := 29) hx hb d_X_sendToAwaited_19 rfl (fun _ => ?_) (fun h => absurd h9 h)
    refine lv_aload_n hx hb d_X_sendToAwaited_29 rfl (lv_at hl 3 rfl) ?_
    refine gf_X_156_14 hF hG hx0 d_X_sendToAwaited_30 ?_
    refine lv_astore (lv' := [(4, .ref (ad 15 x0)), (3, .int 1), (2, .int (f_A_isComplete_15 S x0)), (0, .ref (ad 0 0)), (1, .ref (ad 14 x0))]) hx hb d_X_sendToAwaited_33 hl (Nat.le_of_ble_eq_true rfl) rfl (fun ls hl => ?_)
    refine lv_iconst (v := 0) hx hb d_X_sendToAwaited_35 z_k0 ?_
    refine lv_istore (lv' := [(5, .int 0), (4, .ref (ad 15 x0)), (3, .int 1), (2, .int (f_A_isComplete_15 S x0)), (0, .ref (ad 0 0)), (1, .ref (ad 14 x0))]) hx hb d_X_sendToAwaited_36 hl (Nat.le_of_ble_eq_true rfl) rfl (fun ls hl => ?_)
    refine lv_iconst (v := 0) hx hb d_X_sendToAwaited_38 z_k0 ?_
    refine lv_istore (lv' := [(6, .int 0), (5, .int 0), (4, .ref (ad 15 x0)), (3, .int 1), (2, .int (f_A_isComplete_15 S x0)), (0, .ref (ad 0 0)), (1, .ref (ad 14 x0))]) hx hb d_X_sendToAwaited_39 hl (Nat.le_of_ble_eq_true rfl) rfl (fun ls hl => ?_)
    refine lv_iload hx hb d_X_sendToAwaited_41 (lv_at hl 0 rfl) ?_
    refine lv_iconst (v := 3) hx hb d_X_sendToAwaited_43 z_k3 ?_
    refine lv_icmp_ge (tgt := 82) hx hb d_X_sendToAwaited_44 rfl (fun h => absurd h (by decide)) (fun _ => ?_)
    refine rg_X_sendToAwaited_47 hF hx0 hx0 hok z_in0_3 hG (lv_sub hl [5, 6, 3, 2, 1, 0] rfl) (fun H locs ls S1 u5 hG hl e_S1 e_u5 => ?_)
    subst e_S1
    subst e_u5
    have hok : z_Ok (rg_X_sendToAwaited_47_S1 S x0 1 x0 0) := ok_rg_X_sendToAwaited_47 hok z_in0_3
    refine lv_iinc (k := 5) (v := 1) (lv' := [(6, .int 1), (0, .ref (ad 0 0)), (1, .ref (ad 14 x0)), (3, .int 1), (4, .ref (ad 15 x0)), (5, .int (rg_X_sendToAwaited_47_u5 S x0 0 0))]) hx hb d_X_sendToAwaited_76 hl rfl (by decide) (Nat.le_of_ble_eq_true rfl) rfl (fun ls hl => ?_)
    refine lv_goto (tgt := 41) hx hb d_X_sendToAwaited_79 rfl ?_
    refine lv_iload hx hb d_X_sendToAwaited_41 (lv_at hl 0 rfl) ?_
    refine lv_iconst (v := 3) hx hb d_X_sendToAwaited_43 z_k3 ?_
    refine lv_icmp_ge (tgt := 82) hx hb d_X_sendToAwaited_44 rfl (fun h => absurd h (by decide)) (fun _ => ?_)
    refine rg_X_sendToAwaited_47 hF hx0 hx0 hok z_in1_3 hG (lv_sub hl [1, 2, 3, 4, 5, 0] rfl) (fun H locs ls S1 u5 hG hl e_S1 e_u5 => ?_)
    subst e_S1
    subst e_u5
    have hok : z_Ok (rg_X_sendToAwaited_47_S1 (rg_X_sendToAwaited_47_S1 S x0 1 x0 0) x0 1 x0 1) := ok_rg_X_sendToAwaited_47 hok z_in1_3
    refine lv_iinc (k := 5) (v := 2) (lv' := [(6, .int 2), (0, .ref (ad 0 0)), (1, .ref (ad 14 x0)), (3, .int 1), (4, .ref (ad 15 x0)), (5, .int (rg_X_sendToAwaited_47_u5 (rg_X_sendToAwaited_47_S1 S x0 1 x0 0) x0 (rg_X_sendToAwaited_47_u5 S x0 0 0) 1))]) hx hb d_X_sendToAwaited_76 hl rfl (by decide) (Nat.le_of_ble_eq_true rfl) rfl (fun ls hl => ?_)
    refine lv_goto (tgt := 41) hx hb d_X_sendToAwaited_79 rfl ?_
    refine lv_iload hx hb d_X_sendToAwaited_41 (lv_at hl 0 rfl) ?_
    refine lv_iconst (v := 3) hx hb d_X_sendToAwaited_43 z_k3 ?_
    refine lv_icmp_ge (tgt := 82) hx hb d_X_sendToAwaited_44 rfl (fun h => absurd h (by decide)) (fun _ => ?_)
    refine rg_X_sendToAwaited_47 hF hx0 hx0 hok z_in2_3 hG (lv_sub hl [1, 2, 3, 4, 5, 0] rfl) (fun H locs ls S1 u5 hG hl e_S1 e_u5 => ?_)
    subst e_S1
    subst e_u5
    have hok : z_Ok (rg_X_sendToAwaited_47_S1 (rg_X_sendToAwaited_47_S1 (rg_X_sendToAwaited_47_S1 S x0 1 x0 0) x0 1 x0 1) x0 1 x0 2) := ok_rg_X_sendToAwaited_47 hok z_in2_3
    refine lv_iinc (k := 5) (v := 3) (lv' := [(6, .int 3), (0, .ref (ad 0 0)), (1, .ref (ad 14 x0)), (3, .int 1), (4, .ref (ad 15 x0)), (5, .int (rg_X_sendToAwaited_47_u5 (rg_X_sendToAwaited_47_S1 (rg_X_sendToAwaited_47_S1 S x0 1 x0 0) x0 1 x0 1) x0 (rg_X_sendToAwaited_47_u5 (rg_X_sendToAwaited_47_S1 S x0 1 x0 0) x0 (rg_X_sendToAwaited_47_u5 S x0 0 0) 1) 2))]) hx hb d_X_sendToAwaited_76 hl rfl (by decide) (Nat.le_of_ble_eq_true rfl) rfl (fun ls hl => ?_)
    refine lv_goto (tgt := 41) hx hb d_X_sendToAwaited_79 rfl ?_
    refine lv_iload hx hb d_X_sendToAwaited_41 (lv_at hl 0 rfl) ?_
    refine lv_iconst (v := 3) hx hb d_X_sendToAwaited_43 z_k3 ?_
    refine lv_icmp_ge (tgt := 82) hx hb d_X_sendToAwaited_44 rfl (fun _ => ?_) (fun h => absurd h (by decide))
    refine lv_iload hx hb d_X_sendToAwaited_82 (lv_at hl 5 rfl) ?_
    exact z_iret hF hr hlk hG (Eq.symm ((if_pos h9).trans rfl)) (Eq.symm ((if_pos h9).trans rfl)) d_X_sendToAwaited_84
  ·
    refine lv_iconst (v := 3) hx hb d_X_sendToAwaited_12 z_k3 ?_
    refine lv_goto (tgt := 17) hx hb d_X_sendToAwaited_13 rfl ?_
    refine lv_istore_n (lv' := [(3, .int 3), (2, .int (f_A_isComplete_15 S x0)), (0, .ref (ad 0 0)), (1, .ref (ad 14 x0))]) hx hb d_X_sendToAwaited_17 rfl hl (Nat.le_of_ble_eq_true rfl) rfl (fun ls hl => ?_)
    refine lv_iload_n hx hb d_X_sendToAwaited_18 rfl (lv_at hl 1 rfl) ?_
    refine lv_if_eq (tgt := 29) hx hb d_X_sendToAwaited_19 rfl (fun h => absurd h h9) (fun _ => ?_)
    refine lv_aload_n hx hb d_X_sendToAwaited_22 rfl (lv_at hl 3 rfl) ?_
    refine gf_X_165_14 hF hG hx0 d_X_sendToAwaited_23 ?_
    refine lv_goto (tgt := 33) hx hb d_X_sendToAwaited_26 rfl ?_
    refine lv_astore (lv' := [(4, .ref (ad 18 x0)), (3, .int 3), (2, .int (f_A_isComplete_15 S x0)), (0, .ref (ad 0 0)), (1, .ref (ad 14 x0))]) hx hb d_X_sendToAwaited_33 hl (Nat.le_of_ble_eq_true rfl) rfl (fun ls hl => ?_)
    refine lv_iconst (v := 0) hx hb d_X_sendToAwaited_35 z_k0 ?_
    refine lv_istore (lv' := [(5, .int 0), (4, .ref (ad 18 x0)), (3, .int 3), (2, .int (f_A_isComplete_15 S x0)), (0, .ref (ad 0 0)), (1, .ref (ad 14 x0))]) hx hb d_X_sendToAwaited_36 hl (Nat.le_of_ble_eq_true rfl) rfl (fun ls hl => ?_)
    refine lv_iconst (v := 0) hx hb d_X_sendToAwaited_38 z_k0 ?_
    refine lv_istore (lv' := [(6, .int 0), (5, .int 0), (4, .ref (ad 18 x0)), (3, .int 3), (2, .int (f_A_isComplete_15 S x0)), (0, .ref (ad 0 0)), (1, .ref (ad 14 x0))]) hx hb d_X_sendToAwaited_39 hl (Nat.le_of_ble_eq_true rfl) rfl (fun ls hl => ?_)
    refine lv_iload hx hb d_X_sendToAwaited_41 (lv_at hl 0 rfl) ?_
    refine lv_iconst (v := 3) hx hb d_X_sendToAwaited_43 z_k3 ?_
    refine lv_icmp_ge (tgt := 82) hx hb d_X_sendToAwaited_44 rfl (fun h => absurd h (by decide)) (fun _ => ?_)
    refine rg_X_sendToAwaited_47_1 hF hx0 hx0 hok z_in0_3 hG (lv_sub hl [5, 6, 3, 2, 1, 0] rfl) (fun H locs ls S1 u5 hG hl e_S1 e_u5 => ?_)
    subst e_S1
    subst e_u5
    have hok : z_Ok (rg_X_sendToAwaited_47_1_S1 S x0 3 x0 0) := ok_rg_X_sendToAwaited_47_1 hok z_in0_3
    refine lv_iinc (k := 5) (v := 1) (lv' := [(6, .int 1), (0, .ref (ad 0 0)), (1, .ref (ad 14 x0)), (3, .int 3), (4, .ref (ad 18 x0)), (5, .int (rg_X_sendToAwaited_47_1_u5 S x0 0 0))]) hx hb d_X_sendToAwaited_76 hl rfl (by decide) (Nat.le_of_ble_eq_true rfl) rfl (fun ls hl => ?_)
    refine lv_goto (tgt := 41) hx hb d_X_sendToAwaited_79 rfl ?_
    refine lv_iload hx hb d_X_sendToAwaited_41 (lv_at hl 0 rfl) ?_
    refine lv_iconst (v := 3) hx hb d_X_sendToAwaited_43 z_k3 ?_
    refine lv_icmp_ge (tgt := 82) hx hb d_X_sendToAwaited_44 rfl (fun h => absurd h (by decide)) (fun _ => ?_)
    refine rg_X_sendToAwaited_47_1 hF hx0 hx0 hok z_in1_3 hG (lv_sub hl [1, 2, 3, 4, 5, 0] rfl) (fun H locs ls S1 u5 hG hl e_S1 e_u5 => ?_)
    subst e_S1
    subst e_u5
    have hok : z_Ok (rg_X_sendToAwaited_47_1_S1 (rg_X_sendToAwaited_47_1_S1 S x0 3 x0 0) x0 3 x0 1) := ok_rg_X_sendToAwaited_47_1 hok z_in1_3
    refine lv_iinc (k := 5) (v := 2) (lv' := [(6, .int 2), (0, .ref (ad 0 0)), (1, .ref (ad 14 x0)), (3, .int 3), (4, .ref (ad 18 x0)), (5, .int (rg_X_sendToAwaited_47_1_u5 (rg_X_sendToAwaited_47_1_S1 S x0 3 x0 0) x0 (rg_X_sendToAwaited_47_1_u5 S x0 0 0) 1))]) hx hb d_X_sendToAwaited_76 hl rfl (by decide) (Nat.le_of_ble_eq_true rfl) rfl (fun ls hl => ?_)
    refine lv_goto (tgt := 41) hx hb d_X_sendToAwaited_79 rfl ?_
    refine lv_iload hx hb d_X_sendToAwaited_41 (lv_at hl 0 rfl) ?_
    refine lv_iconst (v := 3) hx hb d_X_sendToAwaited_43 z_k3 ?_
    refine lv_icmp_ge (tgt := 82) hx hb d_X_sendToAwaited_44 rfl (fun h => absurd h (by decide)) (fun _ => ?_)
    refine rg_X_sendToAwaited_47_1 hF hx0 hx0 hok z_in2_3 hG (lv_sub hl [1, 2, 3, 4, 5, 0] rfl) (fun H locs ls S1 u5 hG hl e_S1 e_u5 => ?_)
    subst e_S1
    subst e_u5
    have hok : z_Ok (rg_X_sendToAwaited_47_1_S1 (rg_X_sendToAwaited_47_1_S1 (rg_X_sendToAwaited_47_1_S1 S x0 3 x0 0) x0 3 x0 1) x0 3 x0 2) := ok_rg_X_sendToAwaited_47_1 hok z_in2_3
    refine lv_iinc (k := 5) (v := 3) (lv' := [(6, .int 3), (0, .ref (ad 0 0)), (1, .ref (ad 14 x0)), (3, .int 3), (4, .ref (ad 18 x0)), (5, .int (rg_X_sendToAwaited_47_1_u5 (rg_X_sendToAwaited_47_1_S1 (rg_X_sendToAwaited_47_1_S1 S x0 3 x0 0) x0 3 x0 1) x0 (rg_X_sendToAwaited_47_1_u5 (rg_X_sendToAwaited_47_1_S1 S x0 3 x0 0) x0 (rg_X_sendToAwaited_47_1_u5 S x0 0 0) 1) 2))]) hx hb d_X_sendToAwaited_76 hl rfl (by decide) (Nat.le_of_ble_eq_true rfl) rfl (fun ls hl => ?_)
    refine lv_goto (tgt := 41) hx hb d_X_sendToAwaited_79 rfl ?_
    refine lv_iload hx hb d_X_sendToAwaited_41 (lv_at hl 0 rfl) ?_
    refine lv_iconst (v := 3) hx hb d_X_sendToAwaited_43 z_k3 ?_
    refine lv_icmp_ge (tgt := 82) hx hb d_X_sendToAwaited_44 rfl (fun _ => ?_) (fun h => absurd h (by decide))
    refine lv_iload hx hb d_X_sendToAwaited_82 (lv_at hl 5 rfl) ?_
    exact z_iret hF hr hlk hG (Eq.symm ((if_neg h9).trans rfl)) (Eq.symm ((if_neg h9).trans rfl)) d_X_sendToAwaited_84
def g_X_answerAsk (S : z_S) (x0 : Nat) (x1 : Int32) : z_S := (if (S.1 12 x1.toNatClampNeg 0) = 0 then S else (g_R_add S 2 (S.1 14 x0 0) x1 (f_H_sumOfPart S x1.toNatClampNeg (S.1 14 x0 1) (S.1 14 x0 2) (S.1 2 0 ((S.1 14 x0 1).toNatClampNeg)) (S.2 14 x0 3))))
set_option maxHeartbeats 4000000 in
set_option maxRecDepth 100000 in
theorem c_X_answerAsk (l : Launch) (D : va_G) (C : Nat → ClassId) (ad : Nat → Nat → Nat) (hJ : z_J ad) (S : z_S) (x0 : Nat) (hx0 : x0 < z_n 14) (x1 : Int32) (hok : z_Ok S) (hh : vp_in x1 3) : z_M l y_X_answerAsk b_X_answerAsk 6 none rm_X_answerAsk D C ad [.ref (ad 0 0), .ref (ad 14 x0), .int x1] S (z_Qv D C ad (g_X_answerAsk S x0 x1)) := by
  refine z_enter (by decide) (Nat.le_of_ble_eq_true rfl) hJ ?_
  intro p e s m below meth c ls hF hr hlk hl hG
  obtain ⟨hx, hb, hml, hown, hts⟩ := hF.1
  have hl : lv_has ls 6 [(0, .ref (ad 0 0)), (1, .ref (ad 14 x0)), (2, .int x1)] := hl
  refine lv_aload_n hx hb d_X_answerAsk_0 rfl (lv_at hl 0 rfl) ?_
  refine gf_X_11_0 hF hG d_X_answerAsk_1 ?_
  refine lv_iload_n hx hb d_X_answerAsk_4 rfl (lv_at hl 2 rfl) ?_
  have ho5 : x1.toNatClampNeg < z_n 12 := z_lt (n := 3) hh
  refine z_aald (n := 3) (K := 3) (t0 := 3) (Cn := R_H) (j := x1.toNatClampNeg) (v := ad 12 x1.toNatClampNeg) hF hG z_o1 (z_c1 C ad _ _ _) rfl rfl hh rfl d_X_answerAsk_5 ?_
  refine gf_X_140_12 hF hG ho5 (v := (S.1 12 x1.toNatClampNeg 0)) rfl d_X_answerAsk_6 ?_
  refine lv_if_eq (tgt := 58) hx hb d_X_answerAsk_9 rfl (fun h9 => ?_) (fun h9 => ?_)
  ·
    exact z_vret hF hr hlk hG (Eq.symm ((if_pos h9).trans rfl)) d_X_answerAsk_58
  ·
    refine lv_aload_n hx hb d_X_answerAsk_12 rfl (lv_at hl 1 rfl) ?_
    refine gf_X_185_14 hF hG hx0 (v := (S.1 14 x0 1)) rfl d_X_answerAsk_13 ?_
    refine lv_istore_n (lv' := [(3, .int (S.1 14 x0 1)), (0, .ref (ad 0 0)), (1, .ref (ad 14 x0)), (2, .int x1)]) hx hb d_X_answerAsk_16 rfl hl (Nat.le_of_ble_eq_true rfl) rfl (fun ls hl => ?_)
    refine lv_aload_n hx hb d_X_answerAsk_17 rfl (lv_at hl 1 rfl) ?_
    refine gf_X_11_0 hF hG d_X_answerAsk_18 ?_
    refine lv_iload_n hx hb d_X_answerAsk_21 rfl (lv_at hl 3 rfl) ?_
    have ho22 : x1.toNatClampNeg < z_n 12 := z_lt (n := 3) hh
    refine z_aald (n := 3) (K := 3) (t0 := 3) (Cn := R_H) (j := x1.toNatClampNeg) (v := ad 12 x1.toNatClampNeg) hF hG z_o1 (z_c1 C ad _ _ _) rfl rfl hh rfl d_X_answerAsk_22 ?_
    refine lv_iload_n hx hb d_X_answerAsk_23 rfl (lv_at hl 0 rfl) ?_
    refine lv_aload_n hx hb d_X_answerAsk_24 rfl (lv_at hl 2 rfl) ?_
    refine gf_X_188_14 hF hG hx0 (v := (S.1 14 x0 2)) rfl d_X_answerAsk_25 ?_
    refine lv_aload_n hx hb d_X_answerAsk_28 rfl (lv_at hl 1 rfl) ?_
    refine gf_X_15_0 hF hG d_X_answerAsk_29 ?_
    refine lv_iload_n hx hb d_X_answerAsk_32 rfl (lv_at hl 0 rfl) ?_
    refine z_iald (n := 6) (j := (S.1 14 x0 1).toNatClampNeg) (v := (S.1 2 0 ((S.1 14 x0 1).toNatClampNeg))) hF hG z_o2 (z_c2 C ad _ _ _) rfl (z_dpt hok hx0) rfl d_X_answerAsk_33 ?_
    refine lv_aload_n hx hb d_X_answerAsk_34 rfl (lv_at hl 2 rfl) ?_
    refine gf_X_191_14 hF hG hx0 (v := (S.2 14 x0 3)) rfl d_X_answerAsk_35 ?_
    refine kc_X_80 hF (c_H_sumOfPart l D C ad hF.2.2 _ _ ho22 _ _ _ _ (z_dpt hok hx0) (z_ppt hok hx0) (z_bcI hok (z_dpt hok hx0)).2) hG ho22 ⟨Nat.le_of_ble_eq_true rfl, Nat.le_of_ble_eq_true rfl⟩ ⟨Nat.zero_le _, Nat.zero_le _⟩ hl.1 (Nat.le_of_ble_eq_true rfl) d_X_answerAsk_38 (fun H locs hG => ?_)
    refine lv_lstore (lv' := [(4, .long (f_H_sumOfPart S x1.toNatClampNeg (S.1 14 x0 1) (S.1 14 x0 2) (S.1 2 0 ((S.1 14 x0 1).toNatClampNeg)) (S.2 14 x0 3))), (3, .int (S.1 14 x0 1)), (0, .ref (ad 0 0)), (1, .ref (ad 14 x0)), (2, .int x1)]) hx hb d_X_answerAsk_41 hl (Nat.le_of_ble_eq_true rfl) rfl (fun ls hl => ?_)
    refine lv_aload_n hx hb d_X_answerAsk_43 rfl (lv_at hl 2 rfl) ?_
    refine gf_X_22_0 hF hG d_X_answerAsk_44 ?_
    refine lv_iconst (v := 2) hx hb d_X_answerAsk_47 z_k2 ?_
    refine lv_aload_n hx hb d_X_answerAsk_48 rfl (lv_at hl 3 rfl) ?_
    refine gf_X_155_14 hF hG hx0 (v := (S.1 14 x0 0)) rfl d_X_answerAsk_49 ?_
    refine lv_iload_n hx hb d_X_answerAsk_52 rfl (lv_at hl 4 rfl) ?_
    refine lv_lload hx hb d_X_answerAsk_53 (lv_at hl 0 rfl) ?_
    refine kc_X_132 hF (c_R_add l D C ad hF.2.2 _ _ _ _ _ (z_okc hok)) hG ⟨Nat.le_of_ble_eq_true rfl, Nat.le_of_ble_eq_true rfl⟩ ⟨Nat.zero_le _, Nat.zero_le _⟩ hl.1 (Nat.le_of_ble_eq_true rfl) d_X_answerAsk_55 (fun H locs hG => ?_)
    exact z_vret hF hr hlk hG (Eq.symm ((if_neg h9).trans rfl)) d_X_answerAsk_58
def g_X_answerFetch (S : z_S) (x0 : Nat) (x1 : Int32) : z_S := (if (S.1 12 x1.toNatClampNeg 0) = 0 then S else (g_R_add S 4 (S.1 14 x0 0) x1 (f_H_bytesOfPart S x1.toNatClampNeg (S.1 14 x0 1) (S.1 14 x0 2))))
set_option maxHeartbeats 4000000 in
set_option maxRecDepth 100000 in
theorem c_X_answerFetch (l : Launch) (D : va_G) (C : Nat → ClassId) (ad : Nat → Nat → Nat) (hJ : z_J ad) (S : z_S) (x0 : Nat) (hx0 : x0 < z_n 14) (x1 : Int32) (hok : z_Ok S) (hh : vp_in x1 3) : z_M l y_X_answerFetch b_X_answerFetch 5 none rm_X_answerFetch D C ad [.ref (ad 0 0), .ref (ad 14 x0), .int x1] S (z_Qv D C ad (g_X_answerFetch S x0 x1)) := by
  refine z_enter (by decide) (Nat.le_of_ble_eq_true rfl) hJ ?_
  intro p e s m below meth c ls hF hr hlk hl hG
  obtain ⟨hx, hb, hml, hown, hts⟩ := hF.1
  have hl : lv_has ls 5 [(0, .ref (ad 0 0)), (1, .ref (ad 14 x0)), (2, .int x1)] := hl
  refine lv_aload_n hx hb d_X_answerFetch_0 rfl (lv_at hl 0 rfl) ?_
  refine gf_X_11_0 hF hG d_X_answerFetch_1 ?_
  refine lv_iload_n hx hb d_X_answerFetch_4 rfl (lv_at hl 2 rfl) ?_
  have ho5 : x1.toNatClampNeg < z_n 12 := z_lt (n := 3) hh
  refine z_aald (n := 3) (K := 3) (t0 := 3) (Cn := R_H) (j := x1.toNatClampNeg) (v := ad 12 x1.toNatClampNeg) hF hG z_o1 (z_c1 C ad _ _ _) rfl rfl hh rfl d_X_answerFetch_5 ?_
  refine gf_X_140_12 hF hG ho5 (v := (S.1 12 x1.toNatClampNeg 0)) rfl d_X_answerFetch_6 ?_
  refine lv_if_eq (tgt := 44) hx hb d_X_answerFetch_9 rfl (fun h9 => ?_) (fun h9 => ?_)
  ·
    exact z_vret hF hr hlk hG (Eq.symm ((if_pos h9).trans rfl)) d_X_answerFetch_44
  ·
    refine lv_aload_n hx hb d_X_answerFetch_12 rfl (lv_at hl 0 rfl) ?_
    refine gf_X_11_0 hF hG d_X_answerFetch_13 ?_
    refine lv_iload_n hx hb d_X_answerFetch_16 rfl (lv_at hl 2 rfl) ?_
    have ho17 : x1.toNatClampNeg < z_n 12 := z_lt (n := 3) hh
    refine z_aald (n := 3) (K := 3) (t0 := 3) (Cn := R_H) (j := x1.toNatClampNeg) (v := ad 12 x1.toNatClampNeg) hF hG z_o1 (z_c1 C ad _ _ _) rfl rfl hh rfl d_X_answerFetch_17 ?_
    refine lv_aload_n hx hb d_X_answerFetch_18 rfl (lv_at hl 1 rfl) ?_
    refine gf_X_185_14 hF hG hx0 (v := (S.1 14 x0 1)) rfl d_X_answerFetch_19 ?_
    refine lv_aload_n hx hb d_X_answerFetch_22 rfl (lv_at hl 1 rfl) ?_
    refine gf_X_188_14 hF hG hx0 (v := (S.1 14 x0 2)) rfl d_X_answerFetch_23 ?_
    refine kc_X_195 hF (c_H_bytesOfPart l D C ad hF.2.2 _ _ ho17 _ _ (z_bp1 hok hx0) (z_bp2 hok hx0)) hG ho17 ⟨Nat.le_of_ble_eq_true rfl, Nat.le_of_ble_eq_true rfl⟩ ⟨Nat.zero_le _, Nat.zero_le _⟩ hl.1 (Nat.le_of_ble_eq_true rfl) d_X_answerFetch_26 (fun H locs hG => ?_)
    refine lv_lstore_n (lv' := [(3, .long (f_H_bytesOfPart S x1.toNatClampNeg (S.1 14 x0 1) (S.1 14 x0 2))), (0, .ref (ad 0 0)), (1, .ref (ad 14 x0)), (2, .int x1)]) hx hb d_X_answerFetch_29 rfl hl (Nat.le_of_ble_eq_true rfl) rfl (fun ls hl => ?_)
    refine lv_aload_n hx hb d_X_answerFetch_30 rfl (lv_at hl 1 rfl) ?_
    refine gf_X_22_0 hF hG d_X_answerFetch_31 ?_
    refine lv_iconst (v := 4) hx hb d_X_answerFetch_34 z_k4 ?_
    refine lv_aload_n hx hb d_X_answerFetch_35 rfl (lv_at hl 2 rfl) ?_
    refine gf_X_155_14 hF hG hx0 (v := (S.1 14 x0 0)) rfl d_X_answerFetch_36 ?_
    refine lv_iload_n hx hb d_X_answerFetch_39 rfl (lv_at hl 3 rfl) ?_
    refine lv_lload_n hx hb d_X_answerFetch_40 rfl (lv_at hl 0 rfl) ?_
    refine kc_X_132 hF (c_R_add l D C ad hF.2.2 _ _ _ _ _ (z_okc hok)) hG ⟨Nat.le_of_ble_eq_true rfl, Nat.le_of_ble_eq_true rfl⟩ ⟨Nat.zero_le _, Nat.zero_le _⟩ hl.1 (Nat.le_of_ble_eq_true rfl) d_X_answerFetch_41 (fun H locs hG => ?_)
    exact z_vret hF hr hlk hG (Eq.symm ((if_neg h9).trans rfl)) d_X_answerFetch_44
def g_X_finish (S : z_S) (x0 : Nat) (x1 : Int32) : z_S := (if x1 = 3 then (if x1 = 1 then (g_D_endIfAllDone (g_D_finishPart (z_sI (z_sI (z_sI S 9 0 ((S.1 14 x0 0).toNatClampNeg) x1) 14 x0 0 0) 0 0 7 ((S.1 0 0 7) + 1)) (S.1 14 x0 1) (S.1 14 x0 2) (S.1 14 x0 4)) (f_X_parts (g_D_finishPart (z_sI (z_sI (z_sI S 9 0 ((S.1 14 x0 0).toNatClampNeg) x1) 14 x0 0 0) 0 0 7 ((S.1 0 0 7) + 1)) (S.1 14 x0 1) (S.1 14 x0 2) (S.1 14 x0 4)))) else (if x1 = 2 then (g_D_endIfAllDone (g_D_finishPart (z_sI (z_sI (z_sI S 9 0 ((S.1 14 x0 0).toNatClampNeg) x1) 14 x0 0 0) 0 0 7 ((S.1 0 0 7) + 1)) (S.1 14 x0 1) (S.1 14 x0 2) (S.1 14 x0 4)) (f_X_parts (g_D_finishPart (z_sI (z_sI (z_sI S 9 0 ((S.1 14 x0 0).toNatClampNeg) x1) 14 x0 0 0) 0 0 7 ((S.1 0 0 7) + 1)) (S.1 14 x0 1) (S.1 14 x0 2) (S.1 14 x0 4)))) else (z_sI (z_sI (z_sI S 9 0 ((S.1 14 x0 0).toNatClampNeg) x1) 14 x0 0 0) 0 0 7 ((S.1 0 0 7) + 1)))) else (if x1 = 1 then (g_D_endIfAllDone (g_D_finishPart (z_sI (z_sI S 9 0 ((S.1 14 x0 0).toNatClampNeg) x1) 14 x0 0 0) (S.1 14 x0 1) (S.1 14 x0 2) (S.1 14 x0 4)) (f_X_parts (g_D_finishPart (z_sI (z_sI S 9 0 ((S.1 14 x0 0).toNatClampNeg) x1) 14 x0 0 0) (S.1 14 x0 1) (S.1 14 x0 2) (S.1 14 x0 4)))) else (if x1 = 2 then (g_D_endIfAllDone (g_D_finishPart (z_sI (z_sI S 9 0 ((S.1 14 x0 0).toNatClampNeg) x1) 14 x0 0 0) (S.1 14 x0 1) (S.1 14 x0 2) (S.1 14 x0 4)) (f_X_parts (g_D_finishPart (z_sI (z_sI S 9 0 ((S.1 14 x0 0).toNatClampNeg) x1) 14 x0 0 0) (S.1 14 x0 1) (S.1 14 x0 2) (S.1 14 x0 4)))) else (z_sI (z_sI S 9 0 ((S.1 14 x0 0).toNatClampNeg) x1) 14 x0 0 0))))
set_option maxHeartbeats 4000000 in
set_option maxRecDepth 100000 in
theorem c_X_finish (l : Launch) (D : va_G) (C : Nat → ClassId) (ad : Nat → Nat → Nat) (hJ : z_J ad) (S : z_S) (x0 : Nat) (hx0 : x0 < z_n 14) (x1 : Int32) (hok : z_Ok S) : z_M l y_X_finish b_X_finish 3 none rm_X_finish D C ad [.ref (ad 0 0), .ref (ad 14 x0), .int x1] S (z_Qv D C ad (g_X_finish S x0 x1)) := by
  refine z_enter (by decide) (Nat.le_of_ble_eq_true rfl) hJ ?_
  intro p e s m below meth c ls hF hr hlk hl hG
  obtain ⟨hx, hb, hml, hown, hts⟩ := hF.1
  have hl : lv_has ls 3 [(0, .ref (ad 0 0)), (1, .ref (ad 14 x0)), (2, .int x1)] := hl
  refine lv_aload_n hx hb d_X_finish_0 rfl (lv_at hl 0 rfl) ?_
  refine gf_X_32_0 hF hG d_X_finish_1 ?_
  refine lv_aload_n hx hb d_X_finish_4 rfl (lv_at hl 1 rfl) ?_
  refine gf_X_155_14 hF hG hx0 (v := (S.1 14 x0 0)) rfl d_X_finish_5 ?_
  refine lv_iload_n hx hb d_X_finish_8 rfl (lv_at hl 2 rfl) ?_
  refine z_iast (n := 513) (j := (S.1 14 x0 0).toNatClampNeg) hF hG z_o9 (fun f g => z_c9 C ad f g _) rfl (z_npt hok hx0) d_X_finish_9 (fun H locs hG => ?_)
  refine lv_aload_n hx hb d_X_finish_10 rfl (lv_at hl 1 rfl) ?_
  refine lv_iconst (v := 0) hx hb d_X_finish_11 z_k0 ?_
  refine pf_X_155_14 hF hG hx0 d_X_finish_12 (fun H locs hG => ?_)
  refine lv_iload_n hx hb d_X_finish_15 rfl (lv_at hl 2 rfl) ?_
  refine lv_iconst (v := 3) hx hb d_X_finish_16 z_k3 ?_
  refine lv_icmp_ne (tgt := 30) hx hb d_X_finish_17 rfl (fun h17 => ?_) (fun h17 => ?_)
  ·
    refine lv_iload_n hx hb d_X_finish_30 rfl (lv_at hl 2 rfl) ?_
    refine lv_iconst (v := 1) hx hb d_X_finish_31 z_k1 ?_
    refine lv_icmp_eq (tgt := 40) hx hb d_X_finish_32 rfl (fun h32 => ?_) (fun h32 => ?_)
    ·
      refine lv_aload_n hx hb d_X_finish_40 rfl (lv_at hl 0 rfl) ?_
      refine gf_X_38_0 hF hG d_X_finish_41 ?_
      refine lv_aload_n hx hb d_X_finish_44 rfl (lv_at hl 1 rfl) ?_
      refine gf_X_185_14 hF hG hx0 (v := (S.1 14 x0 1)) (by simp [z_rI, z_rL, z_rIL, z_rLI]) d_X_finish_45 ?_
      refine lv_aload_n hx hb d_X_finish_48 rfl (lv_at hl 1 rfl) ?_
      refine gf_X_188_14 hF hG hx0 (v := (S.1 14 x0 2)) (by simp [z_rI, z_rL, z_rIL, z_rLI]) d_X_finish_49 ?_
      refine lv_aload_n hx hb d_X_finish_52 rfl (lv_at hl 1 rfl) ?_
      refine gf_X_228_14 hF hG hx0 (v := (S.1 14 x0 4)) (by simp [z_rI, z_rL, z_rIL, z_rLI]) d_X_finish_53 ?_
      refine kc_X_231 hF (c_D_finishPart l D C ad hF.2.2 _ _ _ _ (z_fp hok hx0)) hG ⟨Nat.le_of_ble_eq_true rfl, Nat.le_of_ble_eq_true rfl⟩ ⟨Nat.zero_le _, Nat.zero_le _⟩ hl.1 (Nat.le_of_ble_eq_true rfl) d_X_finish_56 (fun H locs hG => ?_)
      refine lv_aload_n hx hb d_X_finish_59 rfl (lv_at hl 0 rfl) ?_
      refine gf_X_38_0 hF hG d_X_finish_60 ?_
      refine lv_aload_n hx hb d_X_finish_63 rfl (lv_at hl 0 rfl) ?_
      refine kc_X_234 hF (c_X_parts l D C ad hF.2.2 _ ) hG ⟨Nat.le_of_ble_eq_true rfl, Nat.le_of_ble_eq_true rfl⟩ ⟨Nat.zero_le _, Nat.zero_le _⟩ hl.1 (Nat.le_of_ble_eq_true rfl) d_X_finish_64 (fun H locs hG => ?_)
      refine kc_X_238 hF (c_D_endIfAllDone l D C ad hF.2.2 _ _ ) hG ⟨Nat.le_of_ble_eq_true rfl, Nat.le_of_ble_eq_true rfl⟩ ⟨Nat.zero_le _, Nat.zero_le _⟩ hl.1 (Nat.le_of_ble_eq_true rfl) d_X_finish_67 (fun H locs hG => ?_)
      exact z_vret hF hr hlk hG (Eq.symm ((if_neg h17).trans ((if_pos h32).trans rfl))) d_X_finish_70
    ·
      refine lv_iload_n hx hb d_X_finish_35 rfl (lv_at hl 2 rfl) ?_
      refine lv_iconst (v := 2) hx hb d_X_finish_36 z_k2 ?_
      refine lv_icmp_ne (tgt := 70) hx hb d_X_finish_37 rfl (fun h37 => ?_) (fun h37 => ?_)
      ·
        exact z_vret hF hr hlk hG (Eq.symm ((if_neg h17).trans ((if_neg h32).trans ((if_neg h37).trans rfl)))) d_X_finish_70
      ·
        refine lv_aload_n hx hb d_X_finish_40 rfl (lv_at hl 0 rfl) ?_
        refine gf_X_38_0 hF hG d_X_finish_41 ?_
        refine lv_aload_n hx hb d_X_finish_44 rfl (lv_at hl 1 rfl) ?_
        refine gf_X_185_14 hF hG hx0 (v := (S.1 14 x0 1)) (by simp [z_rI, z_rL, z_rIL, z_rLI]) d_X_finish_45 ?_
        refine lv_aload_n hx hb d_X_finish_48 rfl (lv_at hl 1 rfl) ?_
        refine gf_X_188_14 hF hG hx0 (v := (S.1 14 x0 2)) (by simp [z_rI, z_rL, z_rIL, z_rLI]) d_X_finish_49 ?_
        refine lv_aload_n hx hb d_X_finish_52 rfl (lv_at hl 1 rfl) ?_
        refine gf_X_228_14 hF hG hx0 (v := (S.1 14 x0 4)) (by simp [z_rI, z_rL, z_rIL, z_rLI]) d_X_finish_53 ?_
        refine kc_X_231 hF (c_D_finishPart l D C ad hF.2.2 _ _ _ _ (z_fp hok hx0)) hG ⟨Nat.le_of_ble_eq_true rfl, Nat.le_of_ble_eq_true rfl⟩ ⟨Nat.zero_le _, Nat.zero_le _⟩ hl.1 (Nat.le_of_ble_eq_true rfl) d_X_finish_56 (fun H locs hG => ?_)
        refine lv_aload_n hx hb d_X_finish_59 rfl (lv_at hl 0 rfl) ?_
        refine gf_X_38_0 hF hG d_X_finish_60 ?_
        refine lv_aload_n hx hb d_X_finish_63 rfl (lv_at hl 0 rfl) ?_
        refine kc_X_234 hF (c_X_parts l D C ad hF.2.2 _ ) hG ⟨Nat.le_of_ble_eq_true rfl, Nat.le_of_ble_eq_true rfl⟩ ⟨Nat.zero_le _, Nat.zero_le _⟩ hl.1 (Nat.le_of_ble_eq_true rfl) d_X_finish_64 (fun H locs hG => ?_)
        refine kc_X_238 hF (c_D_endIfAllDone l D C ad hF.2.2 _ _ ) hG ⟨Nat.le_of_ble_eq_true rfl, Nat.le_of_ble_eq_true rfl⟩ ⟨Nat.zero_le _, Nat.zero_le _⟩ hl.1 (Nat.le_of_ble_eq_true rfl) d_X_finish_67 (fun H locs hG => ?_)
        exact z_vret hF hr hlk hG (Eq.symm ((if_neg h17).trans ((if_neg h32).trans ((if_pos h37).trans rfl)))) d_X_finish_70
  ·
    refine lv_aload_n hx hb d_X_finish_20 rfl (lv_at hl 0 rfl) ?_
    refine lv_dup hx hb d_X_finish_21 rfl ?_
    refine gf_X_46_0 hF hG (v := (S.1 0 0 7)) rfl d_X_finish_22 ?_
    refine lv_iconst (v := 1) hx hb d_X_finish_25 z_k1 ?_
    refine lv_iadd hx hb d_X_finish_26 ?_
    refine pf_X_46_0 hF hG d_X_finish_27 (fun H locs hG => ?_)
    refine lv_iload_n hx hb d_X_finish_30 rfl (lv_at hl 2 rfl) ?_
    refine lv_iconst (v := 1) hx hb d_X_finish_31 z_k1 ?_
    refine lv_icmp_eq (tgt := 40) hx hb d_X_finish_32 rfl (fun h32 => ?_) (fun h32 => ?_)
    ·
      refine lv_aload_n hx hb d_X_finish_40 rfl (lv_at hl 0 rfl) ?_
      refine gf_X_38_0 hF hG d_X_finish_41 ?_
      refine lv_aload_n hx hb d_X_finish_44 rfl (lv_at hl 1 rfl) ?_
      refine gf_X_185_14 hF hG hx0 (v := (S.1 14 x0 1)) (by simp [z_rI, z_rL, z_rIL, z_rLI]) d_X_finish_45 ?_
      refine lv_aload_n hx hb d_X_finish_48 rfl (lv_at hl 1 rfl) ?_
      refine gf_X_188_14 hF hG hx0 (v := (S.1 14 x0 2)) (by simp [z_rI, z_rL, z_rIL, z_rLI]) d_X_finish_49 ?_
      refine lv_aload_n hx hb d_X_finish_52 rfl (lv_at hl 1 rfl) ?_
      refine gf_X_228_14 hF hG hx0 (v := (S.1 14 x0 4)) (by simp [z_rI, z_rL, z_rIL, z_rLI]) d_X_finish_53 ?_
      refine kc_X_231 hF (c_D_finishPart l D C ad hF.2.2 _ _ _ _ (z_fp hok hx0)) hG ⟨Nat.le_of_ble_eq_true rfl, Nat.le_of_ble_eq_true rfl⟩ ⟨Nat.zero_le _, Nat.zero_le _⟩ hl.1 (Nat.le_of_ble_eq_true rfl) d_X_finish_56 (fun H locs hG => ?_)
      refine lv_aload_n hx hb d_X_finish_59 rfl (lv_at hl 0 rfl) ?_
      refine gf_X_38_0 hF hG d_X_finish_60 ?_
      refine lv_aload_n hx hb d_X_finish_63 rfl (lv_at hl 0 rfl) ?_
      refine kc_X_234 hF (c_X_parts l D C ad hF.2.2 _ ) hG ⟨Nat.le_of_ble_eq_true rfl, Nat.le_of_ble_eq_true rfl⟩ ⟨Nat.zero_le _, Nat.zero_le _⟩ hl.1 (Nat.le_of_ble_eq_true rfl) d_X_finish_64 (fun H locs hG => ?_)
      refine kc_X_238 hF (c_D_endIfAllDone l D C ad hF.2.2 _ _ ) hG ⟨Nat.le_of_ble_eq_true rfl, Nat.le_of_ble_eq_true rfl⟩ ⟨Nat.zero_le _, Nat.zero_le _⟩ hl.1 (Nat.le_of_ble_eq_true rfl) d_X_finish_67 (fun H locs hG => ?_)
      exact z_vret hF hr hlk hG (Eq.symm ((if_pos h17).trans ((if_pos h32).trans rfl))) d_X_finish_70
    ·
      refine lv_iload_n hx hb d_X_finish_35 rfl (lv_at hl 2 rfl) ?_
      refine lv_iconst (v := 2) hx hb d_X_finish_36 z_k2 ?_
      refine lv_icmp_ne (tgt := 70) hx hb d_X_finish_37 rfl (fun h37 => ?_) (fun h37 => ?_)
      ·
        exact z_vret hF hr hlk hG (Eq.symm ((if_pos h17).trans ((if_neg h32).trans ((if_neg h37).trans rfl)))) d_X_finish_70
      ·
        refine lv_aload_n hx hb d_X_finish_40 rfl (lv_at hl 0 rfl) ?_
        refine gf_X_38_0 hF hG d_X_finish_41 ?_
        refine lv_aload_n hx hb d_X_finish_44 rfl (lv_at hl 1 rfl) ?_
        refine gf_X_185_14 hF hG hx0 (v := (S.1 14 x0 1)) (by simp [z_rI, z_rL, z_rIL, z_rLI]) d_X_finish_45 ?_
        refine lv_aload_n hx hb d_X_finish_48 rfl (lv_at hl 1 rfl) ?_
        refine gf_X_188_14 hF hG hx0 (v := (S.1 14 x0 2)) (by simp [z_rI, z_rL, z_rIL, z_rLI]) d_X_finish_49 ?_
        refine lv_aload_n hx hb d_X_finish_52 rfl (lv_at hl 1 rfl) ?_
        refine gf_X_228_14 hF hG hx0 (v := (S.1 14 x0 4)) (by simp [z_rI, z_rL, z_rIL, z_rLI]) d_X_finish_53 ?_
        refine kc_X_231 hF (c_D_finishPart l D C ad hF.2.2 _ _ _ _ (z_fp hok hx0)) hG ⟨Nat.le_of_ble_eq_true rfl, Nat.le_of_ble_eq_true rfl⟩ ⟨Nat.zero_le _, Nat.zero_le _⟩ hl.1 (Nat.le_of_ble_eq_true rfl) d_X_finish_56 (fun H locs hG => ?_)
        refine lv_aload_n hx hb d_X_finish_59 rfl (lv_at hl 0 rfl) ?_
        refine gf_X_38_0 hF hG d_X_finish_60 ?_
        refine lv_aload_n hx hb d_X_finish_63 rfl (lv_at hl 0 rfl) ?_
        refine kc_X_234 hF (c_X_parts l D C ad hF.2.2 _ ) hG ⟨Nat.le_of_ble_eq_true rfl, Nat.le_of_ble_eq_true rfl⟩ ⟨Nat.zero_le _, Nat.zero_le _⟩ hl.1 (Nat.le_of_ble_eq_true rfl) d_X_finish_64 (fun H locs hG => ?_)
        refine kc_X_238 hF (c_D_endIfAllDone l D C ad hF.2.2 _ _ ) hG ⟨Nat.le_of_ble_eq_true rfl, Nat.le_of_ble_eq_true rfl⟩ ⟨Nat.zero_le _, Nat.zero_le _⟩ hl.1 (Nat.le_of_ble_eq_true rfl) d_X_finish_67 (fun H locs hG => ?_)
        exact z_vret hF hr hlk hG (Eq.symm ((if_pos h17).trans ((if_neg h32).trans ((if_pos h37).trans rfl)))) d_X_finish_70
def f_X_areCopiesCurrent (S : z_S) (x0 : Nat) : Int32 := (if (lg_cmp (f_H_bytesOfPart S 0 (S.1 14 x0 1) (S.1 14 x0 2)) (S.2 20 x0 0)) = 0 then (if (lg_cmp (f_H_bytesOfPart S 1 (S.1 14 x0 1) (S.1 14 x0 2)) (S.2 20 x0 1)) = 0 then (if (lg_cmp (f_H_bytesOfPart S 2 (S.1 14 x0 1) (S.1 14 x0 2)) (S.2 20 x0 2)) = 0 then 1 else 0) else 0) else 0)
set_option maxHeartbeats 4000000 in
set_option maxRecDepth 100000 in
theorem c_X_areCopiesCurrent (l : Launch) (D : va_G) (C : Nat → ClassId) (ad : Nat → Nat → Nat) (hJ : z_J ad) (S : z_S) (x0 : Nat) (hx0 : x0 < z_n 14) (hok : z_Ok S) : z_M l y_X_areCopiesCurrent b_X_areCopiesCurrent 3 (some .boolean) rm_X_areCopiesCurrent D C ad [.ref (ad 0 0), .ref (ad 14 x0)] S (z_Qi D C ad (f_X_areCopiesCurrent S x0) S) := by
  refine z_enter (by decide) (Nat.le_of_ble_eq_true rfl) hJ ?_
  intro p e s m below meth c ls hF hr hlk hl hG
  obtain ⟨hx, hb, hml, hown, hts⟩ := hF.1
  have hl : lv_has ls 3 [(0, .ref (ad 0 0)), (1, .ref (ad 14 x0))] := hl
  refine lv_iconst (v := 0) hx hb d_X_areCopiesCurrent_0 z_k0 ?_
  refine lv_istore_n (lv' := [(2, .int 0), (0, .ref (ad 0 0)), (1, .ref (ad 14 x0))]) hx hb d_X_areCopiesCurrent_1 rfl hl (Nat.le_of_ble_eq_true rfl) rfl (fun ls hl => ?_)
  refine lv_iload_n hx hb d_X_areCopiesCurrent_2 rfl (lv_at hl 0 rfl) ?_
  refine lv_iconst (v := 3) hx hb d_X_areCopiesCurrent_3 z_k3 ?_
  refine lv_icmp_ge (tgt := 45) hx hb d_X_areCopiesCurrent_4 rfl (fun h => absurd h (by decide)) (fun _ => ?_)
  refine lv_aload_n hx hb d_X_areCopiesCurrent_7 rfl (lv_at hl 1 rfl) ?_
  refine gf_X_11_0 hF hG d_X_areCopiesCurrent_8 ?_
  refine lv_iload_n hx hb d_X_areCopiesCurrent_11 rfl (lv_at hl 0 rfl) ?_
  refine z_aald (n := 3) (K := 3) (t0 := 3) (Cn := R_H) (j := 0) (v := ad 12 0) hF hG z_o1 (z_c1 C ad _ _ _) rfl z_q0 z_in0_3 rfl d_X_areCopiesCurrent_12 ?_
  refine lv_aload_n hx hb d_X_areCopiesCurrent_13 rfl (lv_at hl 2 rfl) ?_
  refine gf_X_185_14 hF hG hx0 (v := (S.1 14 x0 1)) rfl d_X_areCopiesCurrent_14 ?_
  refine lv_aload_n hx hb d_X_areCopiesCurrent_17 rfl (lv_at hl 2 rfl) ?_
  refine gf_X_188_14 hF hG hx0 (v := (S.1 14 x0 2)) rfl d_X_areCopiesCurrent_18 ?_
  refine kc_X_195 hF (c_H_bytesOfPart l D C ad hF.2.2 _ _ z_o12_0 _ _ (z_bp1 hok hx0) (z_bp2 hok hx0)) hG z_o12_0 ⟨Nat.le_of_ble_eq_true rfl, Nat.le_of_ble_eq_true rfl⟩ ⟨Nat.zero_le _, Nat.zero_le _⟩ hl.1 (Nat.le_of_ble_eq_true rfl) d_X_areCopiesCurrent_21 (fun H locs hG => ?_)
  refine lv_aload_n hx hb d_X_areCopiesCurrent_24 rfl (lv_at hl 2 rfl) ?_
  refine gf_X_165_14 hF hG hx0 d_X_areCopiesCurrent_25 ?_
  refine gf_X_219_18 hF hG hx0 d_X_areCopiesCurrent_28 ?_
  refine lv_iload_n hx hb d_X_areCopiesCurrent_31 rfl (lv_at hl 0 rfl) ?_
  refine z_lald (n := 3) (j := 0) (v := (S.2 20 x0 0)) hF hG hx0 (z_c20 C ad _ _ _) z_q0 z_in0_3 rfl d_X_areCopiesCurrent_32 ?_
  refine W.lcmp hx hb d_X_areCopiesCurrent_33 ?_
  refine lv_if_eq (tgt := 39) hx hb d_X_areCopiesCurrent_34 rfl (fun h34 => ?_) (fun h34 => ?_)
  ·
    refine lv_iinc (k := 0) (v := 1) (lv' := [(2, .int 1), (0, .ref (ad 0 0)), (1, .ref (ad 14 x0))]) hx hb d_X_areCopiesCurrent_39 hl rfl (by decide) (Nat.le_of_ble_eq_true rfl) rfl (fun ls hl => ?_)
    refine lv_goto (tgt := 2) hx hb d_X_areCopiesCurrent_42 rfl ?_
    refine lv_iload_n hx hb d_X_areCopiesCurrent_2 rfl (lv_at hl 0 rfl) ?_
    refine lv_iconst (v := 3) hx hb d_X_areCopiesCurrent_3 z_k3 ?_
    refine lv_icmp_ge (tgt := 45) hx hb d_X_areCopiesCurrent_4 rfl (fun h => absurd h (by decide)) (fun _ => ?_)
    refine lv_aload_n hx hb d_X_areCopiesCurrent_7 rfl (lv_at hl 1 rfl) ?_
    refine gf_X_11_0 hF hG d_X_areCopiesCurrent_8 ?_
    refine lv_iload_n hx hb d_X_areCopiesCurrent_11 rfl (lv_at hl 0 rfl) ?_
    refine z_aald (n := 3) (K := 3) (t0 := 3) (Cn := R_H) (j := 1) (v := ad 12 1) hF hG z_o1 (z_c1 C ad _ _ _) rfl z_q1 z_in1_3 rfl d_X_areCopiesCurrent_12 ?_
    refine lv_aload_n hx hb d_X_areCopiesCurrent_13 rfl (lv_at hl 2 rfl) ?_
    refine gf_X_185_14 hF hG hx0 (v := (S.1 14 x0 1)) rfl d_X_areCopiesCurrent_14 ?_
    refine lv_aload_n hx hb d_X_areCopiesCurrent_17 rfl (lv_at hl 2 rfl) ?_
    refine gf_X_188_14 hF hG hx0 (v := (S.1 14 x0 2)) rfl d_X_areCopiesCurrent_18 ?_
    refine kc_X_195 hF (c_H_bytesOfPart l D C ad hF.2.2 _ _ z_o12_1 _ _ (z_bp1 hok hx0) (z_bp2 hok hx0)) hG z_o12_1 ⟨Nat.le_of_ble_eq_true rfl, Nat.le_of_ble_eq_true rfl⟩ ⟨Nat.zero_le _, Nat.zero_le _⟩ hl.1 (Nat.le_of_ble_eq_true rfl) d_X_areCopiesCurrent_21 (fun H locs hG => ?_)
    refine lv_aload_n hx hb d_X_areCopiesCurrent_24 rfl (lv_at hl 2 rfl) ?_
    refine gf_X_165_14 hF hG hx0 d_X_areCopiesCurrent_25 ?_
    refine gf_X_219_18 hF hG hx0 d_X_areCopiesCurrent_28 ?_
    refine lv_iload_n hx hb d_X_areCopiesCurrent_31 rfl (lv_at hl 0 rfl) ?_
    refine z_lald (n := 3) (j := 1) (v := (S.2 20 x0 1)) hF hG hx0 (z_c20 C ad _ _ _) z_q1 z_in1_3 rfl d_X_areCopiesCurrent_32 ?_
    refine W.lcmp hx hb d_X_areCopiesCurrent_33 ?_
    refine lv_if_eq (tgt := 39) hx hb d_X_areCopiesCurrent_34 rfl (fun h34_1 => ?_) (fun h34_1 => ?_)
    ·
      refine lv_iinc (k := 0) (v := 2) (lv' := [(2, .int 2), (0, .ref (ad 0 0)), (1, .ref (ad 14 x0))]) hx hb d_X_areCopiesCurrent_39 hl rfl (by decide) (Nat.le_of_ble_eq_true rfl) rfl (fun ls hl => ?_)
      refine lv_goto (tgt := 2) hx hb d_X_areCopiesCurrent_42 rfl ?_
      refine lv_iload_n hx hb d_X_areCopiesCurrent_2 rfl (lv_at hl 0 rfl) ?_
      refine lv_iconst (v := 3) hx hb d_X_areCopiesCurrent_3 z_k3 ?_
      refine lv_icmp_ge (tgt := 45) hx hb d_X_areCopiesCurrent_4 rfl (fun h => absurd h (by decide)) (fun _ => ?_)
      refine lv_aload_n hx hb d_X_areCopiesCurrent_7 rfl (lv_at hl 1 rfl) ?_
      refine gf_X_11_0 hF hG d_X_areCopiesCurrent_8 ?_
      refine lv_iload_n hx hb d_X_areCopiesCurrent_11 rfl (lv_at hl 0 rfl) ?_
      refine z_aald (n := 3) (K := 3) (t0 := 3) (Cn := R_H) (j := 2) (v := ad 12 2) hF hG z_o1 (z_c1 C ad _ _ _) rfl z_q2 z_in2_3 rfl d_X_areCopiesCurrent_12 ?_
      refine lv_aload_n hx hb d_X_areCopiesCurrent_13 rfl (lv_at hl 2 rfl) ?_
      refine gf_X_185_14 hF hG hx0 (v := (S.1 14 x0 1)) rfl d_X_areCopiesCurrent_14 ?_
      refine lv_aload_n hx hb d_X_areCopiesCurrent_17 rfl (lv_at hl 2 rfl) ?_
      refine gf_X_188_14 hF hG hx0 (v := (S.1 14 x0 2)) rfl d_X_areCopiesCurrent_18 ?_
      refine kc_X_195 hF (c_H_bytesOfPart l D C ad hF.2.2 _ _ z_o12_2 _ _ (z_bp1 hok hx0) (z_bp2 hok hx0)) hG z_o12_2 ⟨Nat.le_of_ble_eq_true rfl, Nat.le_of_ble_eq_true rfl⟩ ⟨Nat.zero_le _, Nat.zero_le _⟩ hl.1 (Nat.le_of_ble_eq_true rfl) d_X_areCopiesCurrent_21 (fun H locs hG => ?_)
      refine lv_aload_n hx hb d_X_areCopiesCurrent_24 rfl (lv_at hl 2 rfl) ?_
      refine gf_X_165_14 hF hG hx0 d_X_areCopiesCurrent_25 ?_
      refine gf_X_219_18 hF hG hx0 d_X_areCopiesCurrent_28 ?_
      refine lv_iload_n hx hb d_X_areCopiesCurrent_31 rfl (lv_at hl 0 rfl) ?_
      refine z_lald (n := 3) (j := 2) (v := (S.2 20 x0 2)) hF hG hx0 (z_c20 C ad _ _ _) z_q2 z_in2_3 rfl d_X_areCopiesCurrent_32 ?_
      refine W.lcmp hx hb d_X_areCopiesCurrent_33 ?_
      refine lv_if_eq (tgt := 39) hx hb d_X_areCopiesCurrent_34 rfl (fun h34_2 => ?_) (fun h34_2 => ?_)
      ·
        refine lv_iinc (k := 0) (v := 3) (lv' := [(2, .int 3), (0, .ref (ad 0 0)), (1, .ref (ad 14 x0))]) hx hb d_X_areCopiesCurrent_39 hl rfl (by decide) (Nat.le_of_ble_eq_true rfl) rfl (fun ls hl => ?_)
        refine lv_goto (tgt := 2) hx hb d_X_areCopiesCurrent_42 rfl ?_
        refine lv_iload_n hx hb d_X_areCopiesCurrent_2 rfl (lv_at hl 0 rfl) ?_
        refine lv_iconst (v := 3) hx hb d_X_areCopiesCurrent_3 z_k3 ?_
        refine lv_icmp_ge (tgt := 45) hx hb d_X_areCopiesCurrent_4 rfl (fun _ => ?_) (fun h => absurd h (by decide))
        refine lv_iconst (v := 1) hx hb d_X_areCopiesCurrent_45 z_k1 ?_
        exact z_zret hF hr hlk rfl hG (Eq.symm ((if_pos h34).trans ((if_pos h34_1).trans ((if_pos h34_2).trans rfl)))) rfl d_X_areCopiesCurrent_46
      ·
        refine lv_iconst (v := 0) hx hb d_X_areCopiesCurrent_37 z_k0 ?_
        exact z_zret hF hr hlk rfl hG (Eq.symm ((if_pos h34).trans ((if_pos h34_1).trans ((if_neg h34_2).trans rfl)))) rfl d_X_areCopiesCurrent_38
    ·
      refine lv_iconst (v := 0) hx hb d_X_areCopiesCurrent_37 z_k0 ?_
      exact z_zret hF hr hlk rfl hG (Eq.symm ((if_pos h34).trans ((if_neg h34_1).trans rfl))) rfl d_X_areCopiesCurrent_38
  ·
    refine lv_iconst (v := 0) hx hb d_X_areCopiesCurrent_37 z_k0 ?_
    exact z_zret hF hr hlk rfl hG (Eq.symm ((if_neg h34).trans rfl)) rfl d_X_areCopiesCurrent_38
def rg_X_mendBlock_7_S1 (S : z_S) (v1 : Nat) (v2 : Int32) (v3 : Int32) : z_S := (if (f_P_copiedBlock S v1 v3 v2) = (f_P_copiedBlock S v1 ((v3 + 1) - (v3 + 1) / 3 * 3) v2) then S else (if (f_P_copiedBlock S v1 ((v3 + 1) - (v3 + 1) / 3 * 3) v2) = (f_P_copiedBlock S v1 ((v3 + 2) - (v3 + 2) / 3 * 3) v2) then (g_H_mend S v3.toNatClampNeg (S.1 14 v1 1) ((S.1 14 v1 2) + (v2 * 8)) (f_P_copiedBlock S v1 ((v3 + 1) - (v3 + 1) / 3 * 3) v2)) else S))
set_option maxHeartbeats 4000000 in
set_option maxRecDepth 100000 in
theorem rg_X_mendBlock_7 {D : va_G} {C : Nat → ClassId} {ad : Nat → Nat → Nat} {S : z_S} {p : Program} {l : Launch} {e : Env} {s : State} {m : MethodId} {args : Array Value} {below : List Frame} {meth : Method} {c : Code} {H H0 : Heap} {locs : List Loc} {Q : State → Prop} {ls : Array Slot} {v1 : Nat} {v2 : Int32} {v3 : Int32}  (hF : z_F D C ad p m c b_X_mendBlock 7 s args R_X) (hv1 : v1 < z_n 14) (hok : z_Ok S) (hv : vp_in v3 3) (hh : vp_in v2 2) (hG : z_G D C ad H0 S H locs) (hl : lv_has ls 7 [(0, .ref (ad 0 0)), (1, .ref (ad 14 v1)), (2, .int v2), (3, .int v3)]) (kk : ∀ (H : Heap) (locs : List Loc) (ls : Array Slot) (S1 : z_S), z_G D C ad H0 S1 H locs → lv_has ls 7 [(0, .ref (ad 0 0)), (1, .ref (ad 14 v1)), (2, .int v2), (3, .int v3)] → S1 = rg_X_mendBlock_7_S1 S v1 v2 v3 → W p l e rm_X_mendBlock s m args below meth c H locs 0 0 Q (F0 m 77 ls [])) : W p l e rm_X_mendBlock s m args below meth c H locs 0 0 Q (F0 m 7 ls []) := by
  obtain ⟨hx, hb, hml, hown, hts⟩ := hF.1
  refine lv_aload_n hx hb d_X_mendBlock_7 rfl (lv_at hl 1 rfl) ?_
  refine lv_iload_n hx hb d_X_mendBlock_8 rfl (lv_at hl 3 rfl) ?_
  refine lv_iload_n hx hb d_X_mendBlock_9 rfl (lv_at hl 2 rfl) ?_
  refine kc_X_222 hF (c_P_copiedBlock l D C ad hF.2.2 _ _ hv1 _ _ hv) hG hv1 ⟨Nat.le_of_ble_eq_true rfl, Nat.le_of_ble_eq_true rfl⟩ ⟨Nat.zero_le _, Nat.zero_le _⟩ hl.1 (Nat.le_of_ble_eq_true rfl) d_X_mendBlock_10 (fun H locs hG => ?_)
  refine lv_istore (lv' := [(4, .int (f_P_copiedBlock S v1 v3 v2)), (0, .ref (ad 0 0)), (1, .ref (ad 14 v1)), (2, .int v2), (3, .int v3)]) hx hb d_X_mendBlock_13 hl (Nat.le_of_ble_eq_true rfl) rfl (fun ls hl => ?_)
  refine lv_aload_n hx hb d_X_mendBlock_15 rfl (lv_at hl 2 rfl) ?_
  refine lv_iload_n hx hb d_X_mendBlock_16 rfl (lv_at hl 4 rfl) ?_
  refine lv_iconst (v := 1) hx hb d_X_mendBlock_17 z_k1 ?_
  refine lv_iadd hx hb d_X_mendBlock_18 ?_
  refine lv_iconst (v := 3) hx hb d_X_mendBlock_19 z_k3 ?_
  refine lv_irem hx hb d_X_mendBlock_20 (by decide) ?_
  refine lv_iload_n hx hb d_X_mendBlock_21 rfl (lv_at hl 3 rfl) ?_
  refine kc_X_222 hF (c_P_copiedBlock l D C ad hF.2.2 _ _ hv1 _ _ (z_m31 hv)) hG hv1 ⟨Nat.le_of_ble_eq_true rfl, Nat.le_of_ble_eq_true rfl⟩ ⟨Nat.zero_le _, Nat.zero_le _⟩ hl.1 (Nat.le_of_ble_eq_true rfl) d_X_mendBlock_22 (fun H locs hG => ?_)
  refine lv_istore (lv' := [(5, .int (f_P_copiedBlock S v1 ((v3 + 1) - (v3 + 1) / 3 * 3) v2)), (4, .int (f_P_copiedBlock S v1 v3 v2)), (0, .ref (ad 0 0)), (1, .ref (ad 14 v1)), (2, .int v2), (3, .int v3)]) hx hb d_X_mendBlock_25 hl (Nat.le_of_ble_eq_true rfl) rfl (fun ls hl => ?_)
  refine lv_aload_n hx hb d_X_mendBlock_27 rfl (lv_at hl 3 rfl) ?_
  refine lv_iload_n hx hb d_X_mendBlock_28 rfl (lv_at hl 5 rfl) ?_
  refine lv_iconst (v := 2) hx hb d_X_mendBlock_29 z_k2 ?_
  refine lv_iadd hx hb d_X_mendBlock_30 ?_
  refine lv_iconst (v := 3) hx hb d_X_mendBlock_31 z_k3 ?_
  refine lv_irem hx hb d_X_mendBlock_32 (by decide) ?_
  refine lv_iload_n hx hb d_X_mendBlock_33 rfl (lv_at hl 4 rfl) ?_
  refine kc_X_222 hF (c_P_copiedBlock l D C ad hF.2.2 _ _ hv1 _ _ (z_m32 hv)) hG hv1 ⟨Nat.le_of_ble_eq_true rfl, Nat.le_of_ble_eq_true rfl⟩ ⟨Nat.zero_le _, Nat.zero_le _⟩ hl.1 (Nat.le_of_ble_eq_true rfl) d_X_mendBlock_34 (fun H locs hG => ?_)
  refine lv_istore (lv' := [(6, .int (f_P_copiedBlock S v1 ((v3 + 2) - (v3 + 2) / 3 * 3) v2)), (5, .int (f_P_copiedBlock S v1 ((v3 + 1) - (v3 + 1) / 3 * 3) v2)), (4, .int (f_P_copiedBlock S v1 v3 v2)), (0, .ref (ad 0 0)), (1, .ref (ad 14 v1)), (2, .int v2), (3, .int v3)]) hx hb d_X_mendBlock_37 hl (Nat.le_of_ble_eq_true rfl) rfl (fun ls hl => ?_)
  refine lv_iload hx hb d_X_mendBlock_39 (lv_at hl 2 rfl) ?_
  refine lv_iload hx hb d_X_mendBlock_41 (lv_at hl 1 rfl) ?_
  refine lv_icmp_eq (tgt := 77) hx hb d_X_mendBlock_43 rfl (fun h43 => ?_) (fun h43 => ?_)
  ·
    exact kk _ _ _ _ hG (lv_sub hl [3, 4, 5, 6] rfl) (Eq.symm ((if_pos h43).trans rfl))
  ·
    refine lv_iload hx hb d_X_mendBlock_46 (lv_at hl 1 rfl) ?_
    refine lv_iload hx hb d_X_mendBlock_48 (lv_at hl 0 rfl) ?_
    refine lv_icmp_ne (tgt := 77) hx hb d_X_mendBlock_50 rfl (fun h50 => ?_) (fun h50 => ?_)
    ·
      exact kk _ _ _ _ hG (lv_sub hl [3, 4, 5, 6] rfl) (Eq.symm ((if_neg h43).trans ((if_neg h50).trans rfl)))
    ·
      refine lv_aload_n hx hb d_X_mendBlock_53 rfl (lv_at hl 3 rfl) ?_
      refine gf_X_11_0 hF hG d_X_mendBlock_54 ?_
      refine lv_iload_n hx hb d_X_mendBlock_57 rfl (lv_at hl 6 rfl) ?_
      have ho58 : v3.toNatClampNeg < z_n 12 := z_lt (n := 3) hv
      refine z_aald (n := 3) (K := 3) (t0 := 3) (Cn := R_H) (j := v3.toNatClampNeg) (v := ad 12 v3.toNatClampNeg) hF hG z_o1 (z_c1 C ad _ _ _) rfl rfl hv rfl d_X_mendBlock_58 ?_
      refine lv_aload_n hx hb d_X_mendBlock_59 rfl (lv_at hl 4 rfl) ?_
      refine gf_X_185_14 hF hG hv1 (v := (S.1 14 v1 1)) rfl d_X_mendBlock_60 ?_
      refine lv_aload_n hx hb d_X_mendBlock_63 rfl (lv_at hl 4 rfl) ?_
      refine gf_X_188_14 hF hG hv1 (v := (S.1 14 v1 2)) rfl d_X_mendBlock_64 ?_
      refine lv_iload_n hx hb d_X_mendBlock_67 rfl (lv_at hl 5 rfl) ?_
      refine lv_bipush (v := 8) hx hb d_X_mendBlock_68 z_bi8 ?_
      refine lv_imul hx hb d_X_mendBlock_70 ?_
      refine lv_iadd hx hb d_X_mendBlock_71 ?_
      refine lv_iload hx hb d_X_mendBlock_72 (lv_at hl 1 rfl) ?_
      refine kc_X_225 hF (c_H_mend l D C ad hF.2.2 _ _ ho58 _ _ _ (z_mnd hok hv1 hh)) hG ho58 ⟨Nat.le_of_ble_eq_true rfl, Nat.le_of_ble_eq_true rfl⟩ ⟨Nat.zero_le _, Nat.zero_le _⟩ hl.1 (Nat.le_of_ble_eq_true rfl) d_X_mendBlock_74 (fun H locs hG => ?_)
      exact kk _ _ _ _ hG (lv_sub hl [3, 4, 5, 6] rfl) (Eq.symm ((if_neg h43).trans ((if_pos h50).trans rfl)))
theorem ok_rg_X_mendBlock_7 {S : z_S} {v1 : Nat} {v2 : Int32} {v3 : Int32} (hok : z_Ok S) : z_Ok (rg_X_mendBlock_7_S1 S v1 v2 v3) := by
  unfold rg_X_mendBlock_7_S1
  repeat' split
  all_goals first | exact hok | exact ok_H_mend hok
def g_X_mendBlock (S : z_S) (x0 : Nat) (x1 : Int32) : z_S := (rg_X_mendBlock_7_S1 (rg_X_mendBlock_7_S1 (rg_X_mendBlock_7_S1 S x0 x1 0) x0 x1 1) x0 x1 2)
set_option maxHeartbeats 4000000 in
set_option maxRecDepth 100000 in
theorem c_X_mendBlock (l : Launch) (D : va_G) (C : Nat → ClassId) (ad : Nat → Nat → Nat) (hJ : z_J ad) (S : z_S) (x0 : Nat) (hx0 : x0 < z_n 14) (x1 : Int32) (hok : z_Ok S) (hh : vp_in x1 2) : z_M l y_X_mendBlock b_X_mendBlock 7 none rm_X_mendBlock D C ad [.ref (ad 0 0), .ref (ad 14 x0), .int x1] S (z_Qv D C ad (g_X_mendBlock S x0 x1)) := by
  refine z_enter (by decide) (Nat.le_of_ble_eq_true rfl) hJ ?_
  intro p e s m below meth c ls hF hr hlk hl hG
  obtain ⟨hx, hb, hml, hown, hts⟩ := hF.1
  have hl : lv_has ls 7 [(0, .ref (ad 0 0)), (1, .ref (ad 14 x0)), (2, .int x1)] := hl
  refine lv_iconst (v := 0) hx hb d_X_mendBlock_0 z_k0 ?_
  refine lv_istore_n (lv' := [(3, .int 0), (0, .ref (ad 0 0)), (1, .ref (ad 14 x0)), (2, .int x1)]) hx hb d_X_mendBlock_1 rfl hl (Nat.le_of_ble_eq_true rfl) rfl (fun ls hl => ?_)
  refine lv_iload_n hx hb d_X_mendBlock_2 rfl (lv_at hl 0 rfl) ?_
  refine lv_iconst (v := 3) hx hb d_X_mendBlock_3 z_k3 ?_
  refine lv_icmp_ge (tgt := 83) hx hb d_X_mendBlock_4 rfl (fun h => absurd h (by decide)) (fun _ => ?_)
  refine rg_X_mendBlock_7 hF hx0 hok z_in0_3 hh hG (lv_sub hl [1, 2, 3, 0] rfl) (fun H locs ls S1 hG hl e_S1 => ?_)
  subst e_S1
  have hok : z_Ok (rg_X_mendBlock_7_S1 S x0 x1 0) := ok_rg_X_mendBlock_7 hok
  refine lv_iinc (k := 3) (v := 1) (lv' := [(3, .int 1), (0, .ref (ad 0 0)), (1, .ref (ad 14 x0)), (2, .int x1)]) hx hb d_X_mendBlock_77 hl rfl (by decide) (Nat.le_of_ble_eq_true rfl) rfl (fun ls hl => ?_)
  refine lv_goto (tgt := 2) hx hb d_X_mendBlock_80 rfl ?_
  refine lv_iload_n hx hb d_X_mendBlock_2 rfl (lv_at hl 0 rfl) ?_
  refine lv_iconst (v := 3) hx hb d_X_mendBlock_3 z_k3 ?_
  refine lv_icmp_ge (tgt := 83) hx hb d_X_mendBlock_4 rfl (fun h => absurd h (by decide)) (fun _ => ?_)
  refine rg_X_mendBlock_7 hF hx0 hok z_in1_3 hh hG (lv_sub hl [1, 2, 3, 0] rfl) (fun H locs ls S1 hG hl e_S1 => ?_)
  subst e_S1
  have hok : z_Ok (rg_X_mendBlock_7_S1 (rg_X_mendBlock_7_S1 S x0 x1 0) x0 x1 1) := ok_rg_X_mendBlock_7 hok
  refine lv_iinc (k := 3) (v := 2) (lv' := [(3, .int 2), (0, .ref (ad 0 0)), (1, .ref (ad 14 x0)), (2, .int x1)]) hx hb d_X_mendBlock_77 hl rfl (by decide) (Nat.le_of_ble_eq_true rfl) rfl (fun ls hl => ?_)
  refine lv_goto (tgt := 2) hx hb d_X_mendBlock_80 rfl ?_
  refine lv_iload_n hx hb d_X_mendBlock_2 rfl (lv_at hl 0 rfl) ?_
  refine lv_iconst (v := 3) hx hb d_X_mendBlock_3 z_k3 ?_
  refine lv_icmp_ge (tgt := 83) hx hb d_X_mendBlock_4 rfl (fun h => absurd h (by decide)) (fun _ => ?_)
  refine rg_X_mendBlock_7 hF hx0 hok z_in2_3 hh hG (lv_sub hl [1, 2, 3, 0] rfl) (fun H locs ls S1 hG hl e_S1 => ?_)
  subst e_S1
  have hok : z_Ok (rg_X_mendBlock_7_S1 (rg_X_mendBlock_7_S1 (rg_X_mendBlock_7_S1 S x0 x1 0) x0 x1 1) x0 x1 2) := ok_rg_X_mendBlock_7 hok
  refine lv_iinc (k := 3) (v := 3) (lv' := [(3, .int 3), (0, .ref (ad 0 0)), (1, .ref (ad 14 x0)), (2, .int x1)]) hx hb d_X_mendBlock_77 hl rfl (by decide) (Nat.le_of_ble_eq_true rfl) rfl (fun ls hl => ?_)
  refine lv_goto (tgt := 2) hx hb d_X_mendBlock_80 rfl ?_
  refine lv_iload_n hx hb d_X_mendBlock_2 rfl (lv_at hl 0 rfl) ?_
  refine lv_iconst (v := 3) hx hb d_X_mendBlock_3 z_k3 ?_
  refine lv_icmp_ge (tgt := 83) hx hb d_X_mendBlock_4 rfl (fun _ => ?_) (fun h => absurd h (by decide))
  exact z_vret hF hr hlk hG rfl d_X_mendBlock_83
theorem ok_X_mendBlock {S : z_S} {x0 : Nat} {x1 : Int32} (hok : z_Ok S) : z_Ok (g_X_mendBlock S x0 x1) := by
  unfold g_X_mendBlock
  exact ok_rg_X_mendBlock_7 (ok_rg_X_mendBlock_7 (ok_rg_X_mendBlock_7 hok))
def f_X_decide (S : z_S) (x0 : Nat) : Int32 := (if (f_P_copiesAllDiffer S x0 0) = 0 then (if (f_P_copiesAllDiffer S x0 1) = 0 then (if (f_X_allHousesOpen S) = 0 then 4 else (if (f_X_areCopiesCurrent S x0) = 0 then 4 else 2)) else 3) else 3)
def g_X_decide (S : z_S) (x0 : Nat) : z_S := (if (f_P_copiesAllDiffer S x0 0) = 0 then (if (f_P_copiesAllDiffer S x0 1) = 0 then (if (f_X_allHousesOpen S) = 0 then S else (if (f_X_areCopiesCurrent S x0) = 0 then S else (g_X_mendBlock (g_X_mendBlock S x0 0) x0 1))) else S) else S)
set_option maxHeartbeats 4000000 in
set_option maxRecDepth 100000 in
theorem c_X_decide (l : Launch) (D : va_G) (C : Nat → ClassId) (ad : Nat → Nat → Nat) (hJ : z_J ad) (S : z_S) (x0 : Nat) (hx0 : x0 < z_n 14) (hok : z_Ok S) : z_M l y_X_decide b_X_decide 2 (some .int) rm_X_decide D C ad [.ref (ad 0 0), .ref (ad 14 x0)] S (z_Qi D C ad (f_X_decide S x0) (g_X_decide S x0)) := by
  refine z_enter (by decide) (Nat.le_of_ble_eq_true rfl) hJ ?_
  intro p e s m below meth c ls hF hr hlk hl hG
  obtain ⟨hx, hb, hml, hown, hts⟩ := hF.1
  have hl : lv_has ls 2 [(0, .ref (ad 0 0)), (1, .ref (ad 14 x0))] := hl
  refine lv_aload_n hx hb d_X_decide_0 rfl (lv_at hl 1 rfl) ?_
  refine lv_iconst (v := 0) hx hb d_X_decide_1 z_k0 ?_
  refine kc_X_209 hF (c_P_copiesAllDiffer l D C ad hF.2.2 _ _ hx0 _ ) hG hx0 ⟨Nat.le_of_ble_eq_true rfl, Nat.le_of_ble_eq_true rfl⟩ ⟨Nat.zero_le _, Nat.zero_le _⟩ hl.1 (Nat.le_of_ble_eq_true rfl) d_X_decide_2 (fun H locs hG => ?_)
  refine lv_if_ne (tgt := 16) hx hb d_X_decide_5 rfl (fun h5 => ?_) (fun h5 => ?_)
  ·
    refine lv_iconst (v := 3) hx hb d_X_decide_16 z_k3 ?_
    exact z_iret hF hr hlk hG (Eq.symm ((if_neg h5).trans rfl)) (Eq.symm ((if_neg h5).trans rfl)) d_X_decide_17
  ·
    refine lv_aload_n hx hb d_X_decide_8 rfl (lv_at hl 1 rfl) ?_
    refine lv_iconst (v := 1) hx hb d_X_decide_9 z_k1 ?_
    refine kc_X_209 hF (c_P_copiesAllDiffer l D C ad hF.2.2 _ _ hx0 _ ) hG hx0 ⟨Nat.le_of_ble_eq_true rfl, Nat.le_of_ble_eq_true rfl⟩ ⟨Nat.zero_le _, Nat.zero_le _⟩ hl.1 (Nat.le_of_ble_eq_true rfl) d_X_decide_10 (fun H locs hG => ?_)
    refine lv_if_eq (tgt := 18) hx hb d_X_decide_13 rfl (fun h13 => ?_) (fun h13 => ?_)
    ·
      refine lv_aload_n hx hb d_X_decide_18 rfl (lv_at hl 0 rfl) ?_
      refine kc_X_55 hF (c_X_allHousesOpen l D C ad hF.2.2 _ ) hG ⟨Nat.le_of_ble_eq_true rfl, Nat.le_of_ble_eq_true rfl⟩ ⟨Nat.zero_le _, Nat.zero_le _⟩ hl.1 (Nat.le_of_ble_eq_true rfl) d_X_decide_19 (fun H locs hG => ?_)
      refine lv_if_eq (tgt := 33) hx hb d_X_decide_22 rfl (fun h22 => ?_) (fun h22 => ?_)
      ·
        refine lv_iconst (v := 4) hx hb d_X_decide_33 z_k4 ?_
        exact z_iret hF hr hlk hG (Eq.symm ((if_pos h5).trans ((if_pos h13).trans ((if_pos h22).trans rfl)))) (Eq.symm ((if_pos h5).trans ((if_pos h13).trans ((if_pos h22).trans rfl)))) d_X_decide_34
      ·
        refine lv_aload_n hx hb d_X_decide_25 rfl (lv_at hl 0 rfl) ?_
        refine lv_aload_n hx hb d_X_decide_26 rfl (lv_at hl 1 rfl) ?_
        refine kc_X_212 hF (c_X_areCopiesCurrent l D C ad hF.2.2 _ _ hx0 hok) hG ⟨Nat.le_of_ble_eq_true rfl, Nat.le_of_ble_eq_true rfl⟩ ⟨Nat.zero_le _, Nat.zero_le _⟩ hl.1 (Nat.le_of_ble_eq_true rfl) d_X_decide_27 (fun H locs hG => ?_)
        refine lv_if_ne (tgt := 35) hx hb d_X_decide_30 rfl (fun h30 => ?_) (fun h30 => ?_)
        ·
          refine lv_aload_n hx hb d_X_decide_35 rfl (lv_at hl 0 rfl) ?_
          refine lv_aload_n hx hb d_X_decide_36 rfl (lv_at hl 1 rfl) ?_
          refine lv_iconst (v := 0) hx hb d_X_decide_37 z_k0 ?_
          refine kc_X_216 hF (c_X_mendBlock l D C ad hF.2.2 _ _ hx0 _ hok z_in0_2) hG ⟨Nat.le_of_ble_eq_true rfl, Nat.le_of_ble_eq_true rfl⟩ ⟨Nat.zero_le _, Nat.zero_le _⟩ hl.1 (Nat.le_of_ble_eq_true rfl) d_X_decide_38 (fun H locs hG => ?_)
          refine lv_aload_n hx hb d_X_decide_41 rfl (lv_at hl 0 rfl) ?_
          refine lv_aload_n hx hb d_X_decide_42 rfl (lv_at hl 1 rfl) ?_
          refine lv_iconst (v := 1) hx hb d_X_decide_43 z_k1 ?_
          refine kc_X_216 hF (c_X_mendBlock l D C ad hF.2.2 _ _ hx0 _ (ok_X_mendBlock hok) z_in1_2) hG ⟨Nat.le_of_ble_eq_true rfl, Nat.le_of_ble_eq_true rfl⟩ ⟨Nat.zero_le _, Nat.zero_le _⟩ hl.1 (Nat.le_of_ble_eq_true rfl) d_X_decide_44 (fun H locs hG => ?_)
          refine lv_iconst (v := 2) hx hb d_X_decide_47 z_k2 ?_
          exact z_iret hF hr hlk hG (Eq.symm ((if_pos h5).trans ((if_pos h13).trans ((if_neg h22).trans ((if_neg h30).trans rfl))))) (Eq.symm ((if_pos h5).trans ((if_pos h13).trans ((if_neg h22).trans ((if_neg h30).trans rfl))))) d_X_decide_48
        ·
          refine lv_iconst (v := 4) hx hb d_X_decide_33 z_k4 ?_
          exact z_iret hF hr hlk hG (Eq.symm ((if_pos h5).trans ((if_pos h13).trans ((if_neg h22).trans ((if_pos h30).trans rfl))))) (Eq.symm ((if_pos h5).trans ((if_pos h13).trans ((if_neg h22).trans ((if_pos h30).trans rfl))))) d_X_decide_34
    ·
      refine lv_iconst (v := 3) hx hb d_X_decide_16 z_k3 ?_
      exact z_iret hF hr hlk hG (Eq.symm ((if_pos h5).trans ((if_neg h13).trans rfl))) (Eq.symm ((if_pos h5).trans ((if_neg h13).trans rfl))) d_X_decide_17
theorem ok_X_decide {S : z_S} {x0 : Nat} (hok : z_Ok S) : z_Ok (g_X_decide S x0) := by
  unfold g_X_decide
  repeat' split
  all_goals first | exact hok | exact ok_X_mendBlock (ok_X_mendBlock hok)
def g_X_takeSum (S : z_S) (x0 : Nat) (x1 : Int32) (x2 : Int64) : z_S := (if (f_A_take_15 S x0 x1) = 0 then (g_A_take_15 S x0 x1 x2) else (if (f_A_isComplete_15 (g_A_take_15 S x0 x1 x2) x0) = 0 then (g_A_take_15 S x0 x1 x2) else (if (f_A_areAlike_15 (g_A_take_15 S x0 x1 x2) x0) = 0 then (g_X_sendToAwaited (g_A_take_15 S x0 x1 x2) x0) else (g_X_finish (g_A_take_15 S x0 x1 x2) x0 1))))
set_option maxHeartbeats 4000000 in
set_option maxRecDepth 100000 in
theorem c_X_takeSum (l : Launch) (D : va_G) (C : Nat → ClassId) (ad : Nat → Nat → Nat) (hJ : z_J ad) (S : z_S) (x0 : Nat) (hx0 : x0 < z_n 14) (x1 : Int32) (x2 : Int64) (hok : z_Ok S) (hh : vp_in x1 3) : z_M l y_X_takeSum b_X_takeSum 5 none rm_X_takeSum D C ad [.ref (ad 0 0), .ref (ad 14 x0), .int x1, .long x2] S (z_Qv D C ad (g_X_takeSum S x0 x1 x2)) := by
  refine z_enter (by decide) (Nat.le_of_ble_eq_true rfl) hJ ?_
  intro p e s m below meth c ls hF hr hlk hl hG
  obtain ⟨hx, hb, hml, hown, hts⟩ := hF.1
  have hl : lv_has ls 5 [(0, .ref (ad 0 0)), (1, .ref (ad 14 x0)), (2, .int x1), (3, .long x2)] := hl
  refine lv_aload_n hx hb d_X_takeSum_0 rfl (lv_at hl 1 rfl) ?_
  refine gf_X_156_14 hF hG hx0 d_X_takeSum_1 ?_
  refine lv_iload_n hx hb d_X_takeSum_4 rfl (lv_at hl 2 rfl) ?_
  refine lv_lload_n hx hb d_X_takeSum_5 rfl (lv_at hl 3 rfl) ?_
  refine kc_X_199_15 hF (c_A_take_15 l D C ad hF.2.2 _ _ hx0 _ _ hh) hG hx0 ⟨Nat.le_of_ble_eq_true rfl, Nat.le_of_ble_eq_true rfl⟩ ⟨Nat.zero_le _, Nat.zero_le _⟩ hl.1 (Nat.le_of_ble_eq_true rfl) d_X_takeSum_6 (fun H locs hG => ?_)
  have hok1 : z_Ok (g_A_take_15 S x0 x1 x2) := ok_A_take_15 hok
  refine lv_if_eq (tgt := 22) hx hb d_X_takeSum_9 rfl (fun h9 => ?_) (fun h9 => ?_)
  ·
    exact z_vret hF hr hlk hG (Eq.symm ((if_pos h9).trans rfl)) d_X_takeSum_22
  ·
    refine lv_aload_n hx hb d_X_takeSum_12 rfl (lv_at hl 1 rfl) ?_
    refine gf_X_156_14 hF hG hx0 d_X_takeSum_13 ?_
    refine kc_X_160_15 hF (c_A_isComplete_15 l D C ad hF.2.2 _ _ hx0 ) hG hx0 ⟨Nat.le_of_ble_eq_true rfl, Nat.le_of_ble_eq_true rfl⟩ ⟨Nat.zero_le _, Nat.zero_le _⟩ hl.1 (Nat.le_of_ble_eq_true rfl) d_X_takeSum_16 (fun H locs hG => ?_)
    refine lv_if_ne (tgt := 23) hx hb d_X_takeSum_19 rfl (fun h19 => ?_) (fun h19 => ?_)
    ·
      refine lv_aload_n hx hb d_X_takeSum_23 rfl (lv_at hl 1 rfl) ?_
      refine gf_X_156_14 hF hG hx0 d_X_takeSum_24 ?_
      refine kc_X_203_15 hF (c_A_areAlike_15 l D C ad hF.2.2 _ _ hx0 ) hG hx0 ⟨Nat.le_of_ble_eq_true rfl, Nat.le_of_ble_eq_true rfl⟩ ⟨Nat.zero_le _, Nat.zero_le _⟩ hl.1 (Nat.le_of_ble_eq_true rfl) d_X_takeSum_27 (fun H locs hG => ?_)
      refine lv_if_eq (tgt := 42) hx hb d_X_takeSum_30 rfl (fun h30 => ?_) (fun h30 => ?_)
      ·
        refine lv_aload_n hx hb d_X_takeSum_42 rfl (lv_at hl 0 rfl) ?_
        refine lv_aload_n hx hb d_X_takeSum_43 rfl (lv_at hl 1 rfl) ?_
        refine kc_X_95 hF (c_X_sendToAwaited l D C ad hF.2.2 _ _ hx0 hok1) hG ⟨Nat.le_of_ble_eq_true rfl, Nat.le_of_ble_eq_true rfl⟩ ⟨Nat.zero_le _, Nat.zero_le _⟩ hl.1 (Nat.le_of_ble_eq_true rfl) d_X_takeSum_44 (fun H locs hG => ?_)
        refine lv_pop hx hb d_X_takeSum_47 rfl ?_
        exact z_vret hF hr hlk hG (Eq.symm ((if_neg h9).trans ((if_neg h19).trans ((if_pos h30).trans rfl)))) d_X_takeSum_48
      ·
        refine lv_aload_n hx hb d_X_takeSum_33 rfl (lv_at hl 0 rfl) ?_
        refine lv_aload_n hx hb d_X_takeSum_34 rfl (lv_at hl 1 rfl) ?_
        refine lv_iconst (v := 1) hx hb d_X_takeSum_35 z_k1 ?_
        refine kc_X_136 hF (c_X_finish l D C ad hF.2.2 _ _ hx0 _ hok1) hG ⟨Nat.le_of_ble_eq_true rfl, Nat.le_of_ble_eq_true rfl⟩ ⟨Nat.zero_le _, Nat.zero_le _⟩ hl.1 (Nat.le_of_ble_eq_true rfl) d_X_takeSum_36 (fun H locs hG => ?_)
        refine lv_goto (tgt := 48) hx hb d_X_takeSum_39 rfl ?_
        exact z_vret hF hr hlk hG (Eq.symm ((if_neg h9).trans ((if_neg h19).trans ((if_neg h30).trans rfl)))) d_X_takeSum_48
    ·
      exact z_vret hF hr hlk hG (Eq.symm ((if_neg h9).trans ((if_pos h19).trans rfl))) d_X_takeSum_22
def g_X_takeCopy (S : z_S) (x0 : Nat) (x1 : Int32) (x2 : Int64) : z_S := (if (f_A_isComplete_15 S x0) = 0 then S else (if (f_A_take_18 S x0 x1) = 0 then (g_A_take_18 S x0 x1 x2) else (if (f_A_isComplete_18 (g_A_take_18 S x0 x1 x2) x0) = 0 then (g_A_take_18 S x0 x1 x2) else (g_X_finish (g_X_decide (g_A_take_18 S x0 x1 x2) x0) x0 (f_X_decide (g_A_take_18 S x0 x1 x2) x0)))))
set_option maxHeartbeats 4000000 in
set_option maxRecDepth 100000 in
theorem c_X_takeCopy (l : Launch) (D : va_G) (C : Nat → ClassId) (ad : Nat → Nat → Nat) (hJ : z_J ad) (S : z_S) (x0 : Nat) (hx0 : x0 < z_n 14) (x1 : Int32) (x2 : Int64) (hok : z_Ok S) (hh : vp_in x1 3) : z_M l y_X_takeCopy b_X_takeCopy 5 none rm_X_takeCopy D C ad [.ref (ad 0 0), .ref (ad 14 x0), .int x1, .long x2] S (z_Qv D C ad (g_X_takeCopy S x0 x1 x2)) := by
  refine z_enter (by decide) (Nat.le_of_ble_eq_true rfl) hJ ?_
  intro p e s m below meth c ls hF hr hlk hl hG
  obtain ⟨hx, hb, hml, hown, hts⟩ := hF.1
  have hl : lv_has ls 5 [(0, .ref (ad 0 0)), (1, .ref (ad 14 x0)), (2, .int x1), (3, .long x2)] := hl
  refine lv_aload_n hx hb d_X_takeCopy_0 rfl (lv_at hl 1 rfl) ?_
  refine gf_X_156_14 hF hG hx0 d_X_takeCopy_1 ?_
  refine kc_X_160_15 hF (c_A_isComplete_15 l D C ad hF.2.2 _ _ hx0 ) hG hx0 ⟨Nat.le_of_ble_eq_true rfl, Nat.le_of_ble_eq_true rfl⟩ ⟨Nat.zero_le _, Nat.zero_le _⟩ hl.1 (Nat.le_of_ble_eq_true rfl) d_X_takeCopy_4 (fun H locs hG => ?_)
  refine lv_if_eq (tgt := 42) hx hb d_X_takeCopy_7 rfl (fun h7 => ?_) (fun h7 => ?_)
  ·
    exact z_vret hF hr hlk hG (Eq.symm ((if_pos h7).trans rfl)) d_X_takeCopy_42
  ·
    refine lv_aload_n hx hb d_X_takeCopy_10 rfl (lv_at hl 1 rfl) ?_
    refine gf_X_165_14 hF hG hx0 d_X_takeCopy_11 ?_
    refine lv_iload_n hx hb d_X_takeCopy_14 rfl (lv_at hl 2 rfl) ?_
    refine lv_lload_n hx hb d_X_takeCopy_15 rfl (lv_at hl 3 rfl) ?_
    refine kc_X_199_18 hF (c_A_take_18 l D C ad hF.2.2 _ _ hx0 _ _ hh) hG hx0 ⟨Nat.le_of_ble_eq_true rfl, Nat.le_of_ble_eq_true rfl⟩ ⟨Nat.zero_le _, Nat.zero_le _⟩ hl.1 (Nat.le_of_ble_eq_true rfl) d_X_takeCopy_16 (fun H locs hG => ?_)
    have hok1 : z_Ok (g_A_take_18 S x0 x1 x2) := ok_A_take_18 hok
    refine lv_if_eq (tgt := 42) hx hb d_X_takeCopy_19 rfl (fun h19 => ?_) (fun h19 => ?_)
    ·
      exact z_vret hF hr hlk hG (Eq.symm ((if_neg h7).trans ((if_pos h19).trans rfl))) d_X_takeCopy_42
    ·
      refine lv_aload_n hx hb d_X_takeCopy_22 rfl (lv_at hl 1 rfl) ?_
      refine gf_X_165_14 hF hG hx0 d_X_takeCopy_23 ?_
      refine kc_X_160_18 hF (c_A_isComplete_18 l D C ad hF.2.2 _ _ hx0 ) hG hx0 ⟨Nat.le_of_ble_eq_true rfl, Nat.le_of_ble_eq_true rfl⟩ ⟨Nat.zero_le _, Nat.zero_le _⟩ hl.1 (Nat.le_of_ble_eq_true rfl) d_X_takeCopy_26 (fun H locs hG => ?_)
      refine lv_if_eq (tgt := 42) hx hb d_X_takeCopy_29 rfl (fun h29 => ?_) (fun h29 => ?_)
      ·
        exact z_vret hF hr hlk hG (Eq.symm ((if_neg h7).trans ((if_neg h19).trans ((if_pos h29).trans rfl)))) d_X_takeCopy_42
      ·
        refine lv_aload_n hx hb d_X_takeCopy_32 rfl (lv_at hl 0 rfl) ?_
        refine lv_aload_n hx hb d_X_takeCopy_33 rfl (lv_at hl 1 rfl) ?_
        refine lv_aload_n hx hb d_X_takeCopy_34 rfl (lv_at hl 0 rfl) ?_
        refine lv_aload_n hx hb d_X_takeCopy_35 rfl (lv_at hl 1 rfl) ?_
        refine kc_X_206 hF (c_X_decide l D C ad hF.2.2 _ _ hx0 hok1) hG ⟨Nat.le_of_ble_eq_true rfl, Nat.le_of_ble_eq_true rfl⟩ ⟨Nat.zero_le _, Nat.zero_le _⟩ hl.1 (Nat.le_of_ble_eq_true rfl) d_X_takeCopy_36 (fun H locs hG => ?_)
        have hok2 : z_Ok (g_X_decide (g_A_take_18 S x0 x1 x2) x0) := ok_X_decide hok1
        refine kc_X_136 hF (c_X_finish l D C ad hF.2.2 _ _ hx0 _ hok2) hG ⟨Nat.le_of_ble_eq_true rfl, Nat.le_of_ble_eq_true rfl⟩ ⟨Nat.zero_le _, Nat.zero_le _⟩ hl.1 (Nat.le_of_ble_eq_true rfl) d_X_takeCopy_39 (fun H locs hG => ?_)
        exact z_vret hF hr hlk hG (Eq.symm ((if_neg h7).trans ((if_neg h19).trans ((if_neg h29).trans rfl)))) d_X_takeCopy_42
def g_X_arrive (S : z_S) (x0 : Nat) (x1 : Int32) (x2 : Int32) (x3 : Int64) : z_S := (if x1 = 1 then (g_X_answerAsk S x0 x2) else (if x1 = 2 then (g_X_takeSum S x0 x2 x3) else (if x1 = 3 then (g_X_answerFetch S x0 x2) else (if x1 = 4 then (g_X_takeCopy S x0 x2 x3) else S))))
set_option maxHeartbeats 4000000 in
set_option maxRecDepth 100000 in
theorem c_X_arrive (l : Launch) (D : va_G) (C : Nat → ClassId) (ad : Nat → Nat → Nat) (hJ : z_J ad) (S : z_S) (x0 : Nat) (hx0 : x0 < z_n 14) (x1 : Int32) (x2 : Int32) (x3 : Int64) (hok : z_Ok S) (hh : vp_in x2 3) : z_M l y_X_arrive b_X_arrive 6 none rm_X_arrive D C ad [.ref (ad 0 0), .ref (ad 14 x0), .int x1, .int x2, .long x3] S (z_Qv D C ad (g_X_arrive S x0 x1 x2 x3)) := by
  refine z_enter (by decide) (Nat.le_of_ble_eq_true rfl) hJ ?_
  intro p e s m below meth c ls hF hr hlk hl hG
  obtain ⟨hx, hb, hml, hown, hts⟩ := hF.1
  have hl : lv_has ls 6 [(0, .ref (ad 0 0)), (1, .ref (ad 14 x0)), (2, .int x1), (3, .int x2), (4, .long x3)] := hl
  refine lv_iload_n hx hb d_X_arrive_0 rfl (lv_at hl 2 rfl) ?_
  by_cases h1v1 : x1 = 1
  ·
    refine lv_tableIn (tgt := 32) (off := 31) hx hb d_X_arrive_1 (by rw [h1v1]; decide) (by rw [h1v1]; decide) (by rw [h1v1]; rfl) rfl ?_
    refine lv_aload_n hx hb d_X_arrive_32 rfl (lv_at hl 0 rfl) ?_
    refine lv_aload_n hx hb d_X_arrive_33 rfl (lv_at hl 1 rfl) ?_
    refine lv_iload_n hx hb d_X_arrive_34 rfl (lv_at hl 3 rfl) ?_
    refine kc_X_172 hF (c_X_answerAsk l D C ad hF.2.2 _ _ hx0 _ hok hh) hG ⟨Nat.le_of_ble_eq_true rfl, Nat.le_of_ble_eq_true rfl⟩ ⟨Nat.zero_le _, Nat.zero_le _⟩ hl.1 (Nat.le_of_ble_eq_true rfl) d_X_arrive_35 (fun H locs hG => ?_)
    refine lv_goto (tgt := 72) hx hb d_X_arrive_38 rfl ?_
    exact z_vret hF hr hlk hG (Eq.symm ((if_pos h1v1).trans rfl)) d_X_arrive_72
  by_cases h1v2 : x1 = 2
  ·
    refine lv_tableIn (tgt := 41) (off := 40) hx hb d_X_arrive_1 (by rw [h1v2]; decide) (by rw [h1v2]; decide) (by rw [h1v2]; rfl) rfl ?_
    refine lv_aload_n hx hb d_X_arrive_41 rfl (lv_at hl 0 rfl) ?_
    refine lv_aload_n hx hb d_X_arrive_42 rfl (lv_at hl 1 rfl) ?_
    refine lv_iload_n hx hb d_X_arrive_43 rfl (lv_at hl 3 rfl) ?_
    refine lv_lload hx hb d_X_arrive_44 (lv_at hl 4 rfl) ?_
    refine kc_X_175 hF (c_X_takeSum l D C ad hF.2.2 _ _ hx0 _ _ hok hh) hG ⟨Nat.le_of_ble_eq_true rfl, Nat.le_of_ble_eq_true rfl⟩ ⟨Nat.zero_le _, Nat.zero_le _⟩ hl.1 (Nat.le_of_ble_eq_true rfl) d_X_arrive_46 (fun H locs hG => ?_)
    refine lv_goto (tgt := 72) hx hb d_X_arrive_49 rfl ?_
    exact z_vret hF hr hlk hG (Eq.symm ((if_neg h1v1).trans ((if_pos h1v2).trans rfl))) d_X_arrive_72
  by_cases h1v3 : x1 = 3
  ·
    refine lv_tableIn (tgt := 52) (off := 51) hx hb d_X_arrive_1 (by rw [h1v3]; decide) (by rw [h1v3]; decide) (by rw [h1v3]; rfl) rfl ?_
    refine lv_aload_n hx hb d_X_arrive_52 rfl (lv_at hl 0 rfl) ?_
    refine lv_aload_n hx hb d_X_arrive_53 rfl (lv_at hl 1 rfl) ?_
    refine lv_iload_n hx hb d_X_arrive_54 rfl (lv_at hl 3 rfl) ?_
    refine kc_X_179 hF (c_X_answerFetch l D C ad hF.2.2 _ _ hx0 _ hok hh) hG ⟨Nat.le_of_ble_eq_true rfl, Nat.le_of_ble_eq_true rfl⟩ ⟨Nat.zero_le _, Nat.zero_le _⟩ hl.1 (Nat.le_of_ble_eq_true rfl) d_X_arrive_55 (fun H locs hG => ?_)
    refine lv_goto (tgt := 72) hx hb d_X_arrive_58 rfl ?_
    exact z_vret hF hr hlk hG (Eq.symm ((if_neg h1v1).trans ((if_neg h1v2).trans ((if_pos h1v3).trans rfl)))) d_X_arrive_72
  by_cases h1v4 : x1 = 4
  ·
    refine lv_tableIn (tgt := 61) (off := 60) hx hb d_X_arrive_1 (by rw [h1v4]; decide) (by rw [h1v4]; decide) (by rw [h1v4]; rfl) rfl ?_
    refine lv_aload_n hx hb d_X_arrive_61 rfl (lv_at hl 0 rfl) ?_
    refine lv_aload_n hx hb d_X_arrive_62 rfl (lv_at hl 1 rfl) ?_
    refine lv_iload_n hx hb d_X_arrive_63 rfl (lv_at hl 3 rfl) ?_
    refine lv_lload hx hb d_X_arrive_64 (lv_at hl 4 rfl) ?_
    refine kc_X_182 hF (c_X_takeCopy l D C ad hF.2.2 _ _ hx0 _ _ hok hh) hG ⟨Nat.le_of_ble_eq_true rfl, Nat.le_of_ble_eq_true rfl⟩ ⟨Nat.zero_le _, Nat.zero_le _⟩ hl.1 (Nat.le_of_ble_eq_true rfl) d_X_arrive_66 (fun H locs hG => ?_)
    refine lv_goto (tgt := 72) hx hb d_X_arrive_69 rfl ?_
    exact z_vret hF hr hlk hG (Eq.symm ((if_neg h1v1).trans ((if_neg h1v2).trans ((if_neg h1v3).trans ((if_pos h1v4).trans rfl))))) d_X_arrive_72
  refine lv_tableOut (tgt := 72) hx hb d_X_arrive_1 (z_tab1_4 h1v1 h1v2 h1v3 h1v4) rfl ?_
  exact z_vret hF hr hlk hG (Eq.symm ((if_neg h1v1).trans ((if_neg h1v2).trans ((if_neg h1v3).trans ((if_neg h1v4).trans rfl))))) d_X_arrive_72
end
section
abbrev rm_X_deposit : Room := { frames := 3, cells := 0, slots := 0, locals := 68 }
abbrev rm_X_blocks : Room := { frames := 1, cells := 0, slots := 0, locals := 20 }
abbrev rm_X_at : Room := { frames := 2, cells := 0, slots := 0, locals := 43 }
abbrev rm_X_damage : Room := { frames := 2, cells := 0, slots := 0, locals := 44 }
abbrev rm_X_sum : Room := { frames := 3, cells := 0, slots := 0, locals := 72 }
abbrev rm_X_poll : Room := { frames := 2, cells := 0, slots := 0, locals := 51 }
abbrev rm_X_again : Room := { frames := 2, cells := 0, slots := 0, locals := 51 }
abbrev rm_X_step : Room := { frames := 6, cells := 0, slots := 0, locals := 140 }
abbrev rm_X_lose : Room := { frames := 1, cells := 0, slots := 0, locals := 22 }
abbrev rm_X_twice : Room := { frames := 1, cells := 0, slots := 0, locals := 25 }
abbrev rm_X_letters : Room := { frames := 0, cells := 0, slots := 0, locals := 0 }
abbrev rm_X_letter : Room := { frames := 1, cells := 0, slots := 0, locals := 21 }
abbrev rm_X_giveUp : Room := { frames := 3, cells := 0, slots := 0, locals := 65 }
abbrev rm_X_result : Room := { frames := 1, cells := 0, slots := 0, locals := 21 }
abbrev rm_X_close : Room := { frames := 1, cells := 0, slots := 0, locals := 20 }
abbrev rm_X_open : Room := { frames := 1, cells := 0, slots := 0, locals := 20 }
abbrev rm_X_round : Room := { frames := 0, cells := 0, slots := 0, locals := 0 }
abbrev rm_X_done : Room := { frames := 0, cells := 0, slots := 0, locals := 0 }
abbrev rm_X_mends : Room := { frames := 1, cells := 0, slots := 0, locals := 20 }
abbrev rm_X_disputes : Room := { frames := 0, cells := 0, slots := 0, locals := 0 }
theorem z_km1 : Int32.ofInt (-1) = (-1) := by decide
theorem z_bim2 : (Int8.ofInt (-2)).toInt32 = (-2) := by decide
theorem dp_H_receive : y_H_receive.cls ≠ "java/lang/invoke/MethodHandle" ∧ y_H_receive.cls ≠ "java/lang/invoke/VarHandle" ∧ (parseMethodDescriptor y_H_receive.desc).map (fun d => d.parameters.length) = some 3 := by decide +kernel
theorem dp_X_isHouse : y_X_isHouse.cls ≠ "java/lang/invoke/MethodHandle" ∧ y_X_isHouse.cls ≠ "java/lang/invoke/VarHandle" ∧ (parseMethodDescriptor y_X_isHouse.desc).map (fun d => d.parameters.length) = some 1 := by decide +kernel
theorem dp_X_isByte : y_X_isByte.cls ≠ "java/lang/invoke/MethodHandle" ∧ y_X_isByte.cls ≠ "java/lang/invoke/VarHandle" ∧ (parseMethodDescriptor y_X_isByte.desc).map (fun d => d.parameters.length) = some 2 := by decide +kernel
theorem dp_X_isPart : y_X_isPart.cls ≠ "java/lang/invoke/MethodHandle" ∧ y_X_isPart.cls ≠ "java/lang/invoke/VarHandle" ∧ (parseMethodDescriptor y_X_isPart.desc).map (fun d => d.parameters.length) = some 1 := by decide +kernel
theorem dp_X_freePlace : y_X_freePlace.cls ≠ "java/lang/invoke/MethodHandle" ∧ y_X_freePlace.cls ≠ "java/lang/invoke/VarHandle" ∧ (parseMethodDescriptor y_X_freePlace.desc).map (fun d => d.parameters.length) = some 0 := by decide +kernel
theorem z_bim3 : (Int8.ofInt (-3)).toInt32 = (-3) := by decide
theorem z_si512 : (Int16.ofInt (512)).toInt32 = 512 := by decide
theorem dp_P_begin : y_P_begin.cls ≠ "java/lang/invoke/MethodHandle" ∧ y_P_begin.cls ≠ "java/lang/invoke/VarHandle" ∧ (parseMethodDescriptor y_P_begin.desc).map (fun d => d.parameters.length) = some 5 := by decide +kernel
theorem dp_X_runningPoll : y_X_runningPoll.cls ≠ "java/lang/invoke/MethodHandle" ∧ y_X_runningPoll.cls ≠ "java/lang/invoke/VarHandle" ∧ (parseMethodDescriptor y_X_runningPoll.desc).map (fun d => d.parameters.length) = some 1 := by decide +kernel
theorem z_in0_24 : vp_in (0 : Int32) 24 := by unfold vp_in; decide
theorem dp_R_remove : y_R_remove.cls ≠ "java/lang/invoke/MethodHandle" ∧ y_R_remove.cls ≠ "java/lang/invoke/VarHandle" ∧ (parseMethodDescriptor y_R_remove.desc).map (fun d => d.parameters.length) = some 1 := by decide +kernel
theorem dp_X_arrive : y_X_arrive.cls ≠ "java/lang/invoke/MethodHandle" ∧ y_X_arrive.cls ≠ "java/lang/invoke/VarHandle" ∧ (parseMethodDescriptor y_X_arrive.desc).map (fun d => d.parameters.length) = some 4 := by decide +kernel
theorem dp_R_has : y_R_has.cls ≠ "java/lang/invoke/MethodHandle" ∧ y_R_has.cls ≠ "java/lang/invoke/VarHandle" ∧ (parseMethodDescriptor y_R_has.desc).map (fun d => d.parameters.length) = some 1 := by decide +kernel
section ZI_xpub
variable {D : va_G} {C : Nat → ClassId} {ad : Nat → Nat → Nat} {S : z_S}
variable {p : Program} {l : Launch} {e : Env} {R : Room} {s : State} {m : MethodId} {args : Array Value} {below : List Frame} {meth : Method} {c : Code} {H H0 : Heap} {locs : List Loc} {cells slots : Nat} {Q : State → Prop}
variable {cc : ByteArray} {nL pc : Nat} {ls : Array Slot} {rest : List Value}
theorem kc_X_59 {o : Nat} {x0 : Int32} {x1 : Int32} {x2 : Int32} {S2 : z_S} (hF : z_F D C ad p m c cc nL s args R_X) (hM : z_M l y_H_receive b_H_receive 5 none rm_H_receive D C ad [.ref (ad 12 o), .int x0, .int x1, .int x2] S (z_Qv D C ad S2)) (hG : z_G D C ad H0 S H locs) (ho : o < z_n 12) (hR : rm_H_receive.frames + 1 ≤ R.frames ∧ 8 + (5 + 11) + rm_H_receive.locals ≤ R.locals) (hcs : cells ≤ R.cells ∧ slots ≤ R.slots) (hsz : ls.size = nL) (hcat : (rest.map fun v => v.category).sum ≤ 8) (hdg : decode cc pc = .ok (.invokevirtual 59, 3)) (kk : ∀ (H1 : Heap) (locs1 : List Loc), z_G D C ad H0 S2 H1 locs1 → W p l e R s m args below meth c H1 locs1 cells slots Q (F0 m (pc + 3) ls rest)) : W p l e R s m args below meth c H locs cells slots Q (F0 m pc ls (.int x2 :: .int x1 :: .int x0 :: .ref (ad 12 o) :: rest)) :=
  z_cv (z_runV (As := [.int x0, .int x1, .int x2]) hF hM hG ho (z_c12 C ad _ _ o) rfl wm_X_59 wi_H_receive ws_H_receive wn_H wc_H_receive dp_H_receive rfl rfl hR hcs hsz hcat rfl hdg) hG kk
theorem kc_X_63 {x0 : Int32} {r : Int32} {S2 : z_S} (hF : z_F D C ad p m c cc nL s args R_X) (hM : z_M l y_X_isHouse b_X_isHouse 1 (some .boolean) rm_X_isHouse D C ad [.int x0] S (z_Qi D C ad r S2)) (hG : z_G D C ad H0 S H locs) (hR : rm_X_isHouse.frames + 1 ≤ R.frames ∧ 8 + (1 + 11) + rm_X_isHouse.locals ≤ R.locals) (hcs : cells ≤ R.cells ∧ slots ≤ R.slots) (hsz : ls.size = nL) (hcat : (rest.map fun v => v.category).sum ≤ 8) (hdg : decode cc pc = .ok (.invokestatic 63, 3)) (kk : ∀ (H1 : Heap) (locs1 : List Loc), z_G D C ad H0 S2 H1 locs1 → W p l e R s m args below meth c H1 locs1 cells slots Q (F0 m (pc + 3) ls (.int r :: rest))) : W p l e R s m args below meth c H locs cells slots Q (F0 m pc ls (.int x0 :: rest)) :=
  z_ci (z_runS (As := [.int x0]) hF hM hG wm_X_63 wi_X_isHouse wn_X wc_X_isHouse dp_X_isHouse rfl rfl hR hcs hsz hcat rfl hdg) hG kk
theorem kc_X_66 {x0 : Int32} {x1 : Int32} {r : Int32} {S2 : z_S} (hF : z_F D C ad p m c cc nL s args R_X) (hM : z_M l y_X_isByte b_X_isByte 3 (some .boolean) rm_X_isByte D C ad [.ref (ad 0 0), .int x0, .int x1] S (z_Qi D C ad r S2)) (hG : z_G D C ad H0 S H locs) (hR : rm_X_isByte.frames + 1 ≤ R.frames ∧ 8 + (3 + 11) + rm_X_isByte.locals ≤ R.locals) (hcs : cells ≤ R.cells ∧ slots ≤ R.slots) (hsz : ls.size = nL) (hcat : (rest.map fun v => v.category).sum ≤ 8) (hdg : decode cc pc = .ok (.invokevirtual 66, 3)) (kk : ∀ (H1 : Heap) (locs1 : List Loc), z_G D C ad H0 S2 H1 locs1 → W p l e R s m args below meth c H1 locs1 cells slots Q (F0 m (pc + 3) ls (.int r :: rest))) : W p l e R s m args below meth c H locs cells slots Q (F0 m pc ls (.int x1 :: .int x0 :: .ref (ad 0 0) :: rest)) :=
  z_ci (z_runV (As := [.int x0, .int x1]) hF hM hG z_o0 (z_c0 C ad _ _ 0) rfl wm_X_66 wi_X_isByte ws_X_isByte wn_X wc_X_isByte dp_X_isByte rfl rfl hR hcs hsz hcat rfl hdg) hG kk
theorem kc_X_70 {o : Nat} {x0 : Int32} {x1 : Int32} {r : Int32} {S2 : z_S} (hF : z_F D C ad p m c cc nL s args R_X) (hM : z_M l y_H_byteOf b_H_byteOf 3 (some .int) rm_H_byteOf D C ad [.ref (ad 12 o), .int x0, .int x1] S (z_Qi D C ad r S2)) (hG : z_G D C ad H0 S H locs) (ho : o < z_n 12) (hR : rm_H_byteOf.frames + 1 ≤ R.frames ∧ 8 + (3 + 11) + rm_H_byteOf.locals ≤ R.locals) (hcs : cells ≤ R.cells ∧ slots ≤ R.slots) (hsz : ls.size = nL) (hcat : (rest.map fun v => v.category).sum ≤ 8) (hdg : decode cc pc = .ok (.invokevirtual 70, 3)) (kk : ∀ (H1 : Heap) (locs1 : List Loc), z_G D C ad H0 S2 H1 locs1 → W p l e R s m args below meth c H1 locs1 cells slots Q (F0 m (pc + 3) ls (.int r :: rest))) : W p l e R s m args below meth c H locs cells slots Q (F0 m pc ls (.int x1 :: .int x0 :: .ref (ad 12 o) :: rest)) :=
  z_ci (z_runV (As := [.int x0, .int x1]) hF hM hG ho (z_c12 C ad _ _ o) rfl wm_X_70 wi_H_byteOf ws_H_byteOf wn_H wc_H_byteOf dp_H_byteOf rfl rfl hR hcs hsz hcat rfl hdg) hG kk
theorem kc_X_74 {o : Nat} {x0 : Int32} {x1 : Int32} {x2 : Int32} {S2 : z_S} (hF : z_F D C ad p m c cc nL s args R_X) (hM : z_M l y_H_flip b_H_flip 4 none rm_H_flip D C ad [.ref (ad 12 o), .int x0, .int x1, .int x2] S (z_Qv D C ad S2)) (hG : z_G D C ad H0 S H locs) (ho : o < z_n 12) (hR : rm_H_flip.frames + 1 ≤ R.frames ∧ 8 + (4 + 11) + rm_H_flip.locals ≤ R.locals) (hcs : cells ≤ R.cells ∧ slots ≤ R.slots) (hsz : ls.size = nL) (hcat : (rest.map fun v => v.category).sum ≤ 8) (hdg : decode cc pc = .ok (.invokevirtual 74, 3)) (kk : ∀ (H1 : Heap) (locs1 : List Loc), z_G D C ad H0 S2 H1 locs1 → W p l e R s m args below meth c H1 locs1 cells slots Q (F0 m (pc + 3) ls rest)) : W p l e R s m args below meth c H locs cells slots Q (F0 m pc ls (.int x2 :: .int x1 :: .int x0 :: .ref (ad 12 o) :: rest)) :=
  z_cv (z_runV (As := [.int x0, .int x1, .int x2]) hF hM hG ho (z_c12 C ad _ _ o) rfl wm_X_74 wi_H_flip ws_H_flip wn_H wc_H_flip dp_H_flip rfl rfl hR hcs hsz hcat rfl hdg) hG kk
theorem kc_X_77 {x0 : Int32} {r : Int32} {S2 : z_S} (hF : z_F D C ad p m c cc nL s args R_X) (hM : z_M l y_X_isPart b_X_isPart 1 (some .boolean) rm_X_isPart D C ad [.int x0] S (z_Qi D C ad r S2)) (hG : z_G D C ad H0 S H locs) (hR : rm_X_isPart.frames + 1 ≤ R.frames ∧ 8 + (1 + 11) + rm_X_isPart.locals ≤ R.locals) (hcs : cells ≤ R.cells ∧ slots ≤ R.slots) (hsz : ls.size = nL) (hcat : (rest.map fun v => v.category).sum ≤ 8) (hdg : decode cc pc = .ok (.invokestatic 77, 3)) (kk : ∀ (H1 : Heap) (locs1 : List Loc), z_G D C ad H0 S2 H1 locs1 → W p l e R s m args below meth c H1 locs1 cells slots Q (F0 m (pc + 3) ls (.int r :: rest))) : W p l e R s m args below meth c H locs cells slots Q (F0 m pc ls (.int x0 :: rest)) :=
  z_ci (z_runS (As := [.int x0]) hF hM hG wm_X_77 wi_X_isPart wn_X wc_X_isPart dp_X_isPart rfl rfl hR hcs hsz hcat rfl hdg) hG kk
theorem kc_X_84  {r : Option Nat} {S2 : z_S} (hF : z_F D C ad p m c cc nL s args R_X) (hM : z_M l y_X_freePlace b_X_freePlace 2 (some (.object R_P)) rm_X_freePlace D C ad [.ref (ad 0 0)] S (z_Qq D C ad r S2)) (hG : z_G D C ad H0 S H locs) (hR : rm_X_freePlace.frames + 1 ≤ R.frames ∧ 8 + (2 + 11) + rm_X_freePlace.locals ≤ R.locals) (hcs : cells ≤ R.cells ∧ slots ≤ R.slots) (hsz : ls.size = nL) (hcat : (rest.map fun v => v.category).sum ≤ 8) (hdg : decode cc pc = .ok (.invokevirtual 84, 3)) (kk : ∀ (H1 : Heap) (locs1 : List Loc), z_G D C ad H0 S2 H1 locs1 → W p l e R s m args below meth c H1 locs1 cells slots Q (F0 m (pc + 3) ls (va_rf (r.map (ad 14)) :: rest))) : W p l e R s m args below meth c H locs cells slots Q (F0 m pc ls (.ref (ad 0 0) :: rest)) :=
  z_cq (z_runV (As := []) hF hM hG z_o0 (z_c0 C ad _ _ 0) rfl wm_X_84 wi_X_freePlace ws_X_freePlace wn_X wc_X_freePlace dp_X_freePlace rfl rfl hR hcs hsz hcat rfl hdg) hG kk
theorem pf_X_42_0 {v : Int32} (hF : z_F D C ad p m c cc nL s args R_X) (hG : z_G D C ad H0 S H locs) (hdg : decode cc pc = .ok (.putfield 42, 3)) (kk : ∀ (H1 : Heap) (locs1 : List Loc), z_G D C ad H0 (z_sI S 0 0 6 v) H1 locs1 → W p l e R s m args below meth c H1 locs1 cells slots Q (F0 m (pc + 3) ls rest)) : W p l e R s m args below meth c H locs cells slots Q (F0 m pc ls (.int v :: .ref (ad 0 0) :: rest)) :=
  z_put (S' := z_sI S 0 0 6 v) hF hG z_o0 (z_c0 C ad _ _ 0) rfl wl_X t_X t_X_ok n_X 6 (by decide) wf_X_42 rfl rfl (ty := .int) (by decide +kernel) rfl rfl (Nat.le_of_ble_eq_true rfl) (fun a2 o2 hne => ⟨z_sI_ne S 0 0 6 v hne, rfl⟩) (by rw [z_sI_at]; rfl) hdg kk
theorem gf_X_88_10 (hF : z_F D C ad p m c cc nL s args R_X) (hG : z_G D C ad H0 S H locs) {v : Int32} (hv : S.1 10 0 0 = v) (hdg : decode cc pc = .ok (.getfield 88, 3)) (kk : W p l e R s m args below meth c H locs cells slots Q (F0 m (pc + 3) ls (.int v :: rest))) : W p l e R s m args below meth c H locs cells slots Q (F0 m pc ls (.ref (ad 10 0) :: rest)) :=
  z_get hF hG z_o10 (z_c10 C ad _ _ 0) rfl wl_D 0 (by decide) wf_X_88 rfl (by subst hv; rfl) hdg kk
theorem kc_X_91 {o : Nat} {x0 : Int32} {x1 : Int32} {x2 : Int32} {x3 : Int64} {x4 : Int32} {S2 : z_S} (hF : z_F D C ad p m c cc nL s args R_X) (hM : z_M l y_P_begin b_P_begin 7 none rm_P_begin D C ad [.ref (ad 14 o), .int x0, .int x1, .int x2, .long x3, .int x4] S (z_Qv D C ad S2)) (hG : z_G D C ad H0 S H locs) (ho : o < z_n 14) (hR : rm_P_begin.frames + 1 ≤ R.frames ∧ 8 + (7 + 11) + rm_P_begin.locals ≤ R.locals) (hcs : cells ≤ R.cells ∧ slots ≤ R.slots) (hsz : ls.size = nL) (hcat : (rest.map fun v => v.category).sum ≤ 8) (hdg : decode cc pc = .ok (.invokevirtual 91, 3)) (kk : ∀ (H1 : Heap) (locs1 : List Loc), z_G D C ad H0 S2 H1 locs1 → W p l e R s m args below meth c H1 locs1 cells slots Q (F0 m (pc + 3) ls rest)) : W p l e R s m args below meth c H locs cells slots Q (F0 m pc ls (.int x4 :: .long x3 :: .int x2 :: .int x1 :: .int x0 :: .ref (ad 14 o) :: rest)) :=
  z_cv (z_runV (As := [.int x0, .int x1, .int x2, .long x3, .int x4]) hF hM hG ho (z_c14 C ad _ _ o) rfl wm_X_91 wi_P_begin ws_P_begin wn_P wc_P_begin dp_P_begin rfl rfl hR hcs hsz hcat rfl hdg) hG kk
theorem kc_X_102 {x0 : Int32} {r : Option Nat} {S2 : z_S} (hF : z_F D C ad p m c cc nL s args R_X) (hM : z_M l y_X_runningPoll b_X_runningPoll 3 (some (.object R_P)) rm_X_runningPoll D C ad [.ref (ad 0 0), .int x0] S (z_Qq D C ad r S2)) (hG : z_G D C ad H0 S H locs) (hR : rm_X_runningPoll.frames + 1 ≤ R.frames ∧ 8 + (3 + 11) + rm_X_runningPoll.locals ≤ R.locals) (hcs : cells ≤ R.cells ∧ slots ≤ R.slots) (hsz : ls.size = nL) (hcat : (rest.map fun v => v.category).sum ≤ 8) (hdg : decode cc pc = .ok (.invokevirtual 102, 3)) (kk : ∀ (H1 : Heap) (locs1 : List Loc), z_G D C ad H0 S2 H1 locs1 → W p l e R s m args below meth c H1 locs1 cells slots Q (F0 m (pc + 3) ls (va_rf (r.map (ad 14)) :: rest))) : W p l e R s m args below meth c H locs cells slots Q (F0 m pc ls (.int x0 :: .ref (ad 0 0) :: rest)) :=
  z_cq (z_runV (As := [.int x0]) hF hM hG z_o0 (z_c0 C ad _ _ 0) rfl wm_X_102 wi_X_runningPoll ws_X_runningPoll wn_X wc_X_runningPoll dp_X_runningPoll rfl rfl hR hcs hsz hcat rfl hdg) hG kk
theorem gf_X_106_3 (hF : z_F D C ad p m c cc nL s args R_X) (hG : z_G D C ad H0 S H locs) {v : Int32} (hv : S.1 3 0 4 = v) (hdg : decode cc pc = .ok (.getfield 106, 3)) (kk : W p l e R s m args below meth c H locs cells slots Q (F0 m (pc + 3) ls (.int v :: rest))) : W p l e R s m args below meth c H locs cells slots Q (F0 m pc ls (.ref (ad 3 0) :: rest)) :=
  z_get hF hG z_o3 (z_c3 C ad _ _ 0) rfl wl_R 4 (by decide) wf_X_106 rfl (by subst hv; rfl) hdg kk
theorem gf_X_109_3 (hF : z_F D C ad p m c cc nL s args R_X) (hG : z_G D C ad H0 S H locs) (hdg : decode cc pc = .ok (.getfield 109, 3)) (kk : W p l e R s m args below meth c H locs cells slots Q (F0 m (pc + 3) ls (.ref (ad 4 0) :: rest))) : W p l e R s m args below meth c H locs cells slots Q (F0 m pc ls (.ref (ad 3 0) :: rest)) :=
  z_get hF hG z_o3 (z_c3 C ad _ _ 0) rfl wl_R 0 (by decide) wf_X_109 rfl rfl hdg kk
theorem gf_X_112_3 (hF : z_F D C ad p m c cc nL s args R_X) (hG : z_G D C ad H0 S H locs) (hdg : decode cc pc = .ok (.getfield 112, 3)) (kk : W p l e R s m args below meth c H locs cells slots Q (F0 m (pc + 3) ls (.ref (ad 6 0) :: rest))) : W p l e R s m args below meth c H locs cells slots Q (F0 m pc ls (.ref (ad 3 0) :: rest)) :=
  z_get hF hG z_o3 (z_c3 C ad _ _ 0) rfl wl_R 2 (by decide) wf_X_112 rfl rfl hdg kk
theorem gf_X_114_3 (hF : z_F D C ad p m c cc nL s args R_X) (hG : z_G D C ad H0 S H locs) (hdg : decode cc pc = .ok (.getfield 114, 3)) (kk : W p l e R s m args below meth c H locs cells slots Q (F0 m (pc + 3) ls (.ref (ad 7 0) :: rest))) : W p l e R s m args below meth c H locs cells slots Q (F0 m pc ls (.ref (ad 3 0) :: rest)) :=
  z_get hF hG z_o3 (z_c3 C ad _ _ 0) rfl wl_R 3 (by decide) wf_X_114 rfl rfl hdg kk
theorem gf_X_118_3 (hF : z_F D C ad p m c cc nL s args R_X) (hG : z_G D C ad H0 S H locs) (hdg : decode cc pc = .ok (.getfield 118, 3)) (kk : W p l e R s m args below meth c H locs cells slots Q (F0 m (pc + 3) ls (.ref (ad 5 0) :: rest))) : W p l e R s m args below meth c H locs cells slots Q (F0 m pc ls (.ref (ad 3 0) :: rest)) :=
  z_get hF hG z_o3 (z_c3 C ad _ _ 0) rfl wl_R 1 (by decide) wf_X_118 rfl rfl hdg kk
theorem kc_X_121 {x0 : Int32} {S2 : z_S} (hF : z_F D C ad p m c cc nL s args R_X) (hM : z_M l y_R_remove b_R_remove 3 none rm_R_remove D C ad [.ref (ad 3 0), .int x0] S (z_Qv D C ad S2)) (hG : z_G D C ad H0 S H locs) (hR : rm_R_remove.frames + 1 ≤ R.frames ∧ 8 + (3 + 11) + rm_R_remove.locals ≤ R.locals) (hcs : cells ≤ R.cells ∧ slots ≤ R.slots) (hsz : ls.size = nL) (hcat : (rest.map fun v => v.category).sum ≤ 8) (hdg : decode cc pc = .ok (.invokevirtual 121, 3)) (kk : ∀ (H1 : Heap) (locs1 : List Loc), z_G D C ad H0 S2 H1 locs1 → W p l e R s m args below meth c H1 locs1 cells slots Q (F0 m (pc + 3) ls rest)) : W p l e R s m args below meth c H locs cells slots Q (F0 m pc ls (.int x0 :: .ref (ad 3 0) :: rest)) :=
  z_cv (z_runV (As := [.int x0]) hF hM hG z_o3 (z_c3 C ad _ _ 0) rfl wm_X_121 wi_R_remove ws_R_remove wn_R wc_R_remove dp_R_remove rfl rfl hR hcs hsz hcat rfl hdg) hG kk
theorem kc_X_125 {x0 : Nat} {x1 : Int32} {x2 : Int32} {x3 : Int64} {S2 : z_S} (hF : z_F D C ad p m c cc nL s args R_X) (hM : z_M l y_X_arrive b_X_arrive 6 none rm_X_arrive D C ad [.ref (ad 0 0), .ref (ad 14 x0), .int x1, .int x2, .long x3] S (z_Qv D C ad S2)) (hG : z_G D C ad H0 S H locs) (hR : rm_X_arrive.frames + 1 ≤ R.frames ∧ 8 + (6 + 11) + rm_X_arrive.locals ≤ R.locals) (hcs : cells ≤ R.cells ∧ slots ≤ R.slots) (hsz : ls.size = nL) (hcat : (rest.map fun v => v.category).sum ≤ 8) (hdg : decode cc pc = .ok (.invokevirtual 125, 3)) (kk : ∀ (H1 : Heap) (locs1 : List Loc), z_G D C ad H0 S2 H1 locs1 → W p l e R s m args below meth c H1 locs1 cells slots Q (F0 m (pc + 3) ls rest)) : W p l e R s m args below meth c H locs cells slots Q (F0 m pc ls (.long x3 :: .int x2 :: .int x1 :: .ref (ad 14 x0) :: .ref (ad 0 0) :: rest)) :=
  z_cv (z_runV (As := [.ref (ad 14 x0), .int x1, .int x2, .long x3]) hF hM hG z_o0 (z_c0 C ad _ _ 0) rfl wm_X_125 wi_X_arrive ws_X_arrive wn_X wc_X_arrive dp_X_arrive rfl rfl hR hcs hsz hcat rfl hdg) hG kk
theorem kc_X_129 {x0 : Int32} {r : Int32} {S2 : z_S} (hF : z_F D C ad p m c cc nL s args R_X) (hM : z_M l y_R_has b_R_has 2 (some .boolean) rm_R_has D C ad [.ref (ad 3 0), .int x0] S (z_Qi D C ad r S2)) (hG : z_G D C ad H0 S H locs) (hR : rm_R_has.frames + 1 ≤ R.frames ∧ 8 + (2 + 11) + rm_R_has.locals ≤ R.locals) (hcs : cells ≤ R.cells ∧ slots ≤ R.slots) (hsz : ls.size = nL) (hcat : (rest.map fun v => v.category).sum ≤ 8) (hdg : decode cc pc = .ok (.invokevirtual 129, 3)) (kk : ∀ (H1 : Heap) (locs1 : List Loc), z_G D C ad H0 S2 H1 locs1 → W p l e R s m args below meth c H1 locs1 cells slots Q (F0 m (pc + 3) ls (.int r :: rest))) : W p l e R s m args below meth c H locs cells slots Q (F0 m pc ls (.int x0 :: .ref (ad 3 0) :: rest)) :=
  z_ci (z_runV (As := [.int x0]) hF hM hG z_o3 (z_c3 C ad _ _ 0) rfl wm_X_129 wi_R_has ws_R_has wn_R wc_R_has dp_R_has rfl rfl hR hcs hsz hcat rfl hdg) hG kk
theorem pf_X_140_12 {o : Nat} {v : Int32} (hF : z_F D C ad p m c cc nL s args R_X) (hG : z_G D C ad H0 S H locs) (ho : o < z_n 12) (hn : narrow .boolean (.int v) = .int v) (hfit : fits .boolean (.int v) = true) (hdg : decode cc pc = .ok (.putfield 140, 3)) (kk : ∀ (H1 : Heap) (locs1 : List Loc), z_G D C ad H0 (z_sI S 12 o 0 v) H1 locs1 → W p l e R s m args below meth c H1 locs1 cells slots Q (F0 m (pc + 3) ls rest)) : W p l e R s m args below meth c H locs cells slots Q (F0 m pc ls (.int v :: .ref (ad 12 o) :: rest)) :=
  z_put (S' := z_sI S 12 o 0 v) hF hG ho (z_c12 C ad _ _ o) rfl wl_H t_H t_H_ok n_H 0 (by decide) wf_X_140 rfl rfl (ty := .boolean) (by decide +kernel) hn hfit (Nat.le_of_ble_eq_true rfl) (fun a2 o2 hne => ⟨z_sI_ne S 12 o 0 v hne, rfl⟩) (by rw [z_sI_at]; rfl) hdg kk
theorem gf_X_144_10 (hF : z_F D C ad p m c cc nL s args R_X) (hG : z_G D C ad H0 S H locs) {v : Int32} (hv : S.1 10 0 1 = v) (hdg : decode cc pc = .ok (.getfield 144, 3)) (kk : W p l e R s m args below meth c H locs cells slots Q (F0 m (pc + 3) ls (.int v :: rest))) : W p l e R s m args below meth c H locs cells slots Q (F0 m pc ls (.ref (ad 10 0) :: rest)) :=
  z_get hF hG z_o10 (z_c10 C ad _ _ 0) rfl wl_D 1 (by decide) wf_X_144 rfl (by subst hv; rfl) hdg kk
theorem gf_X_152_12 {o : Nat} (hF : z_F D C ad p m c cc nL s args R_X) (hG : z_G D C ad H0 S H locs) (ho : o < z_n 12) {v : Int32} (hv : S.1 12 o 1 = v) (hdg : decode cc pc = .ok (.getfield 152, 3)) (kk : W p l e R s m args below meth c H locs cells slots Q (F0 m (pc + 3) ls (.int v :: rest))) : W p l e R s m args below meth c H locs cells slots Q (F0 m pc ls (.ref (ad 12 o) :: rest)) :=
  z_get hF hG ho (z_c12 C ad _ _ o) rfl wl_H 1 (by decide) wf_X_152 rfl (by subst hv; rfl) hdg kk
end ZI_xpub
end
section
def f_X_deposit (S : z_S) (x0 : Int32) (x1 : Int32) : Int32 := (if (f_X_isDeposit x0) = 0 then (-1) else (if x1 < 1 then (-1) else (if x1 ≤ 16 then (if 0 < (S.1 2 0 x0.toNatClampNeg) then (-2) else (if (f_X_allHousesOpen S) = 0 then (-2) else (x1 * 4))) else (-1))))
def g_X_deposit (S : z_S) (x0 : Int32) (x1 : Int32) (x2 : Int32) : z_S := (if (f_X_isDeposit x0) = 0 then S else (if x1 < 1 then S else (if x1 ≤ 16 then (if 0 < (S.1 2 0 x0.toNatClampNeg) then S else (if (f_X_allHousesOpen S) = 0 then S else (g_H_receive (g_H_receive (g_H_receive (z_sI S 2 0 x0.toNatClampNeg x1) 0 x0 x2 (4 * x1.toNatClampNeg)) 1 x0 x2 (4 * x1.toNatClampNeg)) 2 x0 x2 (4 * x1.toNatClampNeg)))) else S)))
set_option maxHeartbeats 4000000 in
set_option maxRecDepth 100000 in
theorem c_X_deposit (l : Launch) (D : va_G) (C : Nat → ClassId) (ad : Nat → Nat → Nat) (hJ : z_J ad) (S : z_S) (x0 : Int32) (x1 : Int32) (x2 : Int32)  : z_M l y_X_deposit b_X_deposit 5 (some .int) rm_X_deposit D C ad [.ref (ad 0 0), .int x0, .int x1, .int x2] S (z_Qi D C ad (f_X_deposit S x0 x1) (g_X_deposit S x0 x1 x2)) := by
  refine z_enter (by decide) (Nat.le_of_ble_eq_true rfl) hJ ?_
  intro p e s m below meth c ls hF hr hlk hl hG
  obtain ⟨hx, hb, hml, hown, hts⟩ := hF.1
  have hl : lv_has ls 5 [(0, .ref (ad 0 0)), (1, .int x0), (2, .int x1), (3, .int x2)] := hl
  refine lv_iload_n hx hb d_X_deposit_0 rfl (lv_at hl 1 rfl) ?_
  refine kc_X_51 hF (c_X_isDeposit l D C ad hF.2.2 _ _ ) hG ⟨Nat.le_of_ble_eq_true rfl, Nat.le_of_ble_eq_true rfl⟩ ⟨Nat.zero_le _, Nat.zero_le _⟩ hl.1 (Nat.le_of_ble_eq_true rfl) d_X_deposit_1 (fun H locs hG => ?_)
  refine lv_if_eq (tgt := 18) hx hb d_X_deposit_4 rfl (fun h4 => ?_) (fun h4 => ?_)
  ·
    refine lv_iconst (v := (-1)) hx hb d_X_deposit_18 z_km1 ?_
    exact z_iret hF hr hlk hG (Eq.symm ((if_pos h4).trans rfl)) (Eq.symm ((if_pos h4).trans rfl)) d_X_deposit_19
  ·
    refine lv_iload_n hx hb d_X_deposit_7 rfl (lv_at hl 2 rfl) ?_
    refine lv_iconst (v := 1) hx hb d_X_deposit_8 z_k1 ?_
    refine lv_icmp_lt (tgt := 18) hx hb d_X_deposit_9 rfl (fun h9 => ?_) (fun h9 => ?_)
    ·
      refine lv_iconst (v := (-1)) hx hb d_X_deposit_18 z_km1 ?_
      exact z_iret hF hr hlk hG (Eq.symm ((if_neg h4).trans ((if_pos h9).trans rfl))) (Eq.symm ((if_neg h4).trans ((if_pos h9).trans rfl))) d_X_deposit_19
    ·
      refine lv_iload_n hx hb d_X_deposit_12 rfl (lv_at hl 2 rfl) ?_
      refine lv_bipush (v := 16) hx hb d_X_deposit_13 z_bi16 ?_
      refine lv_icmp_le (tgt := 20) hx hb d_X_deposit_15 rfl (fun h15 => ?_) (fun h15 => ?_)
      ·
        refine lv_aload_n hx hb d_X_deposit_20 rfl (lv_at hl 0 rfl) ?_
        refine gf_X_15_0 hF hG d_X_deposit_21 ?_
        refine lv_iload_n hx hb d_X_deposit_24 rfl (lv_at hl 1 rfl) ?_
        refine z_iald (n := 6) (j := x0.toNatClampNeg) (v := (S.1 2 0 x0.toNatClampNeg)) hF hG z_o2 (z_c2 C ad _ _ _) rfl (z_dep h4) rfl d_X_deposit_25 ?_
        refine lv_if_gt (tgt := 36) hx hb d_X_deposit_26 rfl (fun h26 => ?_) (fun h26 => ?_)
        ·
          refine lv_bipush (v := (-2)) hx hb d_X_deposit_36 z_bim2 ?_
          exact z_iret hF hr hlk hG (Eq.symm ((if_neg h4).trans ((if_neg h9).trans ((if_pos h15).trans ((if_pos h26).trans rfl))))) (Eq.symm ((if_neg h4).trans ((if_neg h9).trans ((if_pos h15).trans ((if_pos h26).trans rfl))))) d_X_deposit_38
        ·
          refine lv_aload_n hx hb d_X_deposit_29 rfl (lv_at hl 0 rfl) ?_
          refine kc_X_55 hF (c_X_allHousesOpen l D C ad hF.2.2 _ ) hG ⟨Nat.le_of_ble_eq_true rfl, Nat.le_of_ble_eq_true rfl⟩ ⟨Nat.zero_le _, Nat.zero_le _⟩ hl.1 (Nat.le_of_ble_eq_true rfl) d_X_deposit_30 (fun H locs hG => ?_)
          refine lv_if_ne (tgt := 39) hx hb d_X_deposit_33 rfl (fun h33 => ?_) (fun h33 => ?_)
          ·
            refine lv_aload_n hx hb d_X_deposit_39 rfl (lv_at hl 0 rfl) ?_
            refine gf_X_15_0 hF hG d_X_deposit_40 ?_
            refine lv_iload_n hx hb d_X_deposit_43 rfl (lv_at hl 1 rfl) ?_
            refine lv_iload_n hx hb d_X_deposit_44 rfl (lv_at hl 2 rfl) ?_
            refine z_iast (n := 6) (j := x0.toNatClampNeg) hF hG z_o2 (fun f g => z_c2 C ad f g _) rfl (z_dep h4) d_X_deposit_45 (fun H locs hG => ?_)
            refine lv_iconst (v := 0) hx hb d_X_deposit_46 z_k0 ?_
            refine lv_istore (lv' := [(4, .int 0), (0, .ref (ad 0 0)), (1, .int x0), (2, .int x1), (3, .int x2)]) hx hb d_X_deposit_47 hl (Nat.le_of_ble_eq_true rfl) rfl (fun ls hl => ?_)
            refine lv_iload hx hb d_X_deposit_49 (lv_at hl 0 rfl) ?_
            refine lv_iconst (v := 3) hx hb d_X_deposit_51 z_k3 ?_
            refine lv_icmp_ge (tgt := 74) hx hb d_X_deposit_52 rfl (fun h => absurd h (by decide)) (fun _ => ?_)
            refine lv_aload_n hx hb d_X_deposit_55 rfl (lv_at hl 1 rfl) ?_
            refine gf_X_11_0 hF hG d_X_deposit_56 ?_
            refine lv_iload hx hb d_X_deposit_59 (lv_at hl 0 rfl) ?_
            refine z_aald (n := 3) (K := 3) (t0 := 3) (Cn := R_H) (j := 0) (v := ad 12 0) hF hG z_o1 (z_c1 C ad _ _ _) rfl z_q0 z_in0_3 rfl d_X_deposit_61 ?_
            refine lv_iload_n hx hb d_X_deposit_62 rfl (lv_at hl 2 rfl) ?_
            refine lv_iload_n hx hb d_X_deposit_63 rfl (lv_at hl 3 rfl) ?_
            refine lv_iload_n hx hb d_X_deposit_64 rfl (lv_at hl 4 rfl) ?_
            refine kc_X_59 hF (c_H_receive l D C ad hF.2.2 _ _ z_o12_0 _ _ _ (4 * x1.toNatClampNeg) (z_de1 h9 h15) (z_de2 h9 h15) (z_de3 h9 h15 (z_dep h4))) hG z_o12_0 ⟨Nat.le_of_ble_eq_true rfl, Nat.le_of_ble_eq_true rfl⟩ ⟨Nat.zero_le _, Nat.zero_le _⟩ hl.1 (Nat.le_of_ble_eq_true rfl) d_X_deposit_65 (fun H locs hG => ?_)
            refine lv_iinc (k := 0) (v := 1) (lv' := [(4, .int 1), (0, .ref (ad 0 0)), (1, .int x0), (2, .int x1), (3, .int x2)]) hx hb d_X_deposit_68 hl rfl (by decide) (Nat.le_of_ble_eq_true rfl) rfl (fun ls hl => ?_)
            refine lv_goto (tgt := 49) hx hb d_X_deposit_71 rfl ?_
            refine lv_iload hx hb d_X_deposit_49 (lv_at hl 0 rfl) ?_
            refine lv_iconst (v := 3) hx hb d_X_deposit_51 z_k3 ?_
            refine lv_icmp_ge (tgt := 74) hx hb d_X_deposit_52 rfl (fun h => absurd h (by decide)) (fun _ => ?_)
            refine lv_aload_n hx hb d_X_deposit_55 rfl (lv_at hl 1 rfl) ?_
            refine gf_X_11_0 hF hG d_X_deposit_56 ?_
            refine lv_iload hx hb d_X_deposit_59 (lv_at hl 0 rfl) ?_
            refine z_aald (n := 3) (K := 3) (t0 := 3) (Cn := R_H) (j := 1) (v := ad 12 1) hF hG z_o1 (z_c1 C ad _ _ _) rfl z_q1 z_in1_3 rfl d_X_deposit_61 ?_
            refine lv_iload_n hx hb d_X_deposit_62 rfl (lv_at hl 2 rfl) ?_
            refine lv_iload_n hx hb d_X_deposit_63 rfl (lv_at hl 3 rfl) ?_
            refine lv_iload_n hx hb d_X_deposit_64 rfl (lv_at hl 4 rfl) ?_
            refine kc_X_59 hF (c_H_receive l D C ad hF.2.2 _ _ z_o12_1 _ _ _ (4 * x1.toNatClampNeg) (z_de1 h9 h15) (z_de2 h9 h15) (z_de3 h9 h15 (z_dep h4))) hG z_o12_1 ⟨Nat.le_of_ble_eq_true rfl, Nat.le_of_ble_eq_true rfl⟩ ⟨Nat.zero_le _, Nat.zero_le _⟩ hl.1 (Nat.le_of_ble_eq_true rfl) d_X_deposit_65 (fun H locs hG => ?_)
            refine lv_iinc (k := 0) (v := 2) (lv' := [(4, .int 2), (0, .ref (ad 0 0)), (1, .int x0), (2, .int x1), (3, .int x2)]) hx hb d_X_deposit_68 hl rfl (by decide) (Nat.le_of_ble_eq_true rfl) rfl (fun ls hl => ?_)
            refine lv_goto (tgt := 49) hx hb d_X_deposit_71 rfl ?_
            refine lv_iload hx hb d_X_deposit_49 (lv_at hl 0 rfl) ?_
            refine lv_iconst (v := 3) hx hb d_X_deposit_51 z_k3 ?_
            refine lv_icmp_ge (tgt := 74) hx hb d_X_deposit_52 rfl (fun h => absurd h (by decide)) (fun _ => ?_)
            refine lv_aload_n hx hb d_X_deposit_55 rfl (lv_at hl 1 rfl) ?_
            refine gf_X_11_0 hF hG d_X_deposit_56 ?_
            refine lv_iload hx hb d_X_deposit_59 (lv_at hl 0 rfl) ?_
            refine z_aald (n := 3) (K := 3) (t0 := 3) (Cn := R_H) (j := 2) (v := ad 12 2) hF hG z_o1 (z_c1 C ad _ _ _) rfl z_q2 z_in2_3 rfl d_X_deposit_61 ?_
            refine lv_iload_n hx hb d_X_deposit_62 rfl (lv_at hl 2 rfl) ?_
            refine lv_iload_n hx hb d_X_deposit_63 rfl (lv_at hl 3 rfl) ?_
            refine lv_iload_n hx hb d_X_deposit_64 rfl (lv_at hl 4 rfl) ?_
            refine kc_X_59 hF (c_H_receive l D C ad hF.2.2 _ _ z_o12_2 _ _ _ (4 * x1.toNatClampNeg) (z_de1 h9 h15) (z_de2 h9 h15) (z_de3 h9 h15 (z_dep h4))) hG z_o12_2 ⟨Nat.le_of_ble_eq_true rfl, Nat.le_of_ble_eq_true rfl⟩ ⟨Nat.zero_le _, Nat.zero_le _⟩ hl.1 (Nat.le_of_ble_eq_true rfl) d_X_deposit_65 (fun H locs hG => ?_)
            refine lv_iinc (k := 0) (v := 3) (lv' := [(4, .int 3), (0, .ref (ad 0 0)), (1, .int x0), (2, .int x1), (3, .int x2)]) hx hb d_X_deposit_68 hl rfl (by decide) (Nat.le_of_ble_eq_true rfl) rfl (fun ls hl => ?_)
            refine lv_goto (tgt := 49) hx hb d_X_deposit_71 rfl ?_
            refine lv_iload hx hb d_X_deposit_49 (lv_at hl 0 rfl) ?_
            refine lv_iconst (v := 3) hx hb d_X_deposit_51 z_k3 ?_
            refine lv_icmp_ge (tgt := 74) hx hb d_X_deposit_52 rfl (fun _ => ?_) (fun h => absurd h (by decide))
            refine lv_iload_n hx hb d_X_deposit_74 rfl (lv_at hl 3 rfl) ?_
            refine lv_iconst (v := 4) hx hb d_X_deposit_75 z_k4 ?_
            refine lv_imul hx hb d_X_deposit_76 ?_
            exact z_iret hF hr hlk hG (Eq.symm ((if_neg h4).trans ((if_neg h9).trans ((if_pos h15).trans ((if_neg h26).trans ((if_neg h33).trans rfl)))))) (Eq.symm ((if_neg h4).trans ((if_neg h9).trans ((if_pos h15).trans ((if_neg h26).trans ((if_neg h33).trans rfl)))))) d_X_deposit_77
          ·
            refine lv_bipush (v := (-2)) hx hb d_X_deposit_36 z_bim2 ?_
            exact z_iret hF hr hlk hG (Eq.symm ((if_neg h4).trans ((if_neg h9).trans ((if_pos h15).trans ((if_neg h26).trans ((if_pos h33).trans rfl)))))) (Eq.symm ((if_neg h4).trans ((if_neg h9).trans ((if_pos h15).trans ((if_neg h26).trans ((if_pos h33).trans rfl)))))) d_X_deposit_38
      ·
        refine lv_iconst (v := (-1)) hx hb d_X_deposit_18 z_km1 ?_
        exact z_iret hF hr hlk hG (Eq.symm ((if_neg h4).trans ((if_neg h9).trans ((if_neg h15).trans rfl)))) (Eq.symm ((if_neg h4).trans ((if_neg h9).trans ((if_neg h15).trans rfl)))) d_X_deposit_19
def f_X_blocks (S : z_S) (x0 : Int32) : Int32 := (if (f_X_isDeposit x0) = 0 then 0 else (S.1 2 0 x0.toNatClampNeg))
set_option maxHeartbeats 4000000 in
set_option maxRecDepth 100000 in
theorem c_X_blocks (l : Launch) (D : va_G) (C : Nat → ClassId) (ad : Nat → Nat → Nat) (hJ : z_J ad) (S : z_S) (x0 : Int32)  : z_M l y_X_blocks b_X_blocks 2 (some .int) rm_X_blocks D C ad [.ref (ad 0 0), .int x0] S (z_Qi D C ad (f_X_blocks S x0) S) := by
  refine z_enter (by decide) (Nat.le_of_ble_eq_true rfl) hJ ?_
  intro p e s m below meth c ls hF hr hlk hl hG
  obtain ⟨hx, hb, hml, hown, hts⟩ := hF.1
  have hl : lv_has ls 2 [(0, .ref (ad 0 0)), (1, .int x0)] := hl
  refine lv_iload_n hx hb d_X_blocks_0 rfl (lv_at hl 1 rfl) ?_
  refine kc_X_51 hF (c_X_isDeposit l D C ad hF.2.2 _ _ ) hG ⟨Nat.le_of_ble_eq_true rfl, Nat.le_of_ble_eq_true rfl⟩ ⟨Nat.zero_le _, Nat.zero_le _⟩ hl.1 (Nat.le_of_ble_eq_true rfl) d_X_blocks_1 (fun H locs hG => ?_)
  refine lv_if_eq (tgt := 16) hx hb d_X_blocks_4 rfl (fun h4 => ?_) (fun h4 => ?_)
  ·
    refine lv_iconst (v := 0) hx hb d_X_blocks_16 z_k0 ?_
    exact z_iret hF hr hlk hG (Eq.symm ((if_pos h4).trans rfl)) rfl d_X_blocks_17
  ·
    refine lv_aload_n hx hb d_X_blocks_7 rfl (lv_at hl 0 rfl) ?_
    refine gf_X_15_0 hF hG d_X_blocks_8 ?_
    refine lv_iload_n hx hb d_X_blocks_11 rfl (lv_at hl 1 rfl) ?_
    refine z_iald (n := 6) (j := x0.toNatClampNeg) (v := (S.1 2 0 x0.toNatClampNeg)) hF hG z_o2 (z_c2 C ad _ _ _) rfl (z_dep h4) rfl d_X_blocks_12 ?_
    refine lv_goto (tgt := 17) hx hb d_X_blocks_13 rfl ?_
    exact z_iret hF hr hlk hG (Eq.symm ((if_neg h4).trans rfl)) rfl d_X_blocks_17
def f_X_at (S : z_S) (x0 : Int32) (x1 : Int32) (x2 : Int32) : Int32 := (if (f_X_isHouse x0) = 0 then (-1) else (if (f_X_isByte S x1 x2) = 0 then (-1) else (f_H_byteOf S x0.toNatClampNeg x1 x2)))
set_option maxHeartbeats 4000000 in
set_option maxRecDepth 100000 in
theorem c_X_at (l : Launch) (D : va_G) (C : Nat → ClassId) (ad : Nat → Nat → Nat) (hJ : z_J ad) (S : z_S) (x0 : Int32) (x1 : Int32) (x2 : Int32) (hok : z_Ok S) : z_M l y_X_at b_X_at 4 (some .int) rm_X_at D C ad [.ref (ad 0 0), .int x0, .int x1, .int x2] S (z_Qi D C ad (f_X_at S x0 x1 x2) S) := by
  refine z_enter (by decide) (Nat.le_of_ble_eq_true rfl) hJ ?_
  intro p e s m below meth c ls hF hr hlk hl hG
  obtain ⟨hx, hb, hml, hown, hts⟩ := hF.1
  have hl : lv_has ls 4 [(0, .ref (ad 0 0)), (1, .int x0), (2, .int x1), (3, .int x2)] := hl
  refine lv_iload_n hx hb d_X_at_0 rfl (lv_at hl 1 rfl) ?_
  refine kc_X_63 hF (c_X_isHouse l D C ad hF.2.2 _ _ ) hG ⟨Nat.le_of_ble_eq_true rfl, Nat.le_of_ble_eq_true rfl⟩ ⟨Nat.zero_le _, Nat.zero_le _⟩ hl.1 (Nat.le_of_ble_eq_true rfl) d_X_at_1 (fun H locs hG => ?_)
  refine lv_if_eq (tgt := 30) hx hb d_X_at_4 rfl (fun h4 => ?_) (fun h4 => ?_)
  ·
    refine lv_iconst (v := (-1)) hx hb d_X_at_30 z_km1 ?_
    exact z_iret hF hr hlk hG (Eq.symm ((if_pos h4).trans rfl)) rfl d_X_at_31
  ·
    refine lv_aload_n hx hb d_X_at_7 rfl (lv_at hl 0 rfl) ?_
    refine lv_iload_n hx hb d_X_at_8 rfl (lv_at hl 2 rfl) ?_
    refine lv_iload_n hx hb d_X_at_9 rfl (lv_at hl 3 rfl) ?_
    refine kc_X_66 hF (c_X_isByte l D C ad hF.2.2 _ _ _ ) hG ⟨Nat.le_of_ble_eq_true rfl, Nat.le_of_ble_eq_true rfl⟩ ⟨Nat.zero_le _, Nat.zero_le _⟩ hl.1 (Nat.le_of_ble_eq_true rfl) d_X_at_10 (fun H locs hG => ?_)
    refine lv_if_eq (tgt := 30) hx hb d_X_at_13 rfl (fun h13 => ?_) (fun h13 => ?_)
    ·
      refine lv_iconst (v := (-1)) hx hb d_X_at_30 z_km1 ?_
      exact z_iret hF hr hlk hG (Eq.symm ((if_neg h4).trans ((if_pos h13).trans rfl))) rfl d_X_at_31
    ·
      refine lv_aload_n hx hb d_X_at_16 rfl (lv_at hl 0 rfl) ?_
      refine gf_X_11_0 hF hG d_X_at_17 ?_
      refine lv_iload_n hx hb d_X_at_20 rfl (lv_at hl 1 rfl) ?_
      have ho21 : x0.toNatClampNeg < z_n 12 := z_lt (n := 3) (z_hou h4)
      refine z_aald (n := 3) (K := 3) (t0 := 3) (Cn := R_H) (j := x0.toNatClampNeg) (v := ad 12 x0.toNatClampNeg) hF hG z_o1 (z_c1 C ad _ _ _) rfl rfl (z_hou h4) rfl d_X_at_21 ?_
      refine lv_iload_n hx hb d_X_at_22 rfl (lv_at hl 2 rfl) ?_
      refine lv_iload_n hx hb d_X_at_23 rfl (lv_at hl 3 rfl) ?_
      refine kc_X_70 hF (c_H_byteOf l D C ad hF.2.2 _ _ ho21 _ _ (z_byt hok h13)) hG ho21 ⟨Nat.le_of_ble_eq_true rfl, Nat.le_of_ble_eq_true rfl⟩ ⟨Nat.zero_le _, Nat.zero_le _⟩ hl.1 (Nat.le_of_ble_eq_true rfl) d_X_at_24 (fun H locs hG => ?_)
      refine lv_goto (tgt := 31) hx hb d_X_at_27 rfl ?_
      exact z_iret hF hr hlk hG (Eq.symm ((if_neg h4).trans ((if_neg h13).trans rfl))) rfl d_X_at_31
def f_X_damage (S : z_S) (x0 : Int32) (x1 : Int32) (x2 : Int32) (x3 : Int32) : Int32 := (if (f_X_isHouse x0) = 0 then (-1) else (if (f_X_isByte S x1 x2) = 0 then (-1) else (f_H_byteOf (g_H_flip S x0.toNatClampNeg x1 x2 (x3 &&& 255)) x0.toNatClampNeg x1 x2)))
def g_X_damage (S : z_S) (x0 : Int32) (x1 : Int32) (x2 : Int32) (x3 : Int32) : z_S := (if (f_X_isHouse x0) = 0 then S else (if (f_X_isByte S x1 x2) = 0 then S else (g_H_flip S x0.toNatClampNeg x1 x2 (x3 &&& 255))))
set_option maxHeartbeats 4000000 in
set_option maxRecDepth 100000 in
theorem c_X_damage (l : Launch) (D : va_G) (C : Nat → ClassId) (ad : Nat → Nat → Nat) (hJ : z_J ad) (S : z_S) (x0 : Int32) (x1 : Int32) (x2 : Int32) (x3 : Int32) (hok : z_Ok S) : z_M l y_X_damage b_X_damage 5 (some .int) rm_X_damage D C ad [.ref (ad 0 0), .int x0, .int x1, .int x2, .int x3] S (z_Qi D C ad (f_X_damage S x0 x1 x2 x3) (g_X_damage S x0 x1 x2 x3)) := by
  refine z_enter (by decide) (Nat.le_of_ble_eq_true rfl) hJ ?_
  intro p e s m below meth c ls hF hr hlk hl hG
  obtain ⟨hx, hb, hml, hown, hts⟩ := hF.1
  have hl : lv_has ls 5 [(0, .ref (ad 0 0)), (1, .int x0), (2, .int x1), (3, .int x2), (4, .int x3)] := hl
  refine lv_iload_n hx hb d_X_damage_0 rfl (lv_at hl 1 rfl) ?_
  refine kc_X_63 hF (c_X_isHouse l D C ad hF.2.2 _ _ ) hG ⟨Nat.le_of_ble_eq_true rfl, Nat.le_of_ble_eq_true rfl⟩ ⟨Nat.zero_le _, Nat.zero_le _⟩ hl.1 (Nat.le_of_ble_eq_true rfl) d_X_damage_1 (fun H locs hG => ?_)
  refine lv_if_eq (tgt := 16) hx hb d_X_damage_4 rfl (fun h4 => ?_) (fun h4 => ?_)
  ·
    refine lv_iconst (v := (-1)) hx hb d_X_damage_16 z_km1 ?_
    exact z_iret hF hr hlk hG (Eq.symm ((if_pos h4).trans rfl)) (Eq.symm ((if_pos h4).trans rfl)) d_X_damage_17
  ·
    refine lv_aload_n hx hb d_X_damage_7 rfl (lv_at hl 0 rfl) ?_
    refine lv_iload_n hx hb d_X_damage_8 rfl (lv_at hl 2 rfl) ?_
    refine lv_iload_n hx hb d_X_damage_9 rfl (lv_at hl 3 rfl) ?_
    refine kc_X_66 hF (c_X_isByte l D C ad hF.2.2 _ _ _ ) hG ⟨Nat.le_of_ble_eq_true rfl, Nat.le_of_ble_eq_true rfl⟩ ⟨Nat.zero_le _, Nat.zero_le _⟩ hl.1 (Nat.le_of_ble_eq_true rfl) d_X_damage_10 (fun H locs hG => ?_)
    refine lv_if_ne (tgt := 18) hx hb d_X_damage_13 rfl (fun h13 => ?_) (fun h13 => ?_)
    ·
      refine lv_aload_n hx hb d_X_damage_18 rfl (lv_at hl 0 rfl) ?_
      refine gf_X_11_0 hF hG d_X_damage_19 ?_
      refine lv_iload_n hx hb d_X_damage_22 rfl (lv_at hl 1 rfl) ?_
      have ho23 : x0.toNatClampNeg < z_n 12 := z_lt (n := 3) (z_hou h4)
      refine z_aald (n := 3) (K := 3) (t0 := 3) (Cn := R_H) (j := x0.toNatClampNeg) (v := ad 12 x0.toNatClampNeg) hF hG z_o1 (z_c1 C ad _ _ _) rfl rfl (z_hou h4) rfl d_X_damage_23 ?_
      refine lv_iload_n hx hb d_X_damage_24 rfl (lv_at hl 2 rfl) ?_
      refine lv_iload_n hx hb d_X_damage_25 rfl (lv_at hl 3 rfl) ?_
      refine lv_iload hx hb d_X_damage_26 (lv_at hl 4 rfl) ?_
      refine lv_sipush (v := 255) hx hb d_X_damage_28 z_si255 ?_
      refine lv_iand hx hb d_X_damage_31 ?_
      refine kc_X_74 hF (c_H_flip l D C ad hF.2.2 _ _ ho23 _ _ _ (z_byt hok h13)) hG ho23 ⟨Nat.le_of_ble_eq_true rfl, Nat.le_of_ble_eq_true rfl⟩ ⟨Nat.zero_le _, Nat.zero_le _⟩ hl.1 (Nat.le_of_ble_eq_true rfl) d_X_damage_32 (fun H locs hG => ?_)
      refine lv_aload_n hx hb d_X_damage_35 rfl (lv_at hl 0 rfl) ?_
      refine gf_X_11_0 hF hG d_X_damage_36 ?_
      refine lv_iload_n hx hb d_X_damage_39 rfl (lv_at hl 1 rfl) ?_
      have ho40 : x0.toNatClampNeg < z_n 12 := z_lt (n := 3) (z_hou h4)
      refine z_aald (n := 3) (K := 3) (t0 := 3) (Cn := R_H) (j := x0.toNatClampNeg) (v := ad 12 x0.toNatClampNeg) hF hG z_o1 (z_c1 C ad _ _ _) rfl rfl (z_hou h4) rfl d_X_damage_40 ?_
      refine lv_iload_n hx hb d_X_damage_41 rfl (lv_at hl 2 rfl) ?_
      refine lv_iload_n hx hb d_X_damage_42 rfl (lv_at hl 3 rfl) ?_
      refine kc_X_70 hF (c_H_byteOf l D C ad hF.2.2 _ _ ho40 _ _ (z_byt hok h13)) hG ho40 ⟨Nat.le_of_ble_eq_true rfl, Nat.le_of_ble_eq_true rfl⟩ ⟨Nat.zero_le _, Nat.zero_le _⟩ hl.1 (Nat.le_of_ble_eq_true rfl) d_X_damage_43 (fun H locs hG => ?_)
      exact z_iret hF hr hlk hG (Eq.symm ((if_neg h4).trans ((if_neg h13).trans rfl))) (Eq.symm ((if_neg h4).trans ((if_neg h13).trans rfl))) d_X_damage_46
    ·
      refine lv_iconst (v := (-1)) hx hb d_X_damage_16 z_km1 ?_
      exact z_iret hF hr hlk hG (Eq.symm ((if_neg h4).trans ((if_pos h13).trans rfl))) (Eq.symm ((if_neg h4).trans ((if_pos h13).trans rfl))) d_X_damage_17
def f_X_sum (S : z_S) (x0 : Int32) (x1 : Int32) (x2 : Int32) (x3 : Int64) : Int64 := (if (f_X_isHouse x0) = 0 then 0 else (if (f_X_isPart x2) = 0 then 0 else (if (f_X_isDeposit x1) = 0 then 0 else (if (S.1 2 0 x1.toNatClampNeg) = 0 then 0 else (f_H_sumOfPart S x0.toNatClampNeg x1 x2 (S.1 2 0 x1.toNatClampNeg) x3)))))
set_option maxHeartbeats 4000000 in
set_option maxRecDepth 100000 in
theorem c_X_sum (l : Launch) (D : va_G) (C : Nat → ClassId) (ad : Nat → Nat → Nat) (hJ : z_J ad) (S : z_S) (x0 : Int32) (x1 : Int32) (x2 : Int32) (x3 : Int64) (hok : z_Ok S) : z_M l y_X_sum b_X_sum 6 (some .long) rm_X_sum D C ad [.ref (ad 0 0), .int x0, .int x1, .int x2, .long x3] S (z_Ql D C ad (f_X_sum S x0 x1 x2 x3) S) := by
  refine z_enter (by decide) (Nat.le_of_ble_eq_true rfl) hJ ?_
  intro p e s m below meth c ls hF hr hlk hl hG
  obtain ⟨hx, hb, hml, hown, hts⟩ := hF.1
  have hl : lv_has ls 6 [(0, .ref (ad 0 0)), (1, .int x0), (2, .int x1), (3, .int x2), (4, .long x3)] := hl
  refine lv_iload_n hx hb d_X_sum_0 rfl (lv_at hl 1 rfl) ?_
  refine kc_X_63 hF (c_X_isHouse l D C ad hF.2.2 _ _ ) hG ⟨Nat.le_of_ble_eq_true rfl, Nat.le_of_ble_eq_true rfl⟩ ⟨Nat.zero_le _, Nat.zero_le _⟩ hl.1 (Nat.le_of_ble_eq_true rfl) d_X_sum_1 (fun H locs hG => ?_)
  refine lv_if_eq (tgt := 30) hx hb d_X_sum_4 rfl (fun h4 => ?_) (fun h4 => ?_)
  ·
    refine lv_lconst (v := 0) hx hb d_X_sum_30 rfl ?_
    exact z_lret hF hr hlk hG (Eq.symm ((if_pos h4).trans rfl)) rfl d_X_sum_31
  ·
    refine lv_iload_n hx hb d_X_sum_7 rfl (lv_at hl 3 rfl) ?_
    refine kc_X_77 hF (c_X_isPart l D C ad hF.2.2 _ _ ) hG ⟨Nat.le_of_ble_eq_true rfl, Nat.le_of_ble_eq_true rfl⟩ ⟨Nat.zero_le _, Nat.zero_le _⟩ hl.1 (Nat.le_of_ble_eq_true rfl) d_X_sum_8 (fun H locs hG => ?_)
    refine lv_if_eq (tgt := 30) hx hb d_X_sum_11 rfl (fun h11 => ?_) (fun h11 => ?_)
    ·
      refine lv_lconst (v := 0) hx hb d_X_sum_30 rfl ?_
      exact z_lret hF hr hlk hG (Eq.symm ((if_neg h4).trans ((if_pos h11).trans rfl))) rfl d_X_sum_31
    ·
      refine lv_iload_n hx hb d_X_sum_14 rfl (lv_at hl 2 rfl) ?_
      refine kc_X_51 hF (c_X_isDeposit l D C ad hF.2.2 _ _ ) hG ⟨Nat.le_of_ble_eq_true rfl, Nat.le_of_ble_eq_true rfl⟩ ⟨Nat.zero_le _, Nat.zero_le _⟩ hl.1 (Nat.le_of_ble_eq_true rfl) d_X_sum_15 (fun H locs hG => ?_)
      refine lv_if_eq (tgt := 30) hx hb d_X_sum_18 rfl (fun h18 => ?_) (fun h18 => ?_)
      ·
        refine lv_lconst (v := 0) hx hb d_X_sum_30 rfl ?_
        exact z_lret hF hr hlk hG (Eq.symm ((if_neg h4).trans ((if_neg h11).trans ((if_pos h18).trans rfl)))) rfl d_X_sum_31
      ·
        refine lv_aload_n hx hb d_X_sum_21 rfl (lv_at hl 0 rfl) ?_
        refine gf_X_15_0 hF hG d_X_sum_22 ?_
        refine lv_iload_n hx hb d_X_sum_25 rfl (lv_at hl 2 rfl) ?_
        refine z_iald (n := 6) (j := x1.toNatClampNeg) (v := (S.1 2 0 x1.toNatClampNeg)) hF hG z_o2 (z_c2 C ad _ _ _) rfl (z_dep h18) rfl d_X_sum_26 ?_
        refine lv_if_ne (tgt := 32) hx hb d_X_sum_27 rfl (fun h27 => ?_) (fun h27 => ?_)
        ·
          refine lv_aload_n hx hb d_X_sum_32 rfl (lv_at hl 0 rfl) ?_
          refine gf_X_11_0 hF hG d_X_sum_33 ?_
          refine lv_iload_n hx hb d_X_sum_36 rfl (lv_at hl 1 rfl) ?_
          have ho37 : x0.toNatClampNeg < z_n 12 := z_lt (n := 3) (z_hou h4)
          refine z_aald (n := 3) (K := 3) (t0 := 3) (Cn := R_H) (j := x0.toNatClampNeg) (v := ad 12 x0.toNatClampNeg) hF hG z_o1 (z_c1 C ad _ _ _) rfl rfl (z_hou h4) rfl d_X_sum_37 ?_
          refine lv_iload_n hx hb d_X_sum_38 rfl (lv_at hl 2 rfl) ?_
          refine lv_iload_n hx hb d_X_sum_39 rfl (lv_at hl 3 rfl) ?_
          refine lv_aload_n hx hb d_X_sum_40 rfl (lv_at hl 0 rfl) ?_
          refine gf_X_15_0 hF hG d_X_sum_41 ?_
          refine lv_iload_n hx hb d_X_sum_44 rfl (lv_at hl 2 rfl) ?_
          refine z_iald (n := 6) (j := x1.toNatClampNeg) (v := (S.1 2 0 x1.toNatClampNeg)) hF hG z_o2 (z_c2 C ad _ _ _) rfl (z_dep h18) rfl d_X_sum_45 ?_
          refine lv_lload hx hb d_X_sum_46 (lv_at hl 4 rfl) ?_
          refine kc_X_80 hF (c_H_sumOfPart l D C ad hF.2.2 _ _ ho37 _ _ _ _ (z_dep h18) (z_par h11) (z_bcI hok (z_dep h18)).2) hG ho37 ⟨Nat.le_of_ble_eq_true rfl, Nat.le_of_ble_eq_true rfl⟩ ⟨Nat.zero_le _, Nat.zero_le _⟩ hl.1 (Nat.le_of_ble_eq_true rfl) d_X_sum_48 (fun H locs hG => ?_)
          exact z_lret hF hr hlk hG (Eq.symm ((if_neg h4).trans ((if_neg h11).trans ((if_neg h18).trans ((if_neg h27).trans rfl))))) rfl d_X_sum_51
        ·
          refine lv_lconst (v := 0) hx hb d_X_sum_30 rfl ?_
          exact z_lret hF hr hlk hG (Eq.symm ((if_neg h4).trans ((if_neg h11).trans ((if_neg h18).trans ((if_pos h27).trans rfl))))) rfl d_X_sum_31
def f_X_poll (S : z_S) (x0 : Int32) (x1 : Int32) (x2 : Int64) : Int32 := (if (f_X_isDeposit x0) = 0 then (-1) else (if (f_X_isPart x1) = 0 then (-1) else (if x1 < (S.1 2 0 x0.toNatClampNeg) then (z_opt (f_X_freePlace S) (-3) (fun i30 => (if (S.1 0 0 6) < 512 then ((g_X_sendToAwaited (g_P_begin (z_sI (z_sI S 0 0 6 ((S.1 0 0 6) + 1)) 9 0 (((S.1 0 0 6) + 1).toNatClampNeg) 0) i30 ((S.1 0 0 6) + 1) x0 x1 x2 (S.1 10 0 0)) i30).1 0 0 6) else (-3)))) else (-2))))
def g_X_poll (S : z_S) (x0 : Int32) (x1 : Int32) (x2 : Int64) : z_S := (if (f_X_isDeposit x0) = 0 then S else (if (f_X_isPart x1) = 0 then S else (if x1 < (S.1 2 0 x0.toNatClampNeg) then (z_opt (f_X_freePlace S) S (fun i30 => (if (S.1 0 0 6) < 512 then (g_X_sendToAwaited (g_P_begin (z_sI (z_sI S 0 0 6 ((S.1 0 0 6) + 1)) 9 0 (((S.1 0 0 6) + 1).toNatClampNeg) 0) i30 ((S.1 0 0 6) + 1) x0 x1 x2 (S.1 10 0 0)) i30) else S))) else S)))
set_option maxHeartbeats 4000000 in
set_option maxRecDepth 100000 in
theorem c_X_poll (l : Launch) (D : va_G) (C : Nat → ClassId) (ad : Nat → Nat → Nat) (hJ : z_J ad) (S : z_S) (x0 : Int32) (x1 : Int32) (x2 : Int64) (hok : z_Ok S) : z_M l y_X_poll b_X_poll 6 (some .int) rm_X_poll D C ad [.ref (ad 0 0), .int x0, .int x1, .long x2] S (z_Qi D C ad (f_X_poll S x0 x1 x2) (g_X_poll S x0 x1 x2)) := by
  refine z_enter (by decide) (Nat.le_of_ble_eq_true rfl) hJ ?_
  intro p e s m below meth c ls hF hr hlk hl hG
  obtain ⟨hx, hb, hml, hown, hts⟩ := hF.1
  have hl : lv_has ls 6 [(0, .ref (ad 0 0)), (1, .int x0), (2, .int x1), (3, .long x2)] := hl
  refine lv_iload_n hx hb d_X_poll_0 rfl (lv_at hl 1 rfl) ?_
  refine kc_X_51 hF (c_X_isDeposit l D C ad hF.2.2 _ _ ) hG ⟨Nat.le_of_ble_eq_true rfl, Nat.le_of_ble_eq_true rfl⟩ ⟨Nat.zero_le _, Nat.zero_le _⟩ hl.1 (Nat.le_of_ble_eq_true rfl) d_X_poll_1 (fun H locs hG => ?_)
  refine lv_if_eq (tgt := 14) hx hb d_X_poll_4 rfl (fun h4 => ?_) (fun h4 => ?_)
  ·
    refine lv_iconst (v := (-1)) hx hb d_X_poll_14 z_km1 ?_
    exact z_iret hF hr hlk hG (Eq.symm ((if_pos h4).trans rfl)) (Eq.symm ((if_pos h4).trans rfl)) d_X_poll_15
  ·
    refine lv_iload_n hx hb d_X_poll_7 rfl (lv_at hl 2 rfl) ?_
    refine kc_X_77 hF (c_X_isPart l D C ad hF.2.2 _ _ ) hG ⟨Nat.le_of_ble_eq_true rfl, Nat.le_of_ble_eq_true rfl⟩ ⟨Nat.zero_le _, Nat.zero_le _⟩ hl.1 (Nat.le_of_ble_eq_true rfl) d_X_poll_8 (fun H locs hG => ?_)
    refine lv_if_ne (tgt := 16) hx hb d_X_poll_11 rfl (fun h11 => ?_) (fun h11 => ?_)
    ·
      refine lv_iload_n hx hb d_X_poll_16 rfl (lv_at hl 2 rfl) ?_
      refine lv_aload_n hx hb d_X_poll_17 rfl (lv_at hl 0 rfl) ?_
      refine gf_X_15_0 hF hG d_X_poll_18 ?_
      refine lv_iload_n hx hb d_X_poll_21 rfl (lv_at hl 1 rfl) ?_
      refine z_iald (n := 6) (j := x0.toNatClampNeg) (v := (S.1 2 0 x0.toNatClampNeg)) hF hG z_o2 (z_c2 C ad _ _ _) rfl (z_dep h4) rfl d_X_poll_22 ?_
      refine lv_icmp_lt (tgt := 29) hx hb d_X_poll_23 rfl (fun h23 => ?_) (fun h23 => ?_)
      ·
        refine lv_aload_n hx hb d_X_poll_29 rfl (lv_at hl 0 rfl) ?_
        refine kc_X_84 hF (c_X_freePlace l D C ad hF.2.2 _ ) hG ⟨Nat.le_of_ble_eq_true rfl, Nat.le_of_ble_eq_true rfl⟩ ⟨Nat.zero_le _, Nat.zero_le _⟩ hl.1 (Nat.le_of_ble_eq_true rfl) d_X_poll_30 (fun H locs hG => ?_)
        cases h30 : (f_X_freePlace S) with
        | none =>
          refine W.eq (g2 := F0 m 33 ls (.null :: [])) rfl ?_
          refine lv_astoreN (lv' := [(5, .null), (0, .ref (ad 0 0)), (1, .int x0), (2, .int x1), (3, .long x2)]) hx hb d_X_poll_33 hl (Nat.le_of_ble_eq_true rfl) rfl (fun ls hl => ?_)
          refine lv_aloadN hx hb d_X_poll_35 (lv_at hl 0 rfl) ?_
          refine lv_ifnullN (tgt := 50) hx hb d_X_poll_37 rfl ?_
          refine lv_bipush (v := (-3)) hx hb d_X_poll_50 z_bim3 ?_
          exact z_iret hF hr hlk hG (Eq.symm ((if_neg h4).trans ((if_neg h11).trans ((if_pos h23).trans ((z_opt_n h30).trans rfl))))) (Eq.symm ((if_neg h4).trans ((if_neg h11).trans ((if_pos h23).trans ((z_opt_n h30).trans rfl))))) d_X_poll_52
        | some i30 =>
          have hi30 : i30 < z_n 14 := lt_X_freePlace h30
          refine W.eq (g2 := F0 m 33 ls (.ref (ad 14 i30) :: [])) rfl ?_
          refine lv_astore (lv' := [(5, .ref (ad 14 i30)), (0, .ref (ad 0 0)), (1, .int x0), (2, .int x1), (3, .long x2)]) hx hb d_X_poll_33 hl (Nat.le_of_ble_eq_true rfl) rfl (fun ls hl => ?_)
          refine lv_aload hx hb d_X_poll_35 (lv_at hl 0 rfl) ?_
          refine lv_ifnull hx hb d_X_poll_37 ?_
          refine lv_aload_n hx hb d_X_poll_40 rfl (lv_at hl 1 rfl) ?_
          refine gf_X_42_0 hF hG (v := (S.1 0 0 6)) rfl d_X_poll_41 ?_
          refine lv_sipush (v := 512) hx hb d_X_poll_44 z_si512 ?_
          refine lv_icmp_lt (tgt := 53) hx hb d_X_poll_47 rfl (fun h47 => ?_) (fun h47 => ?_)
          ·
            refine lv_aload_n hx hb d_X_poll_53 rfl (lv_at hl 1 rfl) ?_
            refine lv_dup hx hb d_X_poll_54 rfl ?_
            refine gf_X_42_0 hF hG (v := (S.1 0 0 6)) rfl d_X_poll_55 ?_
            refine lv_iconst (v := 1) hx hb d_X_poll_58 z_k1 ?_
            refine lv_iadd hx hb d_X_poll_59 ?_
            refine pf_X_42_0 hF hG d_X_poll_60 (fun H locs hG => ?_)
            refine lv_aload_n hx hb d_X_poll_63 rfl (lv_at hl 1 rfl) ?_
            refine gf_X_32_0 hF hG d_X_poll_64 ?_
            refine lv_aload_n hx hb d_X_poll_67 rfl (lv_at hl 1 rfl) ?_
            refine gf_X_42_0 hF hG (v := ((S.1 0 0 6) + 1)) rfl d_X_poll_68 ?_
            refine lv_iconst (v := 0) hx hb d_X_poll_71 z_k0 ?_
            refine z_iast (n := 513) (j := ((S.1 0 0 6) + 1).toNatClampNeg) hF hG z_o9 (fun f g => z_c9 C ad f g _) rfl (z_pc1 hok h47) d_X_poll_72 (fun H locs hG => ?_)
            refine lv_aload hx hb d_X_poll_73 (lv_at hl 0 rfl) ?_
            refine lv_aload_n hx hb d_X_poll_75 rfl (lv_at hl 1 rfl) ?_
            refine gf_X_42_0 hF hG (v := ((S.1 0 0 6) + 1)) rfl d_X_poll_76 ?_
            refine lv_iload_n hx hb d_X_poll_79 rfl (lv_at hl 2 rfl) ?_
            refine lv_iload_n hx hb d_X_poll_80 rfl (lv_at hl 3 rfl) ?_
            refine lv_lload_n hx hb d_X_poll_81 rfl (lv_at hl 4 rfl) ?_
            refine lv_aload_n hx hb d_X_poll_82 rfl (lv_at hl 1 rfl) ?_
            refine gf_X_38_0 hF hG d_X_poll_83 ?_
            refine gf_X_88_10 hF hG (v := (S.1 10 0 0)) rfl d_X_poll_86 ?_
            refine kc_X_91 hF (c_P_begin l D C ad hF.2.2 _ _ hi30 _ _ _ _ _ ) hG hi30 ⟨Nat.le_of_ble_eq_true rfl, Nat.le_of_ble_eq_true rfl⟩ ⟨Nat.zero_le _, Nat.zero_le _⟩ hl.1 (Nat.le_of_ble_eq_true rfl) d_X_poll_89 (fun H locs hG => ?_)
            have hok1 : z_Ok (g_P_begin (z_sI (z_sI S 0 0 6 ((S.1 0 0 6) + 1)) 9 0 (((S.1 0 0 6) + 1).toNatClampNeg) 0) i30 ((S.1 0 0 6) + 1) x0 x1 x2 (S.1 10 0 0)) := ok_P_begin (ok_pc hok h47) (z_pc1 hok h47) (z_dep h4) (z_par h11)
            refine lv_aload_n hx hb d_X_poll_92 rfl (lv_at hl 1 rfl) ?_
            refine lv_aload hx hb d_X_poll_93 (lv_at hl 0 rfl) ?_
            refine kc_X_95 hF (c_X_sendToAwaited l D C ad hF.2.2 _ _ hi30 hok1) hG ⟨Nat.le_of_ble_eq_true rfl, Nat.le_of_ble_eq_true rfl⟩ ⟨Nat.zero_le _, Nat.zero_le _⟩ hl.1 (Nat.le_of_ble_eq_true rfl) d_X_poll_95 (fun H locs hG => ?_)
            refine lv_pop hx hb d_X_poll_98 rfl ?_
            refine lv_aload_n hx hb d_X_poll_99 rfl (lv_at hl 1 rfl) ?_
            refine gf_X_42_0 hF hG (v := ((g_X_sendToAwaited (g_P_begin (z_sI (z_sI S 0 0 6 ((S.1 0 0 6) + 1)) 9 0 (((S.1 0 0 6) + 1).toNatClampNeg) 0) i30 ((S.1 0 0 6) + 1) x0 x1 x2 (S.1 10 0 0)) i30).1 0 0 6)) rfl d_X_poll_100 ?_
            exact z_iret hF hr hlk hG (Eq.symm ((if_neg h4).trans ((if_neg h11).trans ((if_pos h23).trans ((z_opt_s h30).trans ((if_pos h47).trans rfl)))))) (Eq.symm ((if_neg h4).trans ((if_neg h11).trans ((if_pos h23).trans ((z_opt_s h30).trans ((if_pos h47).trans rfl)))))) d_X_poll_103
          ·
            refine lv_bipush (v := (-3)) hx hb d_X_poll_50 z_bim3 ?_
            exact z_iret hF hr hlk hG (Eq.symm ((if_neg h4).trans ((if_neg h11).trans ((if_pos h23).trans ((z_opt_s h30).trans ((if_neg h47).trans rfl)))))) (Eq.symm ((if_neg h4).trans ((if_neg h11).trans ((if_pos h23).trans ((z_opt_s h30).trans ((if_neg h47).trans rfl)))))) d_X_poll_52
      ·
        refine lv_bipush (v := (-2)) hx hb d_X_poll_26 z_bim2 ?_
        exact z_iret hF hr hlk hG (Eq.symm ((if_neg h4).trans ((if_neg h11).trans ((if_neg h23).trans rfl)))) (Eq.symm ((if_neg h4).trans ((if_neg h11).trans ((if_neg h23).trans rfl)))) d_X_poll_28
    ·
      refine lv_iconst (v := (-1)) hx hb d_X_poll_14 z_km1 ?_
      exact z_iret hF hr hlk hG (Eq.symm ((if_neg h4).trans ((if_pos h11).trans rfl))) (Eq.symm ((if_neg h4).trans ((if_pos h11).trans rfl))) d_X_poll_15
def f_X_again (S : z_S) (x0 : Int32) : Int32 := (if (f_X_isPoll S x0) = 0 then (-1) else (z_opt (f_X_runningPoll S x0) (-2) (fun i12 => (f_X_sendToAwaited S i12))))
def g_X_again (S : z_S) (x0 : Int32) : z_S := (if (f_X_isPoll S x0) = 0 then S else (z_opt (f_X_runningPoll S x0) S (fun i12 => (g_X_sendToAwaited S i12))))
set_option maxHeartbeats 4000000 in
set_option maxRecDepth 100000 in
theorem c_X_again (l : Launch) (D : va_G) (C : Nat → ClassId) (ad : Nat → Nat → Nat) (hJ : z_J ad) (S : z_S) (x0 : Int32) (hok : z_Ok S) : z_M l y_X_again b_X_again 3 (some .int) rm_X_again D C ad [.ref (ad 0 0), .int x0] S (z_Qi D C ad (f_X_again S x0) (g_X_again S x0)) := by
  refine z_enter (by decide) (Nat.le_of_ble_eq_true rfl) hJ ?_
  intro p e s m below meth c ls hF hr hlk hl hG
  obtain ⟨hx, hb, hml, hown, hts⟩ := hF.1
  have hl : lv_has ls 3 [(0, .ref (ad 0 0)), (1, .int x0)] := hl
  refine lv_aload_n hx hb d_X_again_0 rfl (lv_at hl 0 rfl) ?_
  refine lv_iload_n hx hb d_X_again_1 rfl (lv_at hl 1 rfl) ?_
  refine kc_X_99 hF (c_X_isPoll l D C ad hF.2.2 _ _ ) hG ⟨Nat.le_of_ble_eq_true rfl, Nat.le_of_ble_eq_true rfl⟩ ⟨Nat.zero_le _, Nat.zero_le _⟩ hl.1 (Nat.le_of_ble_eq_true rfl) d_X_again_2 (fun H locs hG => ?_)
  refine lv_if_ne (tgt := 10) hx hb d_X_again_5 rfl (fun h5 => ?_) (fun h5 => ?_)
  ·
    refine lv_aload_n hx hb d_X_again_10 rfl (lv_at hl 0 rfl) ?_
    refine lv_iload_n hx hb d_X_again_11 rfl (lv_at hl 1 rfl) ?_
    refine kc_X_102 hF (c_X_runningPoll l D C ad hF.2.2 _ _ ) hG ⟨Nat.le_of_ble_eq_true rfl, Nat.le_of_ble_eq_true rfl⟩ ⟨Nat.zero_le _, Nat.zero_le _⟩ hl.1 (Nat.le_of_ble_eq_true rfl) d_X_again_12 (fun H locs hG => ?_)
    cases h12 : (f_X_runningPoll S x0) with
    | none =>
      refine W.eq (g2 := F0 m 15 ls (.null :: [])) rfl ?_
      refine lv_astore_nN (lv' := [(2, .null), (0, .ref (ad 0 0)), (1, .int x0)]) hx hb d_X_again_15 rfl hl (Nat.le_of_ble_eq_true rfl) rfl (fun ls hl => ?_)
      refine lv_aload_nN hx hb d_X_again_16 rfl (lv_at hl 0 rfl) ?_
      refine lv_ifnonnullN hx hb d_X_again_17 ?_
      refine lv_bipush (v := (-2)) hx hb d_X_again_20 z_bim2 ?_
      refine lv_goto (tgt := 30) hx hb d_X_again_22 rfl ?_
      exact z_iret hF hr hlk hG (Eq.symm ((if_neg h5).trans ((z_opt_n h12).trans rfl))) (Eq.symm ((if_neg h5).trans ((z_opt_n h12).trans rfl))) d_X_again_30
    | some i12 =>
      have hi12 : i12 < z_n 14 := lt_X_runningPoll h12
      refine W.eq (g2 := F0 m 15 ls (.ref (ad 14 i12) :: [])) rfl ?_
      refine lv_astore_n (lv' := [(2, .ref (ad 14 i12)), (0, .ref (ad 0 0)), (1, .int x0)]) hx hb d_X_again_15 rfl hl (Nat.le_of_ble_eq_true rfl) rfl (fun ls hl => ?_)
      refine lv_aload_n hx hb d_X_again_16 rfl (lv_at hl 0 rfl) ?_
      refine lv_ifnonnull (tgt := 25) hx hb d_X_again_17 rfl ?_
      refine lv_aload_n hx hb d_X_again_25 rfl (lv_at hl 1 rfl) ?_
      refine lv_aload_n hx hb d_X_again_26 rfl (lv_at hl 0 rfl) ?_
      refine kc_X_95 hF (c_X_sendToAwaited l D C ad hF.2.2 _ _ hi12 hok) hG ⟨Nat.le_of_ble_eq_true rfl, Nat.le_of_ble_eq_true rfl⟩ ⟨Nat.zero_le _, Nat.zero_le _⟩ hl.1 (Nat.le_of_ble_eq_true rfl) d_X_again_27 (fun H locs hG => ?_)
      exact z_iret hF hr hlk hG (Eq.symm ((if_neg h5).trans ((z_opt_s h12).trans rfl))) (Eq.symm ((if_neg h5).trans ((z_opt_s h12).trans rfl))) d_X_again_30
  ·
    refine lv_iconst (v := (-1)) hx hb d_X_again_8 z_km1 ?_
    exact z_iret hF hr hlk hG (Eq.symm ((if_pos h5).trans rfl)) (Eq.symm ((if_pos h5).trans rfl)) d_X_again_9
def f_X_step (S : z_S) : Int32 := (if (S.1 3 0 4) = 0 then 0 else (z_opt (f_X_runningPoll S (S.1 5 0 0)) (S.1 4 0 0) (fun i52 => (S.1 4 0 0))))
def g_X_step (S : z_S) : z_S := (if (S.1 3 0 4) = 0 then S else (z_opt (f_X_runningPoll S (S.1 5 0 0)) (g_R_remove S 0 ((S.1 3 0 4).toNatClampNeg - 1)) (fun i52 => (g_X_arrive (g_R_remove S 0 ((S.1 3 0 4).toNatClampNeg - 1)) i52 (S.1 4 0 0) (S.1 6 0 0) (S.2 7 0 0)))))
set_option maxHeartbeats 4000000 in
set_option maxRecDepth 100000 in
theorem c_X_step (l : Launch) (D : va_G) (C : Nat → ClassId) (ad : Nat → Nat → Nat) (hJ : z_J ad) (S : z_S) (hok : z_Ok S) : z_M l y_X_step b_X_step 6 (some .int) rm_X_step D C ad [.ref (ad 0 0)] S (z_Qi D C ad (f_X_step S) (g_X_step S)) := by
  refine z_enter (by decide) (Nat.le_of_ble_eq_true rfl) hJ ?_
  intro p e s m below meth c ls hF hr hlk hl hG
  obtain ⟨hx, hb, hml, hown, hts⟩ := hF.1
  have hl : lv_has ls 6 [(0, .ref (ad 0 0))] := hl
  refine lv_aload_n hx hb d_X_step_0 rfl (lv_at hl 0 rfl) ?_
  refine gf_X_22_0 hF hG d_X_step_1 ?_
  refine gf_X_106_3 hF hG (v := (S.1 3 0 4)) rfl d_X_step_4 ?_
  refine lv_if_ne (tgt := 12) hx hb d_X_step_7 rfl (fun h7 => ?_) (fun h7 => ?_)
  ·
    refine lv_aload_n hx hb d_X_step_12 rfl (lv_at hl 0 rfl) ?_
    refine gf_X_22_0 hF hG d_X_step_13 ?_
    refine gf_X_109_3 hF hG d_X_step_16 ?_
    refine lv_iconst (v := 0) hx hb d_X_step_19 z_k0 ?_
    refine z_iald (n := 24) (j := 0) (v := (S.1 4 0 0)) hF hG z_o4 (z_c4 C ad _ _ _) z_q0 z_in0_24 rfl d_X_step_20 ?_
    refine lv_istore_n (lv' := [(1, .int (S.1 4 0 0)), (0, .ref (ad 0 0))]) hx hb d_X_step_21 rfl hl (Nat.le_of_ble_eq_true rfl) rfl (fun ls hl => ?_)
    refine lv_aload_n hx hb d_X_step_22 rfl (lv_at hl 1 rfl) ?_
    refine gf_X_22_0 hF hG d_X_step_23 ?_
    refine gf_X_112_3 hF hG d_X_step_26 ?_
    refine lv_iconst (v := 0) hx hb d_X_step_29 z_k0 ?_
    refine z_iald (n := 24) (j := 0) (v := (S.1 6 0 0)) hF hG z_o6 (z_c6 C ad _ _ _) z_q0 z_in0_24 rfl d_X_step_30 ?_
    refine lv_istore_n (lv' := [(2, .int (S.1 6 0 0)), (1, .int (S.1 4 0 0)), (0, .ref (ad 0 0))]) hx hb d_X_step_31 rfl hl (Nat.le_of_ble_eq_true rfl) rfl (fun ls hl => ?_)
    refine lv_aload_n hx hb d_X_step_32 rfl (lv_at hl 2 rfl) ?_
    refine gf_X_22_0 hF hG d_X_step_33 ?_
    refine gf_X_114_3 hF hG d_X_step_36 ?_
    refine lv_iconst (v := 0) hx hb d_X_step_39 z_k0 ?_
    refine z_lald (n := 24) (j := 0) (v := (S.2 7 0 0)) hF hG z_o7 (z_c7 C ad _ _ _) z_q0 z_in0_24 rfl d_X_step_40 ?_
    refine lv_lstore_n (lv' := [(3, .long (S.2 7 0 0)), (2, .int (S.1 6 0 0)), (1, .int (S.1 4 0 0)), (0, .ref (ad 0 0))]) hx hb d_X_step_41 rfl hl (Nat.le_of_ble_eq_true rfl) rfl (fun ls hl => ?_)
    refine lv_aload_n hx hb d_X_step_42 rfl (lv_at hl 3 rfl) ?_
    refine lv_aload_n hx hb d_X_step_43 rfl (lv_at hl 3 rfl) ?_
    refine gf_X_22_0 hF hG d_X_step_44 ?_
    refine gf_X_118_3 hF hG d_X_step_47 ?_
    refine lv_iconst (v := 0) hx hb d_X_step_50 z_k0 ?_
    refine z_iald (n := 24) (j := 0) (v := (S.1 5 0 0)) hF hG z_o5 (z_c5 C ad _ _ _) z_q0 z_in0_24 rfl d_X_step_51 ?_
    refine kc_X_102 hF (c_X_runningPoll l D C ad hF.2.2 _ _ ) hG ⟨Nat.le_of_ble_eq_true rfl, Nat.le_of_ble_eq_true rfl⟩ ⟨Nat.zero_le _, Nat.zero_le _⟩ hl.1 (Nat.le_of_ble_eq_true rfl) d_X_step_52 (fun H locs hG => ?_)
    cases h52 : (f_X_runningPoll S (S.1 5 0 0)) with
    | none =>
      refine W.eq (g2 := F0 m 55 ls (.null :: [])) rfl ?_
      refine lv_astoreN (lv' := [(5, .null), (3, .long (S.2 7 0 0)), (2, .int (S.1 6 0 0)), (1, .int (S.1 4 0 0)), (0, .ref (ad 0 0))]) hx hb d_X_step_55 hl (Nat.le_of_ble_eq_true rfl) rfl (fun ls hl => ?_)
      refine lv_aload_n hx hb d_X_step_57 rfl (lv_at hl 4 rfl) ?_
      refine gf_X_22_0 hF hG d_X_step_58 ?_
      refine lv_iconst (v := 0) hx hb d_X_step_61 z_k0 ?_
      refine kc_X_121 hF (c_R_remove l D C ad hF.2.2 _ _ 0 ((S.1 3 0 4).toNatClampNeg - 1) nI_0.symm (z_rs2 hok h7) (Nat.zero_le _) (z_rs4 hok h7)) hG ⟨Nat.le_of_ble_eq_true rfl, Nat.le_of_ble_eq_true rfl⟩ ⟨Nat.zero_le _, Nat.zero_le _⟩ hl.1 (Nat.le_of_ble_eq_true rfl) d_X_step_62 (fun H locs hG => ?_)
      have hok1 : z_Ok (g_R_remove S 0 ((S.1 3 0 4).toNatClampNeg - 1)) := ok_R_remove hok (z_rs2 hok h7) (Nat.zero_le _) (z_rs4 hok h7)
      refine lv_aloadN hx hb d_X_step_65 (lv_at hl 0 rfl) ?_
      refine lv_ifnullN (tgt := 79) hx hb d_X_step_67 rfl ?_
      refine lv_iload_n hx hb d_X_step_79 rfl (lv_at hl 3 rfl) ?_
      exact z_iret hF hr hlk hG (Eq.symm ((if_neg h7).trans ((z_opt_n h52).trans rfl))) (Eq.symm ((if_neg h7).trans ((z_opt_n h52).trans rfl))) d_X_step_80
    | some i52 =>
      have hi52 : i52 < z_n 14 := lt_X_runningPoll h52
      refine W.eq (g2 := F0 m 55 ls (.ref (ad 14 i52) :: [])) rfl ?_
      refine lv_astore (lv' := [(5, .ref (ad 14 i52)), (3, .long (S.2 7 0 0)), (2, .int (S.1 6 0 0)), (1, .int (S.1 4 0 0)), (0, .ref (ad 0 0))]) hx hb d_X_step_55 hl (Nat.le_of_ble_eq_true rfl) rfl (fun ls hl => ?_)
      refine lv_aload_n hx hb d_X_step_57 rfl (lv_at hl 4 rfl) ?_
      refine gf_X_22_0 hF hG d_X_step_58 ?_
      refine lv_iconst (v := 0) hx hb d_X_step_61 z_k0 ?_
      refine kc_X_121 hF (c_R_remove l D C ad hF.2.2 _ _ 0 ((S.1 3 0 4).toNatClampNeg - 1) nI_0.symm (z_rs2 hok h7) (Nat.zero_le _) (z_rs4 hok h7)) hG ⟨Nat.le_of_ble_eq_true rfl, Nat.le_of_ble_eq_true rfl⟩ ⟨Nat.zero_le _, Nat.zero_le _⟩ hl.1 (Nat.le_of_ble_eq_true rfl) d_X_step_62 (fun H locs hG => ?_)
      have hok1 : z_Ok (g_R_remove S 0 ((S.1 3 0 4).toNatClampNeg - 1)) := ok_R_remove hok (z_rs2 hok h7) (Nat.zero_le _) (z_rs4 hok h7)
      refine lv_aload hx hb d_X_step_65 (lv_at hl 0 rfl) ?_
      refine lv_ifnull hx hb d_X_step_67 ?_
      refine lv_aload_n hx hb d_X_step_70 rfl (lv_at hl 4 rfl) ?_
      refine lv_aload hx hb d_X_step_71 (lv_at hl 0 rfl) ?_
      refine lv_iload_n hx hb d_X_step_73 rfl (lv_at hl 3 rfl) ?_
      refine lv_iload_n hx hb d_X_step_74 rfl (lv_at hl 2 rfl) ?_
      refine lv_lload_n hx hb d_X_step_75 rfl (lv_at hl 1 rfl) ?_
      refine kc_X_125 hF (c_X_arrive l D C ad hF.2.2 _ _ hi52 _ _ _ hok1 (hok.2.2.1 0 (by decide))) hG ⟨Nat.le_of_ble_eq_true rfl, Nat.le_of_ble_eq_true rfl⟩ ⟨Nat.zero_le _, Nat.zero_le _⟩ hl.1 (Nat.le_of_ble_eq_true rfl) d_X_step_76 (fun H locs hG => ?_)
      refine lv_iload_n hx hb d_X_step_79 rfl (lv_at hl 3 rfl) ?_
      exact z_iret hF hr hlk hG (Eq.symm ((if_neg h7).trans ((z_opt_s h52).trans rfl))) (Eq.symm ((if_neg h7).trans ((z_opt_s h52).trans rfl))) d_X_step_80
  ·
    refine lv_iconst (v := 0) hx hb d_X_step_10 z_k0 ?_
    exact z_iret hF hr hlk hG (Eq.symm ((if_pos h7).trans rfl)) (Eq.symm ((if_pos h7).trans rfl)) d_X_step_11
def f_X_lose (S : z_S) (x0 : Int32) : Int32 := (if (f_R_has S x0) = 0 then (-1) else (S.1 4 0 x0.toNatClampNeg))
def g_X_lose (S : z_S) (x0 : Int32) : z_S := (if (f_R_has S x0) = 0 then S else (g_R_remove S x0.toNatClampNeg ((S.1 3 0 4).toNatClampNeg - 1)))
set_option maxHeartbeats 4000000 in
set_option maxRecDepth 100000 in
theorem c_X_lose (l : Launch) (D : va_G) (C : Nat → ClassId) (ad : Nat → Nat → Nat) (hJ : z_J ad) (S : z_S) (x0 : Int32) (hok : z_Ok S) : z_M l y_X_lose b_X_lose 3 (some .int) rm_X_lose D C ad [.ref (ad 0 0), .int x0] S (z_Qi D C ad (f_X_lose S x0) (g_X_lose S x0)) := by
  refine z_enter (by decide) (Nat.le_of_ble_eq_true rfl) hJ ?_
  intro p e s m below meth c ls hF hr hlk hl hG
  obtain ⟨hx, hb, hml, hown, hts⟩ := hF.1
  have hl : lv_has ls 3 [(0, .ref (ad 0 0)), (1, .int x0)] := hl
  refine lv_aload_n hx hb d_X_lose_0 rfl (lv_at hl 0 rfl) ?_
  refine gf_X_22_0 hF hG d_X_lose_1 ?_
  refine lv_iload_n hx hb d_X_lose_4 rfl (lv_at hl 1 rfl) ?_
  refine kc_X_129 hF (c_R_has l D C ad hF.2.2 _ _ ) hG ⟨Nat.le_of_ble_eq_true rfl, Nat.le_of_ble_eq_true rfl⟩ ⟨Nat.zero_le _, Nat.zero_le _⟩ hl.1 (Nat.le_of_ble_eq_true rfl) d_X_lose_5 (fun H locs hG => ?_)
  refine lv_if_ne (tgt := 13) hx hb d_X_lose_8 rfl (fun h8 => ?_) (fun h8 => ?_)
  ·
    refine lv_aload_n hx hb d_X_lose_13 rfl (lv_at hl 0 rfl) ?_
    refine gf_X_22_0 hF hG d_X_lose_14 ?_
    refine gf_X_109_3 hF hG d_X_lose_17 ?_
    refine lv_iload_n hx hb d_X_lose_20 rfl (lv_at hl 1 rfl) ?_
    refine z_iald (n := 24) (j := x0.toNatClampNeg) (v := (S.1 4 0 x0.toNatClampNeg)) hF hG z_o4 (z_c4 C ad _ _ _) rfl (z_has hok h8) rfl d_X_lose_21 ?_
    refine lv_istore_n (lv' := [(2, .int (S.1 4 0 x0.toNatClampNeg)), (0, .ref (ad 0 0)), (1, .int x0)]) hx hb d_X_lose_22 rfl hl (Nat.le_of_ble_eq_true rfl) rfl (fun ls hl => ?_)
    refine lv_aload_n hx hb d_X_lose_23 rfl (lv_at hl 1 rfl) ?_
    refine gf_X_22_0 hF hG d_X_lose_24 ?_
    refine lv_iload_n hx hb d_X_lose_27 rfl (lv_at hl 2 rfl) ?_
    refine kc_X_121 hF (c_R_remove l D C ad hF.2.2 _ _ x0.toNatClampNeg ((S.1 3 0 4).toNatClampNeg - 1) (z_rm1 h8) (z_rm2 hok h8) (z_rm3 hok h8) (z_rm4 hok h8)) hG ⟨Nat.le_of_ble_eq_true rfl, Nat.le_of_ble_eq_true rfl⟩ ⟨Nat.zero_le _, Nat.zero_le _⟩ hl.1 (Nat.le_of_ble_eq_true rfl) d_X_lose_28 (fun H locs hG => ?_)
    refine lv_iload_n hx hb d_X_lose_31 rfl (lv_at hl 0 rfl) ?_
    exact z_iret hF hr hlk hG (Eq.symm ((if_neg h8).trans rfl)) (Eq.symm ((if_neg h8).trans rfl)) d_X_lose_32
  ·
    refine lv_iconst (v := (-1)) hx hb d_X_lose_11 z_km1 ?_
    exact z_iret hF hr hlk hG (Eq.symm ((if_pos h8).trans rfl)) (Eq.symm ((if_pos h8).trans rfl)) d_X_lose_12
def f_X_twice (S : z_S) (x0 : Int32) : Int32 := (if (f_R_has S x0) = 0 then (-1) else (if (S.1 3 0 4) = 24 then (-3) else ((g_R_add S (S.1 4 0 x0.toNatClampNeg) (S.1 5 0 x0.toNatClampNeg) (S.1 6 0 x0.toNatClampNeg) (S.2 7 0 x0.toNatClampNeg)).1 3 0 4)))
def g_X_twice (S : z_S) (x0 : Int32) : z_S := (if (f_R_has S x0) = 0 then S else (if (S.1 3 0 4) = 24 then S else (g_R_add S (S.1 4 0 x0.toNatClampNeg) (S.1 5 0 x0.toNatClampNeg) (S.1 6 0 x0.toNatClampNeg) (S.2 7 0 x0.toNatClampNeg))))
set_option maxHeartbeats 4000000 in
set_option maxRecDepth 100000 in
theorem c_X_twice (l : Launch) (D : va_G) (C : Nat → ClassId) (ad : Nat → Nat → Nat) (hJ : z_J ad) (S : z_S) (x0 : Int32) (hok : z_Ok S) : z_M l y_X_twice b_X_twice 2 (some .int) rm_X_twice D C ad [.ref (ad 0 0), .int x0] S (z_Qi D C ad (f_X_twice S x0) (g_X_twice S x0)) := by
  refine z_enter (by decide) (Nat.le_of_ble_eq_true rfl) hJ ?_
  intro p e s m below meth c ls hF hr hlk hl hG
  obtain ⟨hx, hb, hml, hown, hts⟩ := hF.1
  have hl : lv_has ls 2 [(0, .ref (ad 0 0)), (1, .int x0)] := hl
  refine lv_aload_n hx hb d_X_twice_0 rfl (lv_at hl 0 rfl) ?_
  refine gf_X_22_0 hF hG d_X_twice_1 ?_
  refine lv_iload_n hx hb d_X_twice_4 rfl (lv_at hl 1 rfl) ?_
  refine kc_X_129 hF (c_R_has l D C ad hF.2.2 _ _ ) hG ⟨Nat.le_of_ble_eq_true rfl, Nat.le_of_ble_eq_true rfl⟩ ⟨Nat.zero_le _, Nat.zero_le _⟩ hl.1 (Nat.le_of_ble_eq_true rfl) d_X_twice_5 (fun H locs hG => ?_)
  refine lv_if_ne (tgt := 13) hx hb d_X_twice_8 rfl (fun h8 => ?_) (fun h8 => ?_)
  ·
    refine lv_aload_n hx hb d_X_twice_13 rfl (lv_at hl 0 rfl) ?_
    refine gf_X_22_0 hF hG d_X_twice_14 ?_
    refine gf_X_106_3 hF hG (v := (S.1 3 0 4)) rfl d_X_twice_17 ?_
    refine lv_bipush (v := 24) hx hb d_X_twice_20 z_bi24 ?_
    refine lv_icmp_ne (tgt := 28) hx hb d_X_twice_22 rfl (fun h22 => ?_) (fun h22 => ?_)
    ·
      refine lv_aload_n hx hb d_X_twice_28 rfl (lv_at hl 0 rfl) ?_
      refine gf_X_22_0 hF hG d_X_twice_29 ?_
      refine lv_aload_n hx hb d_X_twice_32 rfl (lv_at hl 0 rfl) ?_
      refine gf_X_22_0 hF hG d_X_twice_33 ?_
      refine gf_X_109_3 hF hG d_X_twice_36 ?_
      refine lv_iload_n hx hb d_X_twice_39 rfl (lv_at hl 1 rfl) ?_
      refine z_iald (n := 24) (j := x0.toNatClampNeg) (v := (S.1 4 0 x0.toNatClampNeg)) hF hG z_o4 (z_c4 C ad _ _ _) rfl (z_has hok h8) rfl d_X_twice_40 ?_
      refine lv_aload_n hx hb d_X_twice_41 rfl (lv_at hl 0 rfl) ?_
      refine gf_X_22_0 hF hG d_X_twice_42 ?_
      refine gf_X_118_3 hF hG d_X_twice_45 ?_
      refine lv_iload_n hx hb d_X_twice_48 rfl (lv_at hl 1 rfl) ?_
      refine z_iald (n := 24) (j := x0.toNatClampNeg) (v := (S.1 5 0 x0.toNatClampNeg)) hF hG z_o5 (z_c5 C ad _ _ _) rfl (z_has hok h8) rfl d_X_twice_49 ?_
      refine lv_aload_n hx hb d_X_twice_50 rfl (lv_at hl 0 rfl) ?_
      refine gf_X_22_0 hF hG d_X_twice_51 ?_
      refine gf_X_112_3 hF hG d_X_twice_54 ?_
      refine lv_iload_n hx hb d_X_twice_57 rfl (lv_at hl 1 rfl) ?_
      refine z_iald (n := 24) (j := x0.toNatClampNeg) (v := (S.1 6 0 x0.toNatClampNeg)) hF hG z_o6 (z_c6 C ad _ _ _) rfl (z_has hok h8) rfl d_X_twice_58 ?_
      refine lv_aload_n hx hb d_X_twice_59 rfl (lv_at hl 0 rfl) ?_
      refine gf_X_22_0 hF hG d_X_twice_60 ?_
      refine gf_X_114_3 hF hG d_X_twice_63 ?_
      refine lv_iload_n hx hb d_X_twice_66 rfl (lv_at hl 1 rfl) ?_
      refine z_lald (n := 24) (j := x0.toNatClampNeg) (v := (S.2 7 0 x0.toNatClampNeg)) hF hG z_o7 (z_c7 C ad _ _ _) rfl (z_has hok h8) rfl d_X_twice_67 ?_
      refine kc_X_132 hF (c_R_add l D C ad hF.2.2 _ _ _ _ _ (z_okc hok)) hG ⟨Nat.le_of_ble_eq_true rfl, Nat.le_of_ble_eq_true rfl⟩ ⟨Nat.zero_le _, Nat.zero_le _⟩ hl.1 (Nat.le_of_ble_eq_true rfl) d_X_twice_68 (fun H locs hG => ?_)
      refine lv_aload_n hx hb d_X_twice_71 rfl (lv_at hl 0 rfl) ?_
      refine gf_X_22_0 hF hG d_X_twice_72 ?_
      refine gf_X_106_3 hF hG (v := ((g_R_add S (S.1 4 0 x0.toNatClampNeg) (S.1 5 0 x0.toNatClampNeg) (S.1 6 0 x0.toNatClampNeg) (S.2 7 0 x0.toNatClampNeg)).1 3 0 4)) rfl d_X_twice_75 ?_
      exact z_iret hF hr hlk hG (Eq.symm ((if_neg h8).trans ((if_neg h22).trans rfl))) (Eq.symm ((if_neg h8).trans ((if_neg h22).trans rfl))) d_X_twice_78
    ·
      refine lv_bipush (v := (-3)) hx hb d_X_twice_25 z_bim3 ?_
      exact z_iret hF hr hlk hG (Eq.symm ((if_neg h8).trans ((if_pos h22).trans rfl))) (Eq.symm ((if_neg h8).trans ((if_pos h22).trans rfl))) d_X_twice_27
  ·
    refine lv_iconst (v := (-1)) hx hb d_X_twice_11 z_km1 ?_
    exact z_iret hF hr hlk hG (Eq.symm ((if_pos h8).trans rfl)) (Eq.symm ((if_pos h8).trans rfl)) d_X_twice_12
def f_X_letters (S : z_S) : Int32 := (S.1 3 0 4)
set_option maxHeartbeats 4000000 in
set_option maxRecDepth 100000 in
theorem c_X_letters (l : Launch) (D : va_G) (C : Nat → ClassId) (ad : Nat → Nat → Nat) (hJ : z_J ad) (S : z_S)  : z_M l y_X_letters b_X_letters 1 (some .int) rm_X_letters D C ad [.ref (ad 0 0)] S (z_Qi D C ad (f_X_letters S) S) := by
  refine z_enter (by decide) (Nat.le_of_ble_eq_true rfl) hJ ?_
  intro p e s m below meth c ls hF hr hlk hl hG
  obtain ⟨hx, hb, hml, hown, hts⟩ := hF.1
  have hl : lv_has ls 1 [(0, .ref (ad 0 0))] := hl
  refine lv_aload_n hx hb d_X_letters_0 rfl (lv_at hl 0 rfl) ?_
  refine gf_X_22_0 hF hG d_X_letters_1 ?_
  refine gf_X_106_3 hF hG (v := (S.1 3 0 4)) rfl d_X_letters_4 ?_
  exact z_iret hF hr hlk hG rfl rfl d_X_letters_7
def f_X_letter (S : z_S) (x0 : Int32) (x1 : Int32) : Int32 := (if (f_R_has S x0) = 0 then (-1) else (if x1 = 0 then (S.1 4 0 x0.toNatClampNeg) else (if x1 = 1 then (S.1 5 0 x0.toNatClampNeg) else (if x1 = 2 then (S.1 6 0 x0.toNatClampNeg) else (-1)))))
set_option maxHeartbeats 4000000 in
set_option maxRecDepth 100000 in
theorem c_X_letter (l : Launch) (D : va_G) (C : Nat → ClassId) (ad : Nat → Nat → Nat) (hJ : z_J ad) (S : z_S) (x0 : Int32) (x1 : Int32) (hok : z_Ok S) : z_M l y_X_letter b_X_letter 3 (some .int) rm_X_letter D C ad [.ref (ad 0 0), .int x0, .int x1] S (z_Qi D C ad (f_X_letter S x0 x1) S) := by
  refine z_enter (by decide) (Nat.le_of_ble_eq_true rfl) hJ ?_
  intro p e s m below meth c ls hF hr hlk hl hG
  obtain ⟨hx, hb, hml, hown, hts⟩ := hF.1
  have hl : lv_has ls 3 [(0, .ref (ad 0 0)), (1, .int x0), (2, .int x1)] := hl
  refine lv_aload_n hx hb d_X_letter_0 rfl (lv_at hl 0 rfl) ?_
  refine gf_X_22_0 hF hG d_X_letter_1 ?_
  refine lv_iload_n hx hb d_X_letter_4 rfl (lv_at hl 1 rfl) ?_
  refine kc_X_129 hF (c_R_has l D C ad hF.2.2 _ _ ) hG ⟨Nat.le_of_ble_eq_true rfl, Nat.le_of_ble_eq_true rfl⟩ ⟨Nat.zero_le _, Nat.zero_le _⟩ hl.1 (Nat.le_of_ble_eq_true rfl) d_X_letter_5 (fun H locs hG => ?_)
  refine lv_if_ne (tgt := 13) hx hb d_X_letter_8 rfl (fun h8 => ?_) (fun h8 => ?_)
  ·
    refine lv_iload_n hx hb d_X_letter_13 rfl (lv_at hl 2 rfl) ?_
    by_cases h14v0 : x1 = 0
    ·
      refine lv_tableIn (tgt := 40) (off := 26) hx hb d_X_letter_14 (by rw [h14v0]; decide) (by rw [h14v0]; decide) (by rw [h14v0]; rfl) rfl ?_
      refine lv_aload_n hx hb d_X_letter_40 rfl (lv_at hl 0 rfl) ?_
      refine gf_X_22_0 hF hG d_X_letter_41 ?_
      refine gf_X_109_3 hF hG d_X_letter_44 ?_
      refine lv_iload_n hx hb d_X_letter_47 rfl (lv_at hl 1 rfl) ?_
      refine z_iald (n := 24) (j := x0.toNatClampNeg) (v := (S.1 4 0 x0.toNatClampNeg)) hF hG z_o4 (z_c4 C ad _ _ _) rfl (z_has hok h8) rfl d_X_letter_48 ?_
      exact z_iret hF hr hlk hG (Eq.symm ((if_neg h8).trans ((if_pos h14v0).trans rfl))) rfl d_X_letter_49
    by_cases h14v1 : x1 = 1
    ·
      refine lv_tableIn (tgt := 50) (off := 36) hx hb d_X_letter_14 (by rw [h14v1]; decide) (by rw [h14v1]; decide) (by rw [h14v1]; rfl) rfl ?_
      refine lv_aload_n hx hb d_X_letter_50 rfl (lv_at hl 0 rfl) ?_
      refine gf_X_22_0 hF hG d_X_letter_51 ?_
      refine gf_X_118_3 hF hG d_X_letter_54 ?_
      refine lv_iload_n hx hb d_X_letter_57 rfl (lv_at hl 1 rfl) ?_
      refine z_iald (n := 24) (j := x0.toNatClampNeg) (v := (S.1 5 0 x0.toNatClampNeg)) hF hG z_o5 (z_c5 C ad _ _ _) rfl (z_has hok h8) rfl d_X_letter_58 ?_
      exact z_iret hF hr hlk hG (Eq.symm ((if_neg h8).trans ((if_neg h14v0).trans ((if_pos h14v1).trans rfl)))) rfl d_X_letter_59
    by_cases h14v2 : x1 = 2
    ·
      refine lv_tableIn (tgt := 60) (off := 46) hx hb d_X_letter_14 (by rw [h14v2]; decide) (by rw [h14v2]; decide) (by rw [h14v2]; rfl) rfl ?_
      refine lv_aload_n hx hb d_X_letter_60 rfl (lv_at hl 0 rfl) ?_
      refine gf_X_22_0 hF hG d_X_letter_61 ?_
      refine gf_X_112_3 hF hG d_X_letter_64 ?_
      refine lv_iload_n hx hb d_X_letter_67 rfl (lv_at hl 1 rfl) ?_
      refine z_iald (n := 24) (j := x0.toNatClampNeg) (v := (S.1 6 0 x0.toNatClampNeg)) hF hG z_o6 (z_c6 C ad _ _ _) rfl (z_has hok h8) rfl d_X_letter_68 ?_
      exact z_iret hF hr hlk hG (Eq.symm ((if_neg h8).trans ((if_neg h14v0).trans ((if_neg h14v1).trans ((if_pos h14v2).trans rfl))))) rfl d_X_letter_69
    refine lv_tableOut (tgt := 70) hx hb d_X_letter_14 (z_tab0_2 h14v0 h14v1 h14v2) rfl ?_
    refine lv_iconst (v := (-1)) hx hb d_X_letter_70 z_km1 ?_
    exact z_iret hF hr hlk hG (Eq.symm ((if_neg h8).trans ((if_neg h14v0).trans ((if_neg h14v1).trans ((if_neg h14v2).trans rfl))))) rfl d_X_letter_71
  ·
    refine lv_iconst (v := (-1)) hx hb d_X_letter_11 z_km1 ?_
    exact z_iret hF hr hlk hG (Eq.symm ((if_pos h8).trans rfl)) rfl d_X_letter_12
def f_X_giveUp (S : z_S) (x0 : Int32) : Int32 := (z_opt (f_X_runningPoll S x0) 0 (fun i2 => 1))
def g_X_giveUp (S : z_S) (x0 : Int32) : z_S := (z_opt (f_X_runningPoll S x0) S (fun i2 => (g_X_finish S i2 4)))
set_option maxHeartbeats 4000000 in
set_option maxRecDepth 100000 in
theorem c_X_giveUp (l : Launch) (D : va_G) (C : Nat → ClassId) (ad : Nat → Nat → Nat) (hJ : z_J ad) (S : z_S) (x0 : Int32) (hok : z_Ok S) : z_M l y_X_giveUp b_X_giveUp 3 (some .boolean) rm_X_giveUp D C ad [.ref (ad 0 0), .int x0] S (z_Qi D C ad (f_X_giveUp S x0) (g_X_giveUp S x0)) := by
  refine z_enter (by decide) (Nat.le_of_ble_eq_true rfl) hJ ?_
  intro p e s m below meth c ls hF hr hlk hl hG
  obtain ⟨hx, hb, hml, hown, hts⟩ := hF.1
  have hl : lv_has ls 3 [(0, .ref (ad 0 0)), (1, .int x0)] := hl
  refine lv_aload_n hx hb d_X_giveUp_0 rfl (lv_at hl 0 rfl) ?_
  refine lv_iload_n hx hb d_X_giveUp_1 rfl (lv_at hl 1 rfl) ?_
  refine kc_X_102 hF (c_X_runningPoll l D C ad hF.2.2 _ _ ) hG ⟨Nat.le_of_ble_eq_true rfl, Nat.le_of_ble_eq_true rfl⟩ ⟨Nat.zero_le _, Nat.zero_le _⟩ hl.1 (Nat.le_of_ble_eq_true rfl) d_X_giveUp_2 (fun H locs hG => ?_)
  cases h2 : (f_X_runningPoll S x0) with
  | none =>
    refine W.eq (g2 := F0 m 5 ls (.null :: [])) rfl ?_
    refine lv_astore_nN (lv' := [(2, .null), (0, .ref (ad 0 0)), (1, .int x0)]) hx hb d_X_giveUp_5 rfl hl (Nat.le_of_ble_eq_true rfl) rfl (fun ls hl => ?_)
    refine lv_aload_nN hx hb d_X_giveUp_6 rfl (lv_at hl 0 rfl) ?_
    refine lv_ifnonnullN hx hb d_X_giveUp_7 ?_
    refine lv_iconst (v := 0) hx hb d_X_giveUp_10 z_k0 ?_
    exact z_zret hF hr hlk rfl hG (Eq.symm ((z_opt_n h2).trans rfl)) (Eq.symm ((z_opt_n h2).trans rfl)) d_X_giveUp_11
  | some i2 =>
    have hi2 : i2 < z_n 14 := lt_X_runningPoll h2
    refine W.eq (g2 := F0 m 5 ls (.ref (ad 14 i2) :: [])) rfl ?_
    refine lv_astore_n (lv' := [(2, .ref (ad 14 i2)), (0, .ref (ad 0 0)), (1, .int x0)]) hx hb d_X_giveUp_5 rfl hl (Nat.le_of_ble_eq_true rfl) rfl (fun ls hl => ?_)
    refine lv_aload_n hx hb d_X_giveUp_6 rfl (lv_at hl 0 rfl) ?_
    refine lv_ifnonnull (tgt := 12) hx hb d_X_giveUp_7 rfl ?_
    refine lv_aload_n hx hb d_X_giveUp_12 rfl (lv_at hl 1 rfl) ?_
    refine lv_aload_n hx hb d_X_giveUp_13 rfl (lv_at hl 0 rfl) ?_
    refine lv_iconst (v := 4) hx hb d_X_giveUp_14 z_k4 ?_
    refine kc_X_136 hF (c_X_finish l D C ad hF.2.2 _ _ hi2 _ hok) hG ⟨Nat.le_of_ble_eq_true rfl, Nat.le_of_ble_eq_true rfl⟩ ⟨Nat.zero_le _, Nat.zero_le _⟩ hl.1 (Nat.le_of_ble_eq_true rfl) d_X_giveUp_15 (fun H locs hG => ?_)
    refine lv_iconst (v := 1) hx hb d_X_giveUp_18 z_k1 ?_
    exact z_zret hF hr hlk rfl hG (Eq.symm ((z_opt_s h2).trans rfl)) (Eq.symm ((z_opt_s h2).trans rfl)) d_X_giveUp_19
def f_X_result (S : z_S) (x0 : Int32) : Int32 := (if (f_X_isPoll S x0) = 0 then (-1) else (S.1 9 0 x0.toNatClampNeg))
set_option maxHeartbeats 4000000 in
set_option maxRecDepth 100000 in
theorem c_X_result (l : Launch) (D : va_G) (C : Nat → ClassId) (ad : Nat → Nat → Nat) (hJ : z_J ad) (S : z_S) (x0 : Int32) (hok : z_Ok S) : z_M l y_X_result b_X_result 2 (some .int) rm_X_result D C ad [.ref (ad 0 0), .int x0] S (z_Qi D C ad (f_X_result S x0) S) := by
  refine z_enter (by decide) (Nat.le_of_ble_eq_true rfl) hJ ?_
  intro p e s m below meth c ls hF hr hlk hl hG
  obtain ⟨hx, hb, hml, hown, hts⟩ := hF.1
  have hl : lv_has ls 2 [(0, .ref (ad 0 0)), (1, .int x0)] := hl
  refine lv_aload_n hx hb d_X_result_0 rfl (lv_at hl 0 rfl) ?_
  refine lv_iload_n hx hb d_X_result_1 rfl (lv_at hl 1 rfl) ?_
  refine kc_X_99 hF (c_X_isPoll l D C ad hF.2.2 _ _ ) hG ⟨Nat.le_of_ble_eq_true rfl, Nat.le_of_ble_eq_true rfl⟩ ⟨Nat.zero_le _, Nat.zero_le _⟩ hl.1 (Nat.le_of_ble_eq_true rfl) d_X_result_2 (fun H locs hG => ?_)
  refine lv_if_eq (tgt := 17) hx hb d_X_result_5 rfl (fun h5 => ?_) (fun h5 => ?_)
  ·
    refine lv_iconst (v := (-1)) hx hb d_X_result_17 z_km1 ?_
    exact z_iret hF hr hlk hG (Eq.symm ((if_pos h5).trans rfl)) rfl d_X_result_18
  ·
    refine lv_aload_n hx hb d_X_result_8 rfl (lv_at hl 0 rfl) ?_
    refine gf_X_32_0 hF hG d_X_result_9 ?_
    refine lv_iload_n hx hb d_X_result_12 rfl (lv_at hl 1 rfl) ?_
    refine z_iald (n := 513) (j := x0.toNatClampNeg) (v := (S.1 9 0 x0.toNatClampNeg)) hF hG z_o9 (z_c9 C ad _ _ _) rfl (z_pol hok h5) rfl d_X_result_13 ?_
    refine lv_goto (tgt := 18) hx hb d_X_result_14 rfl ?_
    exact z_iret hF hr hlk hG (Eq.symm ((if_neg h5).trans rfl)) rfl d_X_result_18
def f_X_close (S : z_S) (x0 : Int32) : Int32 := (if (f_X_isHouse x0) = 0 then 0 else (if (S.1 12 x0.toNatClampNeg 0) = 0 then 0 else 1))
def g_X_close (S : z_S) (x0 : Int32) : z_S := (if (f_X_isHouse x0) = 0 then S else (if (S.1 12 x0.toNatClampNeg 0) = 0 then S else (z_sI S 12 x0.toNatClampNeg 0 0)))
set_option maxHeartbeats 4000000 in
set_option maxRecDepth 100000 in
theorem c_X_close (l : Launch) (D : va_G) (C : Nat → ClassId) (ad : Nat → Nat → Nat) (hJ : z_J ad) (S : z_S) (x0 : Int32)  : z_M l y_X_close b_X_close 2 (some .boolean) rm_X_close D C ad [.ref (ad 0 0), .int x0] S (z_Qi D C ad (f_X_close S x0) (g_X_close S x0)) := by
  refine z_enter (by decide) (Nat.le_of_ble_eq_true rfl) hJ ?_
  intro p e s m below meth c ls hF hr hlk hl hG
  obtain ⟨hx, hb, hml, hown, hts⟩ := hF.1
  have hl : lv_has ls 2 [(0, .ref (ad 0 0)), (1, .int x0)] := hl
  refine lv_iload_n hx hb d_X_close_0 rfl (lv_at hl 1 rfl) ?_
  refine kc_X_63 hF (c_X_isHouse l D C ad hF.2.2 _ _ ) hG ⟨Nat.le_of_ble_eq_true rfl, Nat.le_of_ble_eq_true rfl⟩ ⟨Nat.zero_le _, Nat.zero_le _⟩ hl.1 (Nat.le_of_ble_eq_true rfl) d_X_close_1 (fun H locs hG => ?_)
  refine lv_if_eq (tgt := 19) hx hb d_X_close_4 rfl (fun h4 => ?_) (fun h4 => ?_)
  ·
    refine lv_iconst (v := 0) hx hb d_X_close_19 z_k0 ?_
    exact z_zret hF hr hlk rfl hG (Eq.symm ((if_pos h4).trans rfl)) (Eq.symm ((if_pos h4).trans rfl)) d_X_close_20
  ·
    refine lv_aload_n hx hb d_X_close_7 rfl (lv_at hl 0 rfl) ?_
    refine gf_X_11_0 hF hG d_X_close_8 ?_
    refine lv_iload_n hx hb d_X_close_11 rfl (lv_at hl 1 rfl) ?_
    have ho12 : x0.toNatClampNeg < z_n 12 := z_lt (n := 3) (z_hou h4)
    refine z_aald (n := 3) (K := 3) (t0 := 3) (Cn := R_H) (j := x0.toNatClampNeg) (v := ad 12 x0.toNatClampNeg) hF hG z_o1 (z_c1 C ad _ _ _) rfl rfl (z_hou h4) rfl d_X_close_12 ?_
    refine gf_X_140_12 hF hG ho12 (v := (S.1 12 x0.toNatClampNeg 0)) rfl d_X_close_13 ?_
    refine lv_if_ne (tgt := 21) hx hb d_X_close_16 rfl (fun h16 => ?_) (fun h16 => ?_)
    ·
      refine lv_aload_n hx hb d_X_close_21 rfl (lv_at hl 0 rfl) ?_
      refine gf_X_11_0 hF hG d_X_close_22 ?_
      refine lv_iload_n hx hb d_X_close_25 rfl (lv_at hl 1 rfl) ?_
      have ho26 : x0.toNatClampNeg < z_n 12 := z_lt (n := 3) (z_hou h4)
      refine z_aald (n := 3) (K := 3) (t0 := 3) (Cn := R_H) (j := x0.toNatClampNeg) (v := ad 12 x0.toNatClampNeg) hF hG z_o1 (z_c1 C ad _ _ _) rfl rfl (z_hou h4) rfl d_X_close_26 ?_
      refine lv_iconst (v := 0) hx hb d_X_close_27 z_k0 ?_
      refine pf_X_140_12 hF hG ho26 rfl rfl d_X_close_28 (fun H locs hG => ?_)
      refine lv_iconst (v := 1) hx hb d_X_close_31 z_k1 ?_
      exact z_zret hF hr hlk rfl hG (Eq.symm ((if_neg h4).trans ((if_neg h16).trans rfl))) (Eq.symm ((if_neg h4).trans ((if_neg h16).trans rfl))) d_X_close_32
    ·
      refine lv_iconst (v := 0) hx hb d_X_close_19 z_k0 ?_
      exact z_zret hF hr hlk rfl hG (Eq.symm ((if_neg h4).trans ((if_pos h16).trans rfl))) (Eq.symm ((if_neg h4).trans ((if_pos h16).trans rfl))) d_X_close_20
def f_X_open (S : z_S) (x0 : Int32) : Int32 := (if (f_X_isHouse x0) = 0 then 0 else (if (S.1 12 x0.toNatClampNeg 0) = 0 then 1 else 0))
def g_X_open (S : z_S) (x0 : Int32) : z_S := (if (f_X_isHouse x0) = 0 then S else (if (S.1 12 x0.toNatClampNeg 0) = 0 then (z_sI S 12 x0.toNatClampNeg 0 1) else S))
set_option maxHeartbeats 4000000 in
set_option maxRecDepth 100000 in
theorem c_X_open (l : Launch) (D : va_G) (C : Nat → ClassId) (ad : Nat → Nat → Nat) (hJ : z_J ad) (S : z_S) (x0 : Int32)  : z_M l y_X_open b_X_open 2 (some .boolean) rm_X_open D C ad [.ref (ad 0 0), .int x0] S (z_Qi D C ad (f_X_open S x0) (g_X_open S x0)) := by
  refine z_enter (by decide) (Nat.le_of_ble_eq_true rfl) hJ ?_
  intro p e s m below meth c ls hF hr hlk hl hG
  obtain ⟨hx, hb, hml, hown, hts⟩ := hF.1
  have hl : lv_has ls 2 [(0, .ref (ad 0 0)), (1, .int x0)] := hl
  refine lv_iload_n hx hb d_X_open_0 rfl (lv_at hl 1 rfl) ?_
  refine kc_X_63 hF (c_X_isHouse l D C ad hF.2.2 _ _ ) hG ⟨Nat.le_of_ble_eq_true rfl, Nat.le_of_ble_eq_true rfl⟩ ⟨Nat.zero_le _, Nat.zero_le _⟩ hl.1 (Nat.le_of_ble_eq_true rfl) d_X_open_1 (fun H locs hG => ?_)
  refine lv_if_eq (tgt := 19) hx hb d_X_open_4 rfl (fun h4 => ?_) (fun h4 => ?_)
  ·
    refine lv_iconst (v := 0) hx hb d_X_open_19 z_k0 ?_
    exact z_zret hF hr hlk rfl hG (Eq.symm ((if_pos h4).trans rfl)) (Eq.symm ((if_pos h4).trans rfl)) d_X_open_20
  ·
    refine lv_aload_n hx hb d_X_open_7 rfl (lv_at hl 0 rfl) ?_
    refine gf_X_11_0 hF hG d_X_open_8 ?_
    refine lv_iload_n hx hb d_X_open_11 rfl (lv_at hl 1 rfl) ?_
    have ho12 : x0.toNatClampNeg < z_n 12 := z_lt (n := 3) (z_hou h4)
    refine z_aald (n := 3) (K := 3) (t0 := 3) (Cn := R_H) (j := x0.toNatClampNeg) (v := ad 12 x0.toNatClampNeg) hF hG z_o1 (z_c1 C ad _ _ _) rfl rfl (z_hou h4) rfl d_X_open_12 ?_
    refine gf_X_140_12 hF hG ho12 (v := (S.1 12 x0.toNatClampNeg 0)) rfl d_X_open_13 ?_
    refine lv_if_eq (tgt := 21) hx hb d_X_open_16 rfl (fun h16 => ?_) (fun h16 => ?_)
    ·
      refine lv_aload_n hx hb d_X_open_21 rfl (lv_at hl 0 rfl) ?_
      refine gf_X_11_0 hF hG d_X_open_22 ?_
      refine lv_iload_n hx hb d_X_open_25 rfl (lv_at hl 1 rfl) ?_
      have ho26 : x0.toNatClampNeg < z_n 12 := z_lt (n := 3) (z_hou h4)
      refine z_aald (n := 3) (K := 3) (t0 := 3) (Cn := R_H) (j := x0.toNatClampNeg) (v := ad 12 x0.toNatClampNeg) hF hG z_o1 (z_c1 C ad _ _ _) rfl rfl (z_hou h4) rfl d_X_open_26 ?_
      refine lv_iconst (v := 1) hx hb d_X_open_27 z_k1 ?_
      refine pf_X_140_12 hF hG ho26 rfl rfl d_X_open_28 (fun H locs hG => ?_)
      refine lv_iconst (v := 1) hx hb d_X_open_31 z_k1 ?_
      exact z_zret hF hr hlk rfl hG (Eq.symm ((if_neg h4).trans ((if_pos h16).trans rfl))) (Eq.symm ((if_neg h4).trans ((if_pos h16).trans rfl))) d_X_open_32
    ·
      refine lv_iconst (v := 0) hx hb d_X_open_19 z_k0 ?_
      exact z_zret hF hr hlk rfl hG (Eq.symm ((if_neg h4).trans ((if_neg h16).trans rfl))) (Eq.symm ((if_neg h4).trans ((if_neg h16).trans rfl))) d_X_open_20
def f_X_round (S : z_S) : Int32 := (S.1 10 0 0)
set_option maxHeartbeats 4000000 in
set_option maxRecDepth 100000 in
theorem c_X_round (l : Launch) (D : va_G) (C : Nat → ClassId) (ad : Nat → Nat → Nat) (hJ : z_J ad) (S : z_S)  : z_M l y_X_round b_X_round 1 (some .int) rm_X_round D C ad [.ref (ad 0 0)] S (z_Qi D C ad (f_X_round S) S) := by
  refine z_enter (by decide) (Nat.le_of_ble_eq_true rfl) hJ ?_
  intro p e s m below meth c ls hF hr hlk hl hG
  obtain ⟨hx, hb, hml, hown, hts⟩ := hF.1
  have hl : lv_has ls 1 [(0, .ref (ad 0 0))] := hl
  refine lv_aload_n hx hb d_X_round_0 rfl (lv_at hl 0 rfl) ?_
  refine gf_X_38_0 hF hG d_X_round_1 ?_
  refine gf_X_88_10 hF hG (v := (S.1 10 0 0)) rfl d_X_round_4 ?_
  exact z_iret hF hr hlk hG rfl rfl d_X_round_7
def f_X_done (S : z_S) : Int32 := (S.1 10 0 1)
set_option maxHeartbeats 4000000 in
set_option maxRecDepth 100000 in
theorem c_X_done (l : Launch) (D : va_G) (C : Nat → ClassId) (ad : Nat → Nat → Nat) (hJ : z_J ad) (S : z_S)  : z_M l y_X_done b_X_done 1 (some .int) rm_X_done D C ad [.ref (ad 0 0)] S (z_Qi D C ad (f_X_done S) S) := by
  refine z_enter (by decide) (Nat.le_of_ble_eq_true rfl) hJ ?_
  intro p e s m below meth c ls hF hr hlk hl hG
  obtain ⟨hx, hb, hml, hown, hts⟩ := hF.1
  have hl : lv_has ls 1 [(0, .ref (ad 0 0))] := hl
  refine lv_aload_n hx hb d_X_done_0 rfl (lv_at hl 0 rfl) ?_
  refine gf_X_38_0 hF hG d_X_done_1 ?_
  refine gf_X_144_10 hF hG (v := (S.1 10 0 1)) rfl d_X_done_4 ?_
  exact z_iret hF hr hlk hG rfl rfl d_X_done_7
def f_X_mends (S : z_S) (x0 : Int32) : Int32 := (if (f_X_isHouse x0) = 0 then (-1) else (S.1 12 x0.toNatClampNeg 1))
set_option maxHeartbeats 4000000 in
set_option maxRecDepth 100000 in
theorem c_X_mends (l : Launch) (D : va_G) (C : Nat → ClassId) (ad : Nat → Nat → Nat) (hJ : z_J ad) (S : z_S) (x0 : Int32)  : z_M l y_X_mends b_X_mends 2 (some .int) rm_X_mends D C ad [.ref (ad 0 0), .int x0] S (z_Qi D C ad (f_X_mends S x0) S) := by
  refine z_enter (by decide) (Nat.le_of_ble_eq_true rfl) hJ ?_
  intro p e s m below meth c ls hF hr hlk hl hG
  obtain ⟨hx, hb, hml, hown, hts⟩ := hF.1
  have hl : lv_has ls 2 [(0, .ref (ad 0 0)), (1, .int x0)] := hl
  refine lv_iload_n hx hb d_X_mends_0 rfl (lv_at hl 1 rfl) ?_
  refine kc_X_63 hF (c_X_isHouse l D C ad hF.2.2 _ _ ) hG ⟨Nat.le_of_ble_eq_true rfl, Nat.le_of_ble_eq_true rfl⟩ ⟨Nat.zero_le _, Nat.zero_le _⟩ hl.1 (Nat.le_of_ble_eq_true rfl) d_X_mends_1 (fun H locs hG => ?_)
  refine lv_if_eq (tgt := 19) hx hb d_X_mends_4 rfl (fun h4 => ?_) (fun h4 => ?_)
  ·
    refine lv_iconst (v := (-1)) hx hb d_X_mends_19 z_km1 ?_
    exact z_iret hF hr hlk hG (Eq.symm ((if_pos h4).trans rfl)) rfl d_X_mends_20
  ·
    refine lv_aload_n hx hb d_X_mends_7 rfl (lv_at hl 0 rfl) ?_
    refine gf_X_11_0 hF hG d_X_mends_8 ?_
    refine lv_iload_n hx hb d_X_mends_11 rfl (lv_at hl 1 rfl) ?_
    have ho12 : x0.toNatClampNeg < z_n 12 := z_lt (n := 3) (z_hou h4)
    refine z_aald (n := 3) (K := 3) (t0 := 3) (Cn := R_H) (j := x0.toNatClampNeg) (v := ad 12 x0.toNatClampNeg) hF hG z_o1 (z_c1 C ad _ _ _) rfl rfl (z_hou h4) rfl d_X_mends_12 ?_
    refine gf_X_152_12 hF hG ho12 (v := (S.1 12 x0.toNatClampNeg 1)) rfl d_X_mends_13 ?_
    refine lv_goto (tgt := 20) hx hb d_X_mends_16 rfl ?_
    exact z_iret hF hr hlk hG (Eq.symm ((if_neg h4).trans rfl)) rfl d_X_mends_20
def f_X_disputes (S : z_S) : Int32 := (S.1 0 0 7)
set_option maxHeartbeats 4000000 in
set_option maxRecDepth 100000 in
theorem c_X_disputes (l : Launch) (D : va_G) (C : Nat → ClassId) (ad : Nat → Nat → Nat) (hJ : z_J ad) (S : z_S)  : z_M l y_X_disputes b_X_disputes 1 (some .int) rm_X_disputes D C ad [.ref (ad 0 0)] S (z_Qi D C ad (f_X_disputes S) S) := by
  refine z_enter (by decide) (Nat.le_of_ble_eq_true rfl) hJ ?_
  intro p e s m below meth c ls hF hr hlk hl hG
  obtain ⟨hx, hb, hml, hown, hts⟩ := hF.1
  have hl : lv_has ls 1 [(0, .ref (ad 0 0))] := hl
  refine lv_aload_n hx hb d_X_disputes_0 rfl (lv_at hl 0 rfl) ?_
  refine gf_X_46_0 hF hG (v := (S.1 0 0 7)) rfl d_X_disputes_1 ?_
  exact z_iret hF hr hlk hG rfl rfl d_X_disputes_4
end
section
abbrev rm_M_isHouse : Room := { frames := 0, cells := 0, slots := 0, locals := 0 }
abbrev rm_M_blocksOf : Room := { frames := 0, cells := 0, slots := 0, locals := 0 }
abbrev rm_M_isByte : Room := { frames := 1, cells := 0, slots := 0, locals := 21 }
abbrev rm_M_blocks : Room := { frames := 1, cells := 0, slots := 0, locals := 21 }
abbrev rm_M_at : Room := { frames := 2, cells := 0, slots := 0, locals := 44 }
abbrev rm_M_damage : Room := { frames := 2, cells := 0, slots := 0, locals := 44 }
abbrev rm_M_mix : Room := { frames := 0, cells := 0, slots := 0, locals := 0 }
abbrev rm_M_sizeOf : Room := { frames := 1, cells := 0, slots := 0, locals := 21 }
abbrev rm_M_sum : Room := { frames := 2, cells := 0, slots := 0, locals := 43 }
theorem z_o21 : 0 < z_n 21 := by decide
theorem z_o23 : 0 < z_n 23 := by decide
theorem dp_M_isHouse : y_M_isHouse.cls ≠ "java/lang/invoke/MethodHandle" ∧ y_M_isHouse.cls ≠ "java/lang/invoke/VarHandle" ∧ (parseMethodDescriptor y_M_isHouse.desc).map (fun d => d.parameters.length) = some 1 := by decide +kernel
theorem dp_M_blocksOf : y_M_blocksOf.cls ≠ "java/lang/invoke/MethodHandle" ∧ y_M_blocksOf.cls ≠ "java/lang/invoke/VarHandle" ∧ (parseMethodDescriptor y_M_blocksOf.desc).map (fun d => d.parameters.length) = some 1 := by decide +kernel
theorem dp_M_isByte : y_M_isByte.cls ≠ "java/lang/invoke/MethodHandle" ∧ y_M_isByte.cls ≠ "java/lang/invoke/VarHandle" ∧ (parseMethodDescriptor y_M_isByte.desc).map (fun d => d.parameters.length) = some 3 := by decide +kernel
theorem z_si384 : (Int16.ofInt (384)).toInt32 = 384 := by decide
theorem z_bi64 : (Int8.ofInt (64)).toInt32 = 64 := by decide
theorem z_o22 : 0 < z_n 22 := by decide
theorem z_bi7 : (Int8.ofInt (7)).toInt32 = 7 := by decide
theorem dp_M_sizeOf : y_M_sizeOf.cls ≠ "java/lang/invoke/MethodHandle" ∧ y_M_sizeOf.cls ≠ "java/lang/invoke/VarHandle" ∧ (parseMethodDescriptor y_M_sizeOf.desc).map (fun d => d.parameters.length) = some 2 := by decide +kernel
theorem dp_M_mix : y_M_mix.cls ≠ "java/lang/invoke/MethodHandle" ∧ y_M_mix.cls ≠ "java/lang/invoke/VarHandle" ∧ (parseMethodDescriptor y_M_mix.desc).map (fun d => d.parameters.length) = some 2 := by decide +kernel
section ZI_mlow
variable {D : va_G} {C : Nat → ClassId} {ad : Nat → Nat → Nat} {S : z_S}
variable {p : Program} {l : Launch} {e : Env} {R : Room} {s : State} {m : MethodId} {args : Array Value} {below : List Frame} {meth : Method} {c : Code} {H H0 : Heap} {locs : List Loc} {cells slots : Nat} {Q : State → Prop}
variable {cc : ByteArray} {nL pc : Nat} {ls : Array Slot} {rest : List Value}
theorem gf_M_13_21 (hF : z_F D C ad p m c cc nL s args R_M) (hG : z_G D C ad H0 S H locs) (hdg : decode cc pc = .ok (.getfield 13, 3)) (kk : W p l e R s m args below meth c H locs cells slots Q (F0 m (pc + 3) ls (.ref (ad 23 0) :: rest))) : W p l e R s m args below meth c H locs cells slots Q (F0 m pc ls (.ref (ad 21 0) :: rest)) :=
  z_get hF hG z_o21 (z_c21 C ad _ _ 0) rfl wl_M 1 (by decide) wf_M_13 rfl rfl hdg kk
theorem kc_M_76 {x0 : Int32} {r : Int32} {S2 : z_S} (hF : z_F D C ad p m c cc nL s args R_M) (hM : z_M l y_M_isHouse b_M_isHouse 1 (some .boolean) rm_M_isHouse D C ad [.int x0] S (z_Qi D C ad r S2)) (hG : z_G D C ad H0 S H locs) (hR : rm_M_isHouse.frames + 1 ≤ R.frames ∧ 8 + (1 + 11) + rm_M_isHouse.locals ≤ R.locals) (hcs : cells ≤ R.cells ∧ slots ≤ R.slots) (hsz : ls.size = nL) (hcat : (rest.map fun v => v.category).sum ≤ 8) (hdg : decode cc pc = .ok (.invokestatic 76, 3)) (kk : ∀ (H1 : Heap) (locs1 : List Loc), z_G D C ad H0 S2 H1 locs1 → W p l e R s m args below meth c H1 locs1 cells slots Q (F0 m (pc + 3) ls (.int r :: rest))) : W p l e R s m args below meth c H locs cells slots Q (F0 m pc ls (.int x0 :: rest)) :=
  z_ci (z_runS (As := [.int x0]) hF hM hG wm_M_76 wi_M_isHouse wn_M wc_M_isHouse dp_M_isHouse rfl rfl hR hcs hsz hcat rfl hdg) hG kk
theorem kc_M_80 {x0 : Int32} {r : Int32} {S2 : z_S} (hF : z_F D C ad p m c cc nL s args R_M) (hM : z_M l y_M_blocksOf b_M_blocksOf 2 (some .int) rm_M_blocksOf D C ad [.ref (ad 21 0), .int x0] S (z_Qi D C ad r S2)) (hG : z_G D C ad H0 S H locs) (hR : rm_M_blocksOf.frames + 1 ≤ R.frames ∧ 8 + (2 + 11) + rm_M_blocksOf.locals ≤ R.locals) (hcs : cells ≤ R.cells ∧ slots ≤ R.slots) (hsz : ls.size = nL) (hcat : (rest.map fun v => v.category).sum ≤ 8) (hdg : decode cc pc = .ok (.invokevirtual 80, 3)) (kk : ∀ (H1 : Heap) (locs1 : List Loc), z_G D C ad H0 S2 H1 locs1 → W p l e R s m args below meth c H1 locs1 cells slots Q (F0 m (pc + 3) ls (.int r :: rest))) : W p l e R s m args below meth c H locs cells slots Q (F0 m pc ls (.int x0 :: .ref (ad 21 0) :: rest)) :=
  z_ci (z_runV (As := [.int x0]) hF hM hG z_o21 (z_c21 C ad _ _ 0) rfl wm_M_80 wi_M_blocksOf ws_M_blocksOf wn_M wc_M_blocksOf dp_M_blocksOf rfl rfl hR hcs hsz hcat rfl hdg) hG kk
theorem kc_M_84 {x0 : Int32} {x1 : Int32} {x2 : Int32} {r : Int32} {S2 : z_S} (hF : z_F D C ad p m c cc nL s args R_M) (hM : z_M l y_M_isByte b_M_isByte 4 (some .boolean) rm_M_isByte D C ad [.ref (ad 21 0), .int x0, .int x1, .int x2] S (z_Qi D C ad r S2)) (hG : z_G D C ad H0 S H locs) (hR : rm_M_isByte.frames + 1 ≤ R.frames ∧ 8 + (4 + 11) + rm_M_isByte.locals ≤ R.locals) (hcs : cells ≤ R.cells ∧ slots ≤ R.slots) (hsz : ls.size = nL) (hcat : (rest.map fun v => v.category).sum ≤ 8) (hdg : decode cc pc = .ok (.invokevirtual 84, 3)) (kk : ∀ (H1 : Heap) (locs1 : List Loc), z_G D C ad H0 S2 H1 locs1 → W p l e R s m args below meth c H1 locs1 cells slots Q (F0 m (pc + 3) ls (.int r :: rest))) : W p l e R s m args below meth c H locs cells slots Q (F0 m pc ls (.int x2 :: .int x1 :: .int x0 :: .ref (ad 21 0) :: rest)) :=
  z_ci (z_runV (As := [.int x0, .int x1, .int x2]) hF hM hG z_o21 (z_c21 C ad _ _ 0) rfl wm_M_84 wi_M_isByte ws_M_isByte wn_M wc_M_isByte dp_M_isByte rfl rfl hR hcs hsz hcat rfl hdg) hG kk
theorem gf_M_7_21 (hF : z_F D C ad p m c cc nL s args R_M) (hG : z_G D C ad H0 S H locs) (hdg : decode cc pc = .ok (.getfield 7, 3)) (kk : W p l e R s m args below meth c H locs cells slots Q (F0 m (pc + 3) ls (.ref (ad 22 0) :: rest))) : W p l e R s m args below meth c H locs cells slots Q (F0 m pc ls (.ref (ad 21 0) :: rest)) :=
  z_get hF hG z_o21 (z_c21 C ad _ _ 0) rfl wl_M 0 (by decide) wf_M_7 rfl rfl hdg kk
theorem kc_M_90 {x0 : Int32} {x1 : Int32} {r : Int32} {S2 : z_S} (hF : z_F D C ad p m c cc nL s args R_M) (hM : z_M l y_M_sizeOf b_M_sizeOf 3 (some .int) rm_M_sizeOf D C ad [.ref (ad 21 0), .int x0, .int x1] S (z_Qi D C ad r S2)) (hG : z_G D C ad H0 S H locs) (hR : rm_M_sizeOf.frames + 1 ≤ R.frames ∧ 8 + (3 + 11) + rm_M_sizeOf.locals ≤ R.locals) (hcs : cells ≤ R.cells ∧ slots ≤ R.slots) (hsz : ls.size = nL) (hcat : (rest.map fun v => v.category).sum ≤ 8) (hdg : decode cc pc = .ok (.invokevirtual 90, 3)) (kk : ∀ (H1 : Heap) (locs1 : List Loc), z_G D C ad H0 S2 H1 locs1 → W p l e R s m args below meth c H1 locs1 cells slots Q (F0 m (pc + 3) ls (.int r :: rest))) : W p l e R s m args below meth c H locs cells slots Q (F0 m pc ls (.int x1 :: .int x0 :: .ref (ad 21 0) :: rest)) :=
  z_ci (z_runV (As := [.int x0, .int x1]) hF hM hG z_o21 (z_c21 C ad _ _ 0) rfl wm_M_90 wi_M_sizeOf ws_M_sizeOf wn_M wc_M_sizeOf dp_M_sizeOf rfl rfl hR hcs hsz hcat rfl hdg) hG kk
theorem kc_M_94 {x0 : Int64} {x1 : Int32} {r : Int64} {S2 : z_S} (hF : z_F D C ad p m c cc nL s args R_M) (hM : z_M l y_M_mix b_M_mix 3 (some .long) rm_M_mix D C ad [.long x0, .int x1] S (z_Ql D C ad r S2)) (hG : z_G D C ad H0 S H locs) (hR : rm_M_mix.frames + 1 ≤ R.frames ∧ 8 + (3 + 11) + rm_M_mix.locals ≤ R.locals) (hcs : cells ≤ R.cells ∧ slots ≤ R.slots) (hsz : ls.size = nL) (hcat : (rest.map fun v => v.category).sum ≤ 8) (hdg : decode cc pc = .ok (.invokestatic 94, 3)) (kk : ∀ (H1 : Heap) (locs1 : List Loc), z_G D C ad H0 S2 H1 locs1 → W p l e R s m args below meth c H1 locs1 cells slots Q (F0 m (pc + 3) ls (.long r :: rest))) : W p l e R s m args below meth c H locs cells slots Q (F0 m pc ls (.int x1 :: .long x0 :: rest)) :=
  z_cj (z_runS (As := [.long x0, .int x1]) hF hM hG wm_M_94 wi_M_mix wn_M wc_M_mix dp_M_mix rfl rfl hR hcs hsz hcat rfl hdg) hG kk
end ZI_mlow
end
section
def z_mi (v : Int32) : Prop := v = -1 ∨ vp_in v 6
def z_b01 (v : Int32) : Prop := v = 0 ∨ v = 1
theorem z_nb {v : Int32} (h : z_b01 v) : narrow .boolean (.int v) = .int v := by
  rcases h with rfl | rfl <;> rfl
theorem z_mi_pos {v : Int32} (h : z_mi v) (h0 : 0 ≤ v) : vp_in v 6 := by
  rcases h with rfl | h
  · exact absurd h0 (by decide)
  · exact h
theorem z_mi_nn {v : Int32} (h : z_mi v) (h0 : ¬ v < 0) : vp_in v 6 := by
  rcases h with rfl | h
  · exact absurd (by decide) h0
  · exact h
theorem z_rg7 {x : Int32} (h1 : ¬ x < 0) (h2 : ¬ 7 < x) : vp_in x 8 := by
  rw [vp_in_iff]
  rw [Int32.lt_iff_toInt_lt] at h1 h2
  have h3 : (7 : Int32).toInt = 7 := by decide
  have h4 : (0 : Int32).toInt = 0 := by decide
  omega
theorem z_l8 {x : Int32} (h : vp_in x 25) : ∀ k : Nat, k < 8 → vp_in (8 * x + nI k) 200 := by
  obtain ⟨a, ha, rfl⟩ := vp_in_of h (by decide)
  intro k hk
  show vp_in (nI 8 * nI a + nI k) 200
  rw [pk_mul, nI_add]
  exact vp_in_nI (by omega) (by decide)
theorem z_s3a {p h : Int32} (hp : vp_in p 6) (hh : vp_in h 3) : vp_in (3 * p + h) 18 := by
  obtain ⟨a, ha, rfl⟩ := vp_in_of hp (by decide)
  obtain ⟨b, hb, rfl⟩ := vp_in_of hh (by decide)
  show vp_in (nI 3 * nI a + nI b) 18
  rw [pk_mul, nI_add]
  exact vp_in_nI (by omega) (by decide)
theorem z_s30 {p : Int32} (hp : vp_in p 6) : vp_in (3 * p) 18 := by
  obtain ⟨a, ha, rfl⟩ := vp_in_of hp (by decide)
  show vp_in (nI 3 * nI a) 18
  rw [pk_mul]
  exact vp_in_nI (by omega) (by decide)
theorem z_s31 {p : Int32} (hp : vp_in p 6) : vp_in (3 * p + 1) 18 := z_s3a hp (show vp_in (nI 1) 3 from vp_in_nI (by decide) (by decide))
theorem z_s32 {p : Int32} (hp : vp_in p 6) : vp_in (3 * p + 2) 18 := z_s3a hp (show vp_in (nI 2) 3 from vp_in_nI (by decide) (by decide))
theorem z_4n {x : Int32} {n : Nat} (h : x = nI n) : 4 * x = nI (4 * n) := by
  subst h
  exact pk_mul 4 n
theorem z_4k4 {x : Int32} {n : Nat} (h : x = nI n) : 4 * x + 4 = nI (4 * n + 4) := by
  rw [z_4n h]
  exact nI_add _ 4
theorem z_4k {x : Int32} {n : Nat} (h : x = nI n) : nI (4 * n) = 4 * x := (z_4n h).symm
theorem z_cp {p h : Int32} (hp : vp_in p 6) (hh : vp_in h 3) : ∀ k : Nat, k < 8 → vp_in (24 * p + 8 * h + nI k) 144 := by
  obtain ⟨a, ha, rfl⟩ := vp_in_of hp (by decide)
  obtain ⟨b, hb, rfl⟩ := vp_in_of hh (by decide)
  intro k hk
  show vp_in (nI 24 * nI a + nI 8 * nI b + nI k) 144
  rw [pk_mul, pk_mul, nI_add, nI_add]
  exact vp_in_nI (by omega) (by decide)
theorem z_192 {k : Nat} (hk : k < 8) : vp_in (192 + nI k) 200 := by
  show vp_in (nI 192 + nI k) 200
  rw [nI_add]
  exact vp_in_nI (by omega) (by decide)
theorem z_smG {x0 x1 : Int32} {b j : Nat} (hh : vp_in x0 3) (hd : vp_in x1 6) (hb : b < 16) (hj : j < 4) : vp_in (384 * x0 + 64 * x1 + 4 * nI b + nI j) 1152 := by
  obtain ⟨h, hh', rfl⟩ := vp_in_of hh (by decide)
  obtain ⟨d, hd', rfl⟩ := vp_in_of hd (by decide)
  show vp_in (nI 384 * nI h + nI 64 * nI d + nI 4 * nI b + nI j) 1152
  rw [pk_mul, pk_mul, pk_mul, nI_add, nI_add, nI_add]
  exact vp_in_nI (by omega) (by decide)
theorem z_smA {x0 x1 x2 : Int32} {j : Nat} (hh : vp_in x0 3) (hd : vp_in x1 6) (hp : vp_in x2 8) (hj : j < 4) : vp_in (384 * x0 + 64 * x1 + 4 * (x2 + 0) + nI j) 1152 := by
  obtain ⟨b, hb, rfl⟩ := vp_in_of hp (by decide)
  rw [show nI b + 0 = nI b from nI_add b 0]
  exact z_smG hh hd (by omega) hj
theorem z_smB {x0 x1 x2 : Int32} {j : Nat} (hh : vp_in x0 3) (hd : vp_in x1 6) (hp : vp_in x2 8) (hj : j < 4) : vp_in (384 * x0 + 64 * x1 + 4 * (x2 + 8) + nI j) 1152 := by
  obtain ⟨b, hb, rfl⟩ := vp_in_of hp (by decide)
  rw [show nI b + 8 = nI (b + 8) from nI_add b 8]
  exact z_smG hh hd (by omega) hj
theorem z_sma0 {x0 x1 x2 : Int32} (hh : vp_in x0 3) (hd : vp_in x1 6) (hp : vp_in x2 8) : vp_in (384 * x0 + 64 * x1 + 4 * (x2 + 0) + 0) 1152 := z_smA (j := 0) hh hd hp (by decide)
theorem z_sma1 {x0 x1 x2 : Int32} (hh : vp_in x0 3) (hd : vp_in x1 6) (hp : vp_in x2 8) : vp_in (384 * x0 + 64 * x1 + 4 * (x2 + 0) + 1) 1152 := z_smA (j := 1) hh hd hp (by decide)
theorem z_sma2 {x0 x1 x2 : Int32} (hh : vp_in x0 3) (hd : vp_in x1 6) (hp : vp_in x2 8) : vp_in (384 * x0 + 64 * x1 + 4 * (x2 + 0) + 2) 1152 := z_smA (j := 2) hh hd hp (by decide)
theorem z_sma3 {x0 x1 x2 : Int32} (hh : vp_in x0 3) (hd : vp_in x1 6) (hp : vp_in x2 8) : vp_in (384 * x0 + 64 * x1 + 4 * (x2 + 0) + 3) 1152 := z_smA (j := 3) hh hd hp (by decide)
theorem z_smb0 {x0 x1 x2 : Int32} (hh : vp_in x0 3) (hd : vp_in x1 6) (hp : vp_in x2 8) : vp_in (384 * x0 + 64 * x1 + 4 * (x2 + 8) + 0) 1152 := z_smB (j := 0) hh hd hp (by decide)
theorem z_smb1 {x0 x1 x2 : Int32} (hh : vp_in x0 3) (hd : vp_in x1 6) (hp : vp_in x2 8) : vp_in (384 * x0 + 64 * x1 + 4 * (x2 + 8) + 1) 1152 := z_smB (j := 1) hh hd hp (by decide)
theorem z_smb2 {x0 x1 x2 : Int32} (hh : vp_in x0 3) (hd : vp_in x1 6) (hp : vp_in x2 8) : vp_in (384 * x0 + 64 * x1 + 4 * (x2 + 8) + 2) 1152 := z_smB (j := 2) hh hd hp (by decide)
theorem z_smb3 {x0 x1 x2 : Int32} (hh : vp_in x0 3) (hd : vp_in x1 6) (hp : vp_in x2 8) : vp_in (384 * x0 + 64 * x1 + 4 * (x2 + 8) + 3) 1152 := z_smB (j := 3) hh hd hp (by decide)
def f_M_isHouse (x0 : Int32) : Int32 := (if x0 < 0 then 0 else (if 3 ≤ x0 then 0 else 1))
set_option maxHeartbeats 4000000 in
set_option maxRecDepth 100000 in
theorem c_M_isHouse (l : Launch) (D : va_G) (C : Nat → ClassId) (ad : Nat → Nat → Nat) (hJ : z_J ad) (S : z_S) (x0 : Int32)  : z_M l y_M_isHouse b_M_isHouse 1 (some .boolean) rm_M_isHouse D C ad [.int x0] S (z_Qi D C ad (f_M_isHouse x0) S) := by
  refine z_enter (by decide) (Nat.le_of_ble_eq_true rfl) hJ ?_
  intro p e s m below meth c ls hF hr hlk hl hG
  obtain ⟨hx, hb, hml, hown, hts⟩ := hF.1
  have hl : lv_has ls 1 [(0, .int x0)] := hl
  refine lv_iload_n hx hb d_M_isHouse_0 rfl (lv_at hl 0 rfl) ?_
  refine lv_if_lt (tgt := 13) hx hb d_M_isHouse_1 rfl (fun h1 => ?_) (fun h1 => ?_)
  ·
    refine lv_iconst (v := 0) hx hb d_M_isHouse_13 z_k0 ?_
    exact z_zret hF hr hlk rfl hG (Eq.symm ((if_pos h1).trans rfl)) rfl d_M_isHouse_14
  ·
    refine lv_iload_n hx hb d_M_isHouse_4 rfl (lv_at hl 0 rfl) ?_
    refine lv_iconst (v := 3) hx hb d_M_isHouse_5 z_k3 ?_
    refine lv_icmp_ge (tgt := 13) hx hb d_M_isHouse_6 rfl (fun h6 => ?_) (fun h6 => ?_)
    ·
      refine lv_iconst (v := 0) hx hb d_M_isHouse_13 z_k0 ?_
      exact z_zret hF hr hlk rfl hG (Eq.symm ((if_neg h1).trans ((if_pos h6).trans rfl))) rfl d_M_isHouse_14
    ·
      refine lv_iconst (v := 1) hx hb d_M_isHouse_9 z_k1 ?_
      refine lv_goto (tgt := 14) hx hb d_M_isHouse_10 rfl ?_
      exact z_zret hF hr hlk rfl hG (Eq.symm ((if_neg h1).trans ((if_neg h6).trans rfl))) rfl d_M_isHouse_14
def f_M_blocksOf (S : z_S) (x0 : Int32) : Int32 := (if x0 < 0 then 0 else (if 6 ≤ x0 then 0 else (S.1 23 0 x0.toNatClampNeg)))
set_option maxHeartbeats 4000000 in
set_option maxRecDepth 100000 in
theorem c_M_blocksOf (l : Launch) (D : va_G) (C : Nat → ClassId) (ad : Nat → Nat → Nat) (hJ : z_J ad) (S : z_S) (x0 : Int32)  : z_M l y_M_blocksOf b_M_blocksOf 2 (some .int) rm_M_blocksOf D C ad [.ref (ad 21 0), .int x0] S (z_Qi D C ad (f_M_blocksOf S x0) S) := by
  refine z_enter (by decide) (Nat.le_of_ble_eq_true rfl) hJ ?_
  intro p e s m below meth c ls hF hr hlk hl hG
  obtain ⟨hx, hb, hml, hown, hts⟩ := hF.1
  have hl : lv_has ls 2 [(0, .ref (ad 21 0)), (1, .int x0)] := hl
  refine lv_iload_n hx hb d_M_blocksOf_0 rfl (lv_at hl 1 rfl) ?_
  refine lv_if_lt (tgt := 19) hx hb d_M_blocksOf_1 rfl (fun h1 => ?_) (fun h1 => ?_)
  ·
    refine lv_iconst (v := 0) hx hb d_M_blocksOf_19 z_k0 ?_
    exact z_iret hF hr hlk hG (Eq.symm ((if_pos h1).trans rfl)) rfl d_M_blocksOf_20
  ·
    refine lv_iload_n hx hb d_M_blocksOf_4 rfl (lv_at hl 1 rfl) ?_
    refine lv_bipush (v := 6) hx hb d_M_blocksOf_5 z_bi6 ?_
    refine lv_icmp_ge (tgt := 19) hx hb d_M_blocksOf_7 rfl (fun h7 => ?_) (fun h7 => ?_)
    ·
      refine lv_iconst (v := 0) hx hb d_M_blocksOf_19 z_k0 ?_
      exact z_iret hF hr hlk hG (Eq.symm ((if_neg h1).trans ((if_pos h7).trans rfl))) rfl d_M_blocksOf_20
    ·
      refine lv_aload_n hx hb d_M_blocksOf_10 rfl (lv_at hl 0 rfl) ?_
      refine gf_M_13_21 hF hG d_M_blocksOf_11 ?_
      refine lv_iload_n hx hb d_M_blocksOf_14 rfl (lv_at hl 1 rfl) ?_
      refine z_iald (n := 6) (j := x0.toNatClampNeg) (v := (S.1 23 0 x0.toNatClampNeg)) hF hG z_o23 (z_c23 C ad _ _ _) rfl (z_rg (n := 6) h1 h7) rfl d_M_blocksOf_15 ?_
      refine lv_goto (tgt := 20) hx hb d_M_blocksOf_16 rfl ?_
      exact z_iret hF hr hlk hG (Eq.symm ((if_neg h1).trans ((if_neg h7).trans rfl))) rfl d_M_blocksOf_20
def f_M_isByte (S : z_S) (x0 : Int32) (x1 : Int32) (x2 : Int32) : Int32 := (if (f_M_isHouse x0) = 0 then 0 else (if x2 < 0 then 0 else (if (4 * (f_M_blocksOf S x1)) ≤ x2 then 0 else 1)))
set_option maxHeartbeats 4000000 in
set_option maxRecDepth 100000 in
theorem c_M_isByte (l : Launch) (D : va_G) (C : Nat → ClassId) (ad : Nat → Nat → Nat) (hJ : z_J ad) (S : z_S) (x0 : Int32) (x1 : Int32) (x2 : Int32)  : z_M l y_M_isByte b_M_isByte 4 (some .boolean) rm_M_isByte D C ad [.ref (ad 21 0), .int x0, .int x1, .int x2] S (z_Qi D C ad (f_M_isByte S x0 x1 x2) S) := by
  refine z_enter (by decide) (Nat.le_of_ble_eq_true rfl) hJ ?_
  intro p e s m below meth c ls hF hr hlk hl hG
  obtain ⟨hx, hb, hml, hown, hts⟩ := hF.1
  have hl : lv_has ls 4 [(0, .ref (ad 21 0)), (1, .int x0), (2, .int x1), (3, .int x2)] := hl
  refine lv_iload_n hx hb d_M_isByte_0 rfl (lv_at hl 1 rfl) ?_
  refine kc_M_76 hF (c_M_isHouse l D C ad hF.2.2 _ _ ) hG ⟨Nat.le_of_ble_eq_true rfl, Nat.le_of_ble_eq_true rfl⟩ ⟨Nat.zero_le _, Nat.zero_le _⟩ hl.1 (Nat.le_of_ble_eq_true rfl) d_M_isByte_1 (fun H locs hG => ?_)
  refine lv_if_eq (tgt := 26) hx hb d_M_isByte_4 rfl (fun h4 => ?_) (fun h4 => ?_)
  ·
    refine lv_iconst (v := 0) hx hb d_M_isByte_26 z_k0 ?_
    exact z_zret hF hr hlk rfl hG (Eq.symm ((if_pos h4).trans rfl)) rfl d_M_isByte_27
  ·
    refine lv_iload_n hx hb d_M_isByte_7 rfl (lv_at hl 3 rfl) ?_
    refine lv_if_lt (tgt := 26) hx hb d_M_isByte_8 rfl (fun h8 => ?_) (fun h8 => ?_)
    ·
      refine lv_iconst (v := 0) hx hb d_M_isByte_26 z_k0 ?_
      exact z_zret hF hr hlk rfl hG (Eq.symm ((if_neg h4).trans ((if_pos h8).trans rfl))) rfl d_M_isByte_27
    ·
      refine lv_iload_n hx hb d_M_isByte_11 rfl (lv_at hl 3 rfl) ?_
      refine lv_iconst (v := 4) hx hb d_M_isByte_12 z_k4 ?_
      refine lv_aload_n hx hb d_M_isByte_13 rfl (lv_at hl 0 rfl) ?_
      refine lv_iload_n hx hb d_M_isByte_14 rfl (lv_at hl 2 rfl) ?_
      refine kc_M_80 hF (c_M_blocksOf l D C ad hF.2.2 _ _ ) hG ⟨Nat.le_of_ble_eq_true rfl, Nat.le_of_ble_eq_true rfl⟩ ⟨Nat.zero_le _, Nat.zero_le _⟩ hl.1 (Nat.le_of_ble_eq_true rfl) d_M_isByte_15 (fun H locs hG => ?_)
      refine lv_imul hx hb d_M_isByte_18 ?_
      refine lv_icmp_ge (tgt := 26) hx hb d_M_isByte_19 rfl (fun h19 => ?_) (fun h19 => ?_)
      ·
        refine lv_iconst (v := 0) hx hb d_M_isByte_26 z_k0 ?_
        exact z_zret hF hr hlk rfl hG (Eq.symm ((if_neg h4).trans ((if_neg h8).trans ((if_pos h19).trans rfl)))) rfl d_M_isByte_27
      ·
        refine lv_iconst (v := 1) hx hb d_M_isByte_22 z_k1 ?_
        refine lv_goto (tgt := 27) hx hb d_M_isByte_23 rfl ?_
        exact z_zret hF hr hlk rfl hG (Eq.symm ((if_neg h4).trans ((if_neg h8).trans ((if_neg h19).trans rfl)))) rfl d_M_isByte_27
theorem z_mho {x : Int32} (h : ¬ f_M_isHouse x = 0) : vp_in x 3 := by
  unfold f_M_isHouse at h
  by_cases h1 : x < 0
  · rw [if_pos h1] at h; exact absurd rfl h
  · rw [if_neg h1] at h
    by_cases h2 : 3 ≤ x
    · rw [if_pos h2] at h; exact absurd rfl h
    · exact z_rg (n := 3) h1 h2
theorem z_mbo {S : z_S} {x : Int32} (h : ¬ f_M_blocksOf S x = 0) : vp_in x 6 := by
  unfold f_M_blocksOf at h
  by_cases h1 : x < 0
  · rw [if_pos h1] at h; exact absurd rfl h
  · rw [if_neg h1] at h
    by_cases h2 : 6 ≤ x
    · rw [if_pos h2] at h; exact absurd rfl h
    · exact z_rg (n := 6) h1 h2
theorem z_siz {S : z_S} {x0 x1 : Int32} (h1 : ¬ x1 < 0) (h16 : x1 < f_M_blocksOf S x0) : vp_in x0 6 := by
  apply z_mbo (S := S)
  intro e
  rw [e] at h16
  exact h1 h16
/-- what keeps the reference's indices within bounds -/
def z_Om (S : z_S) : Prop := (∀ d : Nat, d < 6 → 0 ≤ (S.1 23 0 d).toInt ∧ (S.1 23 0 d).toInt ≤ 16) ∧ (0 ≤ (S.1 21 0 14).toInt ∧ (S.1 21 0 14).toInt ≤ 24) ∧ (∀ k : Nat, k < 25 → vp_in (S.1 37 0 k) 3) ∧ (∀ p : Nat, p < 6 → vp_in (S.1 26 0 p) 600 ∧ vp_in (S.1 27 0 p) 6 ∧ vp_in (S.1 28 0 p) 8) ∧ (0 ≤ (S.1 21 0 3).toInt ∧ (S.1 21 0 3).toInt ≤ 512)
theorem z_Om.of {S S' : z_S} (h : z_Om S) (e23 : S'.1 23 0 = S.1 23 0) (e14 : S'.1 21 0 14 = S.1 21 0 14) (e37 : S'.1 37 0 = S.1 37 0) (e26 : S'.1 26 0 = S.1 26 0) (e27 : S'.1 27 0 = S.1 27 0) (e28 : S'.1 28 0 = S.1 28 0) (e3 : S'.1 21 0 3 = S.1 21 0 3) : z_Om S' := by
  unfold z_Om
  rw [e23, e14, e37, e26, e27, e28, e3]
  exact h
theorem z_bof {S : z_S} {d : Nat} (hd : d < 6) : f_M_blocksOf S (nI d) = S.1 23 0 d := by
  unfold f_M_blocksOf
  rw [if_neg (nI_pos (by omega)), if_neg (show ¬ (6 : Int32) ≤ nI d from nI_ge (b := 6) hd (by decide)), nI_clamp (by omega)]
theorem z_mby {S : z_S} {x0 x1 x2 : Int32} (hom : z_Om S) (h : ¬ f_M_isByte S x0 x1 x2 = 0) : vp_in (384 * x0 + 64 * x1 + x2) 1152 := by
  unfold f_M_isByte at h
  by_cases h0 : f_M_isHouse x0 = 0
  · rw [if_pos h0] at h; exact absurd rfl h
  · rw [if_neg h0] at h
    by_cases h1 : x2 < 0
    · rw [if_pos h1] at h; exact absurd rfl h
    · rw [if_neg h1] at h
      by_cases h2 : 4 * f_M_blocksOf S x1 ≤ x2
      · rw [if_pos h2] at h; exact absurd rfl h
      · have h3 : ¬ f_M_blocksOf S x1 = 0 := by
          intro e
          rw [e] at h2
          rw [Int32.le_iff_toInt_le] at h2
          rw [Int32.lt_iff_toInt_lt] at h1
          have e1 : (4 * 0 : Int32).toInt = 0 := by decide
          have e2 : (0 : Int32).toInt = 0 := by decide
          omega
        have hd := z_mbo h3
        obtain ⟨a, ha, rfl⟩ := vp_in_of (z_mho h0) (by decide)
        obtain ⟨d, hd', rfl⟩ := vp_in_of hd (by decide)
        obtain ⟨k, hk, rfl⟩ := nI_of h1
        rw [z_bof hd'] at h2
        obtain ⟨b, hb, e⟩ := vp_in_of (x := S.1 23 0 d) (n := 17) (vp_in_iff.mpr ⟨(hom.1 d hd').1, by have := (hom.1 d hd').2; omega⟩) (by decide)
        rw [e] at h2
        have h4 : ¬ nI 4 * nI b ≤ nI k := h2
        rw [pk_mul, nI_leI (by omega) hk] at h4
        show vp_in (nI 384 * nI a + nI 64 * nI d + nI k) 1152
        rw [pk_mul, pk_mul, nI_add, nI_add]
        exact vp_in_nI (by omega) (by decide)
theorem z_mmy {S : z_S} (hom : z_Om S) : vp_in (S.1 21 0 14) 25 := vp_in_iff.mpr ⟨hom.2.1.1, by have := hom.2.1.2; omega⟩
theorem z_mpo {S : z_S} (hom : z_Om S) : vp_in (S.1 21 0 3 + 1) 600 := by
  obtain ⟨c, hc, e⟩ := vp_in_of (x := S.1 21 0 3) (n := 513) (vp_in_iff.mpr ⟨hom.2.2.2.2.1, by have := hom.2.2.2.2.2; omega⟩) (by decide)
  rw [e, show nI c + 1 = nI (c + 1) from nI_add c 1]
  exact vp_in_nI (by omega) (by decide)
theorem z_onu {S : z_S} {p : Int32} (hom : z_Om S) (hp : vp_in p 6) : vp_in (S.1 26 0 p.toNatClampNeg) 600 := (hom.2.2.2.1 _ (z_lt hp)).1
theorem z_odp {S : z_S} {p : Int32} (hom : z_Om S) (hp : vp_in p 6) : vp_in (8 * S.1 27 0 p.toNatClampNeg + S.1 28 0 p.toNatClampNeg) 48 := by
  obtain ⟨a, ha, e1⟩ := vp_in_of (hom.2.2.2.1 _ (z_lt hp)).2.1 (by decide)
  obtain ⟨b, hb, e2⟩ := vp_in_of (hom.2.2.2.1 _ (z_lt hp)).2.2 (by decide)
  rw [e1, e2]
  show vp_in (nI 8 * nI a + nI b) 48
  rw [pk_mul, nI_add]
  exact vp_in_nI (by omega) (by decide)
theorem z_mre {S : z_S} {x : Int32} (hom : z_Om S) (h2 : ¬ x < 1) (h10 : x ≤ S.1 21 0 3) : vp_in x 600 := by
  rw [vp_in_iff]
  rw [Int32.lt_iff_toInt_lt] at h2
  rw [Int32.le_iff_toInt_le] at h10
  have h3 : (1 : Int32).toInt = 1 := by decide
  have := hom.2.2.2.2.2
  omega
def f_M_blocks (S : z_S) (x0 : Int32) : Int32 := (f_M_blocksOf S x0)
set_option maxHeartbeats 4000000 in
set_option maxRecDepth 100000 in
theorem c_M_blocks (l : Launch) (D : va_G) (C : Nat → ClassId) (ad : Nat → Nat → Nat) (hJ : z_J ad) (S : z_S) (x0 : Int32)  : z_M l y_M_blocks b_M_blocks 2 (some .int) rm_M_blocks D C ad [.ref (ad 21 0), .int x0] S (z_Qi D C ad (f_M_blocks S x0) S) := by
  refine z_enter (by decide) (Nat.le_of_ble_eq_true rfl) hJ ?_
  intro p e s m below meth c ls hF hr hlk hl hG
  obtain ⟨hx, hb, hml, hown, hts⟩ := hF.1
  have hl : lv_has ls 2 [(0, .ref (ad 21 0)), (1, .int x0)] := hl
  refine lv_aload_n hx hb d_M_blocks_0 rfl (lv_at hl 0 rfl) ?_
  refine lv_iload_n hx hb d_M_blocks_1 rfl (lv_at hl 1 rfl) ?_
  refine kc_M_80 hF (c_M_blocksOf l D C ad hF.2.2 _ _ ) hG ⟨Nat.le_of_ble_eq_true rfl, Nat.le_of_ble_eq_true rfl⟩ ⟨Nat.zero_le _, Nat.zero_le _⟩ hl.1 (Nat.le_of_ble_eq_true rfl) d_M_blocks_2 (fun H locs hG => ?_)
  exact z_iret hF hr hlk hG rfl rfl d_M_blocks_5
def f_M_at (S : z_S) (x0 : Int32) (x1 : Int32) (x2 : Int32) : Int32 := (if (f_M_isByte S x0 x1 x2) = 0 then (-1) else (S.1 22 0 ((((384 * x0) + (64 * x1)) + x2).toNatClampNeg)))
set_option maxHeartbeats 4000000 in
set_option maxRecDepth 100000 in
theorem c_M_at (l : Launch) (D : va_G) (C : Nat → ClassId) (ad : Nat → Nat → Nat) (hJ : z_J ad) (S : z_S) (x0 : Int32) (x1 : Int32) (x2 : Int32) (hom : z_Om S) : z_M l y_M_at b_M_at 4 (some .int) rm_M_at D C ad [.ref (ad 21 0), .int x0, .int x1, .int x2] S (z_Qi D C ad (f_M_at S x0 x1 x2) S) := by
  refine z_enter (by decide) (Nat.le_of_ble_eq_true rfl) hJ ?_
  intro p e s m below meth c ls hF hr hlk hl hG
  obtain ⟨hx, hb, hml, hown, hts⟩ := hF.1
  have hl : lv_has ls 4 [(0, .ref (ad 21 0)), (1, .int x0), (2, .int x1), (3, .int x2)] := hl
  refine lv_aload_n hx hb d_M_at_0 rfl (lv_at hl 0 rfl) ?_
  refine lv_iload_n hx hb d_M_at_1 rfl (lv_at hl 1 rfl) ?_
  refine lv_iload_n hx hb d_M_at_2 rfl (lv_at hl 2 rfl) ?_
  refine lv_iload_n hx hb d_M_at_3 rfl (lv_at hl 3 rfl) ?_
  refine kc_M_84 hF (c_M_isByte l D C ad hF.2.2 _ _ _ _ ) hG ⟨Nat.le_of_ble_eq_true rfl, Nat.le_of_ble_eq_true rfl⟩ ⟨Nat.zero_le _, Nat.zero_le _⟩ hl.1 (Nat.le_of_ble_eq_true rfl) d_M_at_4 (fun H locs hG => ?_)
  refine lv_if_eq (tgt := 30) hx hb d_M_at_7 rfl (fun h7 => ?_) (fun h7 => ?_)
  ·
    refine lv_iconst (v := (-1)) hx hb d_M_at_30 z_km1 ?_
    exact z_iret hF hr hlk hG (Eq.symm ((if_pos h7).trans rfl)) rfl d_M_at_31
  ·
    refine lv_aload_n hx hb d_M_at_10 rfl (lv_at hl 0 rfl) ?_
    refine gf_M_7_21 hF hG d_M_at_11 ?_
    refine lv_sipush (v := 384) hx hb d_M_at_14 z_si384 ?_
    refine lv_iload_n hx hb d_M_at_17 rfl (lv_at hl 1 rfl) ?_
    refine lv_imul hx hb d_M_at_18 ?_
    refine lv_bipush (v := 64) hx hb d_M_at_19 z_bi64 ?_
    refine lv_iload_n hx hb d_M_at_21 rfl (lv_at hl 2 rfl) ?_
    refine lv_imul hx hb d_M_at_22 ?_
    refine lv_iadd hx hb d_M_at_23 ?_
    refine lv_iload_n hx hb d_M_at_24 rfl (lv_at hl 3 rfl) ?_
    refine lv_iadd hx hb d_M_at_25 ?_
    refine z_iald (n := 1152) (j := (((384 * x0) + (64 * x1)) + x2).toNatClampNeg) (v := (S.1 22 0 ((((384 * x0) + (64 * x1)) + x2).toNatClampNeg))) hF hG z_o22 (z_c22 C ad _ _ _) rfl (z_mby hom h7) rfl d_M_at_26 ?_
    refine lv_goto (tgt := 31) hx hb d_M_at_27 rfl ?_
    exact z_iret hF hr hlk hG (Eq.symm ((if_neg h7).trans rfl)) rfl d_M_at_31
def f_M_damage (S : z_S) (x0 : Int32) (x1 : Int32) (x2 : Int32) (x3 : Int32) : Int32 := (if (f_M_isByte S x0 x1 x2) = 0 then (-1) else ((z_sI S 22 0 ((((384 * x0) + (64 * x1)) + x2).toNatClampNeg) ((S.1 22 0 ((((384 * x0) + (64 * x1)) + x2).toNatClampNeg)) ^^^ (x3 &&& 255))).1 22 0 ((((384 * x0) + (64 * x1)) + x2).toNatClampNeg)))
def g_M_damage (S : z_S) (x0 : Int32) (x1 : Int32) (x2 : Int32) (x3 : Int32) : z_S := (if (f_M_isByte S x0 x1 x2) = 0 then S else (z_sI S 22 0 ((((384 * x0) + (64 * x1)) + x2).toNatClampNeg) ((S.1 22 0 ((((384 * x0) + (64 * x1)) + x2).toNatClampNeg)) ^^^ (x3 &&& 255))))
set_option maxHeartbeats 4000000 in
set_option maxRecDepth 100000 in
theorem c_M_damage (l : Launch) (D : va_G) (C : Nat → ClassId) (ad : Nat → Nat → Nat) (hJ : z_J ad) (S : z_S) (x0 : Int32) (x1 : Int32) (x2 : Int32) (x3 : Int32) (hom : z_Om S) : z_M l y_M_damage b_M_damage 5 (some .int) rm_M_damage D C ad [.ref (ad 21 0), .int x0, .int x1, .int x2, .int x3] S (z_Qi D C ad (f_M_damage S x0 x1 x2 x3) (g_M_damage S x0 x1 x2 x3)) := by
  refine z_enter (by decide) (Nat.le_of_ble_eq_true rfl) hJ ?_
  intro p e s m below meth c ls hF hr hlk hl hG
  obtain ⟨hx, hb, hml, hown, hts⟩ := hF.1
  have hl : lv_has ls 5 [(0, .ref (ad 21 0)), (1, .int x0), (2, .int x1), (3, .int x2), (4, .int x3)] := hl
  refine lv_aload_n hx hb d_M_damage_0 rfl (lv_at hl 0 rfl) ?_
  refine lv_iload_n hx hb d_M_damage_1 rfl (lv_at hl 1 rfl) ?_
  refine lv_iload_n hx hb d_M_damage_2 rfl (lv_at hl 2 rfl) ?_
  refine lv_iload_n hx hb d_M_damage_3 rfl (lv_at hl 3 rfl) ?_
  refine kc_M_84 hF (c_M_isByte l D C ad hF.2.2 _ _ _ _ ) hG ⟨Nat.le_of_ble_eq_true rfl, Nat.le_of_ble_eq_true rfl⟩ ⟨Nat.zero_le _, Nat.zero_le _⟩ hl.1 (Nat.le_of_ble_eq_true rfl) d_M_damage_4 (fun H locs hG => ?_)
  refine lv_if_ne (tgt := 12) hx hb d_M_damage_7 rfl (fun h7 => ?_) (fun h7 => ?_)
  ·
    refine lv_aload_n hx hb d_M_damage_12 rfl (lv_at hl 0 rfl) ?_
    refine gf_M_7_21 hF hG d_M_damage_13 ?_
    refine lv_sipush (v := 384) hx hb d_M_damage_16 z_si384 ?_
    refine lv_iload_n hx hb d_M_damage_19 rfl (lv_at hl 1 rfl) ?_
    refine lv_imul hx hb d_M_damage_20 ?_
    refine lv_bipush (v := 64) hx hb d_M_damage_21 z_bi64 ?_
    refine lv_iload_n hx hb d_M_damage_23 rfl (lv_at hl 2 rfl) ?_
    refine lv_imul hx hb d_M_damage_24 ?_
    refine lv_iadd hx hb d_M_damage_25 ?_
    refine lv_iload_n hx hb d_M_damage_26 rfl (lv_at hl 3 rfl) ?_
    refine lv_iadd hx hb d_M_damage_27 ?_
    refine lv_aload_n hx hb d_M_damage_28 rfl (lv_at hl 0 rfl) ?_
    refine gf_M_7_21 hF hG d_M_damage_29 ?_
    refine lv_sipush (v := 384) hx hb d_M_damage_32 z_si384 ?_
    refine lv_iload_n hx hb d_M_damage_35 rfl (lv_at hl 1 rfl) ?_
    refine lv_imul hx hb d_M_damage_36 ?_
    refine lv_bipush (v := 64) hx hb d_M_damage_37 z_bi64 ?_
    refine lv_iload_n hx hb d_M_damage_39 rfl (lv_at hl 2 rfl) ?_
    refine lv_imul hx hb d_M_damage_40 ?_
    refine lv_iadd hx hb d_M_damage_41 ?_
    refine lv_iload_n hx hb d_M_damage_42 rfl (lv_at hl 3 rfl) ?_
    refine lv_iadd hx hb d_M_damage_43 ?_
    refine z_iald (n := 1152) (j := (((384 * x0) + (64 * x1)) + x2).toNatClampNeg) (v := (S.1 22 0 ((((384 * x0) + (64 * x1)) + x2).toNatClampNeg))) hF hG z_o22 (z_c22 C ad _ _ _) rfl (z_mby hom h7) rfl d_M_damage_44 ?_
    refine lv_iload hx hb d_M_damage_45 (lv_at hl 4 rfl) ?_
    refine lv_sipush (v := 255) hx hb d_M_damage_47 z_si255 ?_
    refine lv_iand hx hb d_M_damage_50 ?_
    refine lv_ixor hx hb d_M_damage_51 ?_
    refine z_iast (n := 1152) (j := (((384 * x0) + (64 * x1)) + x2).toNatClampNeg) hF hG z_o22 (fun f g => z_c22 C ad f g _) rfl (z_mby hom h7) d_M_damage_52 (fun H locs hG => ?_)
    refine lv_aload_n hx hb d_M_damage_53 rfl (lv_at hl 0 rfl) ?_
    refine gf_M_7_21 hF hG d_M_damage_54 ?_
    refine lv_sipush (v := 384) hx hb d_M_damage_57 z_si384 ?_
    refine lv_iload_n hx hb d_M_damage_60 rfl (lv_at hl 1 rfl) ?_
    refine lv_imul hx hb d_M_damage_61 ?_
    refine lv_bipush (v := 64) hx hb d_M_damage_62 z_bi64 ?_
    refine lv_iload_n hx hb d_M_damage_64 rfl (lv_at hl 2 rfl) ?_
    refine lv_imul hx hb d_M_damage_65 ?_
    refine lv_iadd hx hb d_M_damage_66 ?_
    refine lv_iload_n hx hb d_M_damage_67 rfl (lv_at hl 3 rfl) ?_
    refine lv_iadd hx hb d_M_damage_68 ?_
    refine z_iald (n := 1152) (j := (((384 * x0) + (64 * x1)) + x2).toNatClampNeg) (v := ((z_sI S 22 0 ((((384 * x0) + (64 * x1)) + x2).toNatClampNeg) ((S.1 22 0 ((((384 * x0) + (64 * x1)) + x2).toNatClampNeg)) ^^^ (x3 &&& 255))).1 22 0 ((((384 * x0) + (64 * x1)) + x2).toNatClampNeg))) hF hG z_o22 (z_c22 C ad _ _ _) rfl (z_mby hom h7) rfl d_M_damage_69 ?_
    exact z_iret hF hr hlk hG (Eq.symm ((if_neg h7).trans rfl)) (Eq.symm ((if_neg h7).trans rfl)) d_M_damage_70
  ·
    refine lv_iconst (v := (-1)) hx hb d_M_damage_10 z_km1 ?_
    exact z_iret hF hr hlk hG (Eq.symm ((if_pos h7).trans rfl)) (Eq.symm ((if_pos h7).trans rfl)) d_M_damage_11
def f_M_mix (x0 : Int64) (x1 : Int32) : Int64 := ((x0 ^^^ (x1.toInt64)) * 1099511628211)
set_option maxHeartbeats 4000000 in
set_option maxRecDepth 100000 in
theorem c_M_mix (l : Launch) (D : va_G) (C : Nat → ClassId) (ad : Nat → Nat → Nat) (hJ : z_J ad) (S : z_S) (x0 : Int64) (x1 : Int32)  : z_M l y_M_mix b_M_mix 3 (some .long) rm_M_mix D C ad [.long x0, .int x1] S (z_Ql D C ad (f_M_mix x0 x1) S) := by
  refine z_enter (by decide) (Nat.le_of_ble_eq_true rfl) hJ ?_
  intro p e s m below meth c ls hF hr hlk hl hG
  obtain ⟨hx, hb, hml, hown, hts⟩ := hF.1
  have hl : lv_has ls 3 [(0, .long x0), (2, .int x1)] := hl
  refine lv_lload_n hx hb d_M_mix_0 rfl (lv_at hl 0 rfl) ?_
  refine lv_iload_n hx hb d_M_mix_1 rfl (lv_at hl 1 rfl) ?_
  refine lv_i2l hx hb d_M_mix_2 rfl ?_
  refine lv_lxor hx hb d_M_mix_3 ?_
  refine lv_ldc2 (v := 1099511628211) hx hb hown (hts _ wk_M_88) d_M_mix_4 ?_
  refine lv_lmul hx hb d_M_mix_7 ?_
  exact z_lret hF hr hlk hG rfl rfl d_M_mix_8
def f_M_sizeOf (S : z_S) (x0 : Int32) (x1 : Int32) : Int32 := (if x1 < 0 then 0 else (if 7 < x1 then 0 else (if x1 < (f_M_blocksOf S x0) then (if (S.1 23 0 x0.toNatClampNeg) ≤ (x1 + 8) then 1 else 2) else 0)))
set_option maxHeartbeats 4000000 in
set_option maxRecDepth 100000 in
theorem c_M_sizeOf (l : Launch) (D : va_G) (C : Nat → ClassId) (ad : Nat → Nat → Nat) (hJ : z_J ad) (S : z_S) (x0 : Int32) (x1 : Int32)  : z_M l y_M_sizeOf b_M_sizeOf 3 (some .int) rm_M_sizeOf D C ad [.ref (ad 21 0), .int x0, .int x1] S (z_Qi D C ad (f_M_sizeOf S x0 x1) S) := by
  refine z_enter (by decide) (Nat.le_of_ble_eq_true rfl) hJ ?_
  intro p e s m below meth c ls hF hr hlk hl hG
  obtain ⟨hx, hb, hml, hown, hts⟩ := hF.1
  have hl : lv_has ls 3 [(0, .ref (ad 21 0)), (1, .int x0), (2, .int x1)] := hl
  refine lv_iload_n hx hb d_M_sizeOf_0 rfl (lv_at hl 2 rfl) ?_
  refine lv_if_lt (tgt := 19) hx hb d_M_sizeOf_1 rfl (fun h1 => ?_) (fun h1 => ?_)
  ·
    refine lv_iconst (v := 0) hx hb d_M_sizeOf_19 z_k0 ?_
    refine lv_goto (tgt := 41) hx hb d_M_sizeOf_20 rfl ?_
    exact z_iret hF hr hlk hG (Eq.symm ((if_pos h1).trans rfl)) rfl d_M_sizeOf_41
  ·
    refine lv_iload_n hx hb d_M_sizeOf_4 rfl (lv_at hl 2 rfl) ?_
    refine lv_bipush (v := 7) hx hb d_M_sizeOf_5 z_bi7 ?_
    refine lv_icmp_gt (tgt := 19) hx hb d_M_sizeOf_7 rfl (fun h7 => ?_) (fun h7 => ?_)
    ·
      refine lv_iconst (v := 0) hx hb d_M_sizeOf_19 z_k0 ?_
      refine lv_goto (tgt := 41) hx hb d_M_sizeOf_20 rfl ?_
      exact z_iret hF hr hlk hG (Eq.symm ((if_neg h1).trans ((if_pos h7).trans rfl))) rfl d_M_sizeOf_41
    ·
      refine lv_iload_n hx hb d_M_sizeOf_10 rfl (lv_at hl 2 rfl) ?_
      refine lv_aload_n hx hb d_M_sizeOf_11 rfl (lv_at hl 0 rfl) ?_
      refine lv_iload_n hx hb d_M_sizeOf_12 rfl (lv_at hl 1 rfl) ?_
      refine kc_M_80 hF (c_M_blocksOf l D C ad hF.2.2 _ _ ) hG ⟨Nat.le_of_ble_eq_true rfl, Nat.le_of_ble_eq_true rfl⟩ ⟨Nat.zero_le _, Nat.zero_le _⟩ hl.1 (Nat.le_of_ble_eq_true rfl) d_M_sizeOf_13 (fun H locs hG => ?_)
      refine lv_icmp_lt (tgt := 23) hx hb d_M_sizeOf_16 rfl (fun h16 => ?_) (fun h16 => ?_)
      ·
        refine lv_iload_n hx hb d_M_sizeOf_23 rfl (lv_at hl 2 rfl) ?_
        refine lv_bipush (v := 8) hx hb d_M_sizeOf_24 z_bi8 ?_
        refine lv_iadd hx hb d_M_sizeOf_26 ?_
        refine lv_aload_n hx hb d_M_sizeOf_27 rfl (lv_at hl 0 rfl) ?_
        refine gf_M_13_21 hF hG d_M_sizeOf_28 ?_
        refine lv_iload_n hx hb d_M_sizeOf_31 rfl (lv_at hl 1 rfl) ?_
        refine z_iald (n := 6) (j := x0.toNatClampNeg) (v := (S.1 23 0 x0.toNatClampNeg)) hF hG z_o23 (z_c23 C ad _ _ _) rfl (z_siz h1 h16) rfl d_M_sizeOf_32 ?_
        refine lv_icmp_ge (tgt := 40) hx hb d_M_sizeOf_33 rfl (fun h33 => ?_) (fun h33 => ?_)
        ·
          refine lv_iconst (v := 1) hx hb d_M_sizeOf_40 z_k1 ?_
          exact z_iret hF hr hlk hG (Eq.symm ((if_neg h1).trans ((if_neg h7).trans ((if_pos h16).trans ((if_pos h33).trans rfl))))) rfl d_M_sizeOf_41
        ·
          refine lv_iconst (v := 2) hx hb d_M_sizeOf_36 z_k2 ?_
          refine lv_goto (tgt := 41) hx hb d_M_sizeOf_37 rfl ?_
          exact z_iret hF hr hlk hG (Eq.symm ((if_neg h1).trans ((if_neg h7).trans ((if_pos h16).trans ((if_neg h33).trans rfl))))) rfl d_M_sizeOf_41
      ·
        refine lv_iconst (v := 0) hx hb d_M_sizeOf_19 z_k0 ?_
        refine lv_goto (tgt := 41) hx hb d_M_sizeOf_20 rfl ?_
        exact z_iret hF hr hlk hG (Eq.symm ((if_neg h1).trans ((if_neg h7).trans ((if_neg h16).trans rfl)))) rfl d_M_sizeOf_41
theorem z_szN {S : z_S} {d p : Int32} : ∃ n : Nat, n ≤ 2 ∧ f_M_sizeOf S d p = nI n := by
  unfold f_M_sizeOf
  repeat' split
  all_goals first | exact ⟨0, by decide, rfl⟩ | exact ⟨1, by decide, rfl⟩ | exact ⟨2, by decide, rfl⟩
theorem z_sz2 {S : z_S} {d p : Int32} : f_M_sizeOf S d p ≤ 2 := by
  obtain ⟨n, hn, e⟩ := z_szN (S := S) (d := d) (p := p)
  rw [e]
  exact nI_le (b := 2) hn (by decide)
theorem z_szn {S : z_S} {d p : Int32} : f_M_sizeOf S d p = nI (f_M_sizeOf S d p).toNatClampNeg := by
  obtain ⟨n, hn, e⟩ := z_szN (S := S) (d := d) (p := p)
  rw [e, nI_clamp (by omega)]
theorem z_szl {S : z_S} {d p : Int32} : (f_M_sizeOf S d p).toNatClampNeg ≤ 2 := by
  obtain ⟨n, hn, e⟩ := z_szN (S := S) (d := d) (p := p)
  rw [e, nI_clamp (by omega)]
  exact hn
theorem z_szl8 {S : z_S} {d p : Int32} : 4 * (f_M_sizeOf S d p).toNatClampNeg ≤ 8 := Nat.mul_le_mul_left 4 z_szl
def f_M_sum (S : z_S) (x0 : Int32) (x1 : Int32) (x2 : Int32) (x3 : Int64) : Int64 := (if (f_M_isHouse x0) = 0 then 0 else (if x2 < 0 then 0 else (if 7 < x2 then 0 else (if (f_M_blocksOf S x1) = 0 then 0 else (if (f_M_sizeOf S x1 x2) ≤ 0 then x3 else (if (f_M_sizeOf S x1 x2) ≤ 1 then (f_M_mix (f_M_mix (f_M_mix (f_M_mix (f_M_mix (f_M_mix x3 x1) (x2 + 0)) (S.1 22 0 (((((384 * x0) + (64 * x1)) + (4 * (x2 + 0))) + 0).toNatClampNeg))) (S.1 22 0 (((((384 * x0) + (64 * x1)) + (4 * (x2 + 0))) + 1).toNatClampNeg))) (S.1 22 0 (((((384 * x0) + (64 * x1)) + (4 * (x2 + 0))) + 2).toNatClampNeg))) (S.1 22 0 (((((384 * x0) + (64 * x1)) + (4 * (x2 + 0))) + 3).toNatClampNeg))) else (f_M_mix (f_M_mix (f_M_mix (f_M_mix (f_M_mix (f_M_mix (f_M_mix (f_M_mix (f_M_mix (f_M_mix (f_M_mix (f_M_mix x3 x1) (x2 + 0)) (S.1 22 0 (((((384 * x0) + (64 * x1)) + (4 * (x2 + 0))) + 0).toNatClampNeg))) (S.1 22 0 (((((384 * x0) + (64 * x1)) + (4 * (x2 + 0))) + 1).toNatClampNeg))) (S.1 22 0 (((((384 * x0) + (64 * x1)) + (4 * (x2 + 0))) + 2).toNatClampNeg))) (S.1 22 0 (((((384 * x0) + (64 * x1)) + (4 * (x2 + 0))) + 3).toNatClampNeg))) x1) (x2 + 8)) (S.1 22 0 (((((384 * x0) + (64 * x1)) + (4 * (x2 + 8))) + 0).toNatClampNeg))) (S.1 22 0 (((((384 * x0) + (64 * x1)) + (4 * (x2 + 8))) + 1).toNatClampNeg))) (S.1 22 0 (((((384 * x0) + (64 * x1)) + (4 * (x2 + 8))) + 2).toNatClampNeg))) (S.1 22 0 (((((384 * x0) + (64 * x1)) + (4 * (x2 + 8))) + 3).toNatClampNeg)))))))))
set_option maxHeartbeats 4000000 in
set_option maxRecDepth 100000 in
theorem c_M_sum (l : Launch) (D : va_G) (C : Nat → ClassId) (ad : Nat → Nat → Nat) (hJ : z_J ad) (S : z_S) (x0 : Int32) (x1 : Int32) (x2 : Int32) (x3 : Int64)  : z_M l y_M_sum b_M_sum 11 (some .long) rm_M_sum D C ad [.ref (ad 21 0), .int x0, .int x1, .int x2, .long x3] S (z_Ql D C ad (f_M_sum S x0 x1 x2 x3) S) := by
  refine z_enter (by decide) (Nat.le_of_ble_eq_true rfl) hJ ?_
  intro p e s m below meth c ls hF hr hlk hl hG
  obtain ⟨hx, hb, hml, hown, hts⟩ := hF.1
  have hl : lv_has ls 11 [(0, .ref (ad 21 0)), (1, .int x0), (2, .int x1), (3, .int x2), (4, .long x3)] := hl
  refine lv_iload_n hx hb d_M_sum_0 rfl (lv_at hl 1 rfl) ?_
  refine kc_M_76 hF (c_M_isHouse l D C ad hF.2.2 _ _ ) hG ⟨Nat.le_of_ble_eq_true rfl, Nat.le_of_ble_eq_true rfl⟩ ⟨Nat.zero_le _, Nat.zero_le _⟩ hl.1 (Nat.le_of_ble_eq_true rfl) d_M_sum_1 (fun H locs hG => ?_)
  refine lv_if_eq (tgt := 25) hx hb d_M_sum_4 rfl (fun h4 => ?_) (fun h4 => ?_)
  ·
    refine lv_lconst (v := 0) hx hb d_M_sum_25 rfl ?_
    exact z_lret hF hr hlk hG (Eq.symm ((if_pos h4).trans rfl)) rfl d_M_sum_26
  ·
    refine lv_iload_n hx hb d_M_sum_7 rfl (lv_at hl 3 rfl) ?_
    refine lv_if_lt (tgt := 25) hx hb d_M_sum_8 rfl (fun h8 => ?_) (fun h8 => ?_)
    ·
      refine lv_lconst (v := 0) hx hb d_M_sum_25 rfl ?_
      exact z_lret hF hr hlk hG (Eq.symm ((if_neg h4).trans ((if_pos h8).trans rfl))) rfl d_M_sum_26
    ·
      refine lv_iload_n hx hb d_M_sum_11 rfl (lv_at hl 3 rfl) ?_
      refine lv_bipush (v := 7) hx hb d_M_sum_12 z_bi7 ?_
      refine lv_icmp_gt (tgt := 25) hx hb d_M_sum_14 rfl (fun h14 => ?_) (fun h14 => ?_)
      ·
        refine lv_lconst (v := 0) hx hb d_M_sum_25 rfl ?_
        exact z_lret hF hr hlk hG (Eq.symm ((if_neg h4).trans ((if_neg h8).trans ((if_pos h14).trans rfl)))) rfl d_M_sum_26
      ·
        refine lv_aload_n hx hb d_M_sum_17 rfl (lv_at hl 0 rfl) ?_
        refine lv_iload_n hx hb d_M_sum_18 rfl (lv_at hl 2 rfl) ?_
        refine kc_M_80 hF (c_M_blocksOf l D C ad hF.2.2 _ _ ) hG ⟨Nat.le_of_ble_eq_true rfl, Nat.le_of_ble_eq_true rfl⟩ ⟨Nat.zero_le _, Nat.zero_le _⟩ hl.1 (Nat.le_of_ble_eq_true rfl) d_M_sum_19 (fun H locs hG => ?_)
        refine lv_if_ne (tgt := 27) hx hb d_M_sum_22 rfl (fun h22 => ?_) (fun h22 => ?_)
        ·
          refine lv_lload hx hb d_M_sum_27 (lv_at hl 4 rfl) ?_
          refine lv_lstore (lv' := [(6, .long x3), (0, .ref (ad 21 0)), (1, .int x0), (2, .int x1), (3, .int x2), (4, .long x3)]) hx hb d_M_sum_29 hl (Nat.le_of_ble_eq_true rfl) rfl (fun ls hl => ?_)
          refine lv_iconst (v := 0) hx hb d_M_sum_31 z_k0 ?_
          refine lv_istore (lv' := [(8, .int 0), (6, .long x3), (0, .ref (ad 21 0)), (1, .int x0), (2, .int x1), (3, .int x2), (4, .long x3)]) hx hb d_M_sum_32 hl (Nat.le_of_ble_eq_true rfl) rfl (fun ls hl => ?_)
          refine lv_iload hx hb d_M_sum_34 (lv_at hl 0 rfl) ?_
          refine lv_aload_n hx hb d_M_sum_36 rfl (lv_at hl 2 rfl) ?_
          refine lv_iload_n hx hb d_M_sum_37 rfl (lv_at hl 4 rfl) ?_
          refine lv_iload_n hx hb d_M_sum_38 rfl (lv_at hl 5 rfl) ?_
          refine kc_M_90 hF (c_M_sizeOf l D C ad hF.2.2 _ _ _ ) hG ⟨Nat.le_of_ble_eq_true rfl, Nat.le_of_ble_eq_true rfl⟩ ⟨Nat.zero_le _, Nat.zero_le _⟩ hl.1 (Nat.le_of_ble_eq_true rfl) d_M_sum_39 (fun H locs hG => ?_)
          refine lv_icmp_ge (tgt := 118) hx hb d_M_sum_42 rfl (fun h42 => ?_) (fun h42 => ?_)
          ·
            refine lv_lload hx hb d_M_sum_118 (lv_at hl 1 rfl) ?_
            exact z_lret hF hr hlk hG (Eq.symm ((if_neg h4).trans ((if_neg h8).trans ((if_neg h14).trans ((if_neg h22).trans ((if_pos h42).trans rfl)))))) rfl d_M_sum_120
          ·
            refine lv_iload_n hx hb d_M_sum_45 rfl (lv_at hl 5 rfl) ?_
            refine lv_bipush (v := 8) hx hb d_M_sum_46 z_bi8 ?_
            refine lv_iload hx hb d_M_sum_48 (lv_at hl 0 rfl) ?_
            refine lv_imul hx hb d_M_sum_50 ?_
            refine z_topi (y := 0) (by decide) ?_
            refine lv_iadd hx hb d_M_sum_51 ?_
            refine lv_istore (lv' := [(9, .int (x2 + 0)), (8, .int 0), (6, .long x3), (0, .ref (ad 21 0)), (1, .int x0), (2, .int x1), (3, .int x2), (4, .long x3)]) hx hb d_M_sum_52 hl (Nat.le_of_ble_eq_true rfl) rfl (fun ls hl => ?_)
            refine lv_lload hx hb d_M_sum_54 (lv_at hl 2 rfl) ?_
            refine lv_iload_n hx hb d_M_sum_56 rfl (lv_at hl 5 rfl) ?_
            refine kc_M_94 hF (c_M_mix l D C ad hF.2.2 _ _ _ ) hG ⟨Nat.le_of_ble_eq_true rfl, Nat.le_of_ble_eq_true rfl⟩ ⟨Nat.zero_le _, Nat.zero_le _⟩ hl.1 (Nat.le_of_ble_eq_true rfl) d_M_sum_57 (fun H locs hG => ?_)
            refine lv_iload hx hb d_M_sum_60 (lv_at hl 0 rfl) ?_
            refine kc_M_94 hF (c_M_mix l D C ad hF.2.2 _ _ _ ) hG ⟨Nat.le_of_ble_eq_true rfl, Nat.le_of_ble_eq_true rfl⟩ ⟨Nat.zero_le _, Nat.zero_le _⟩ hl.1 (Nat.le_of_ble_eq_true rfl) d_M_sum_62 (fun H locs hG => ?_)
            refine lv_lstore (lv' := [(6, .long (f_M_mix (f_M_mix x3 x1) (x2 + 0))), (9, .int (x2 + 0)), (8, .int 0), (0, .ref (ad 21 0)), (1, .int x0), (2, .int x1), (3, .int x2), (4, .long x3)]) hx hb d_M_sum_65 hl (Nat.le_of_ble_eq_true rfl) rfl (fun ls hl => ?_)
            refine lv_iconst (v := 0) hx hb d_M_sum_67 z_k0 ?_
            refine lv_istore (lv' := [(10, .int 0), (6, .long (f_M_mix (f_M_mix x3 x1) (x2 + 0))), (9, .int (x2 + 0)), (8, .int 0), (0, .ref (ad 21 0)), (1, .int x0), (2, .int x1), (3, .int x2), (4, .long x3)]) hx hb d_M_sum_68 hl (Nat.le_of_ble_eq_true rfl) rfl (fun ls hl => ?_)
            refine lv_iload hx hb d_M_sum_70 (lv_at hl 0 rfl) ?_
            refine lv_iconst (v := 4) hx hb d_M_sum_72 z_k4 ?_
            refine lv_icmp_ge (tgt := 112) hx hb d_M_sum_73 rfl (fun h => absurd h (by decide)) (fun _ => ?_)
            refine lv_lload hx hb d_M_sum_76 (lv_at hl 1 rfl) ?_
            refine lv_aload_n hx hb d_M_sum_78 rfl (lv_at hl 4 rfl) ?_
            refine gf_M_7_21 hF hG d_M_sum_79 ?_
            refine lv_sipush (v := 384) hx hb d_M_sum_82 z_si384 ?_
            refine lv_iload_n hx hb d_M_sum_85 rfl (lv_at hl 5 rfl) ?_
            refine lv_imul hx hb d_M_sum_86 ?_
            refine lv_bipush (v := 64) hx hb d_M_sum_87 z_bi64 ?_
            refine lv_iload_n hx hb d_M_sum_89 rfl (lv_at hl 6 rfl) ?_
            refine lv_imul hx hb d_M_sum_90 ?_
            refine lv_iadd hx hb d_M_sum_91 ?_
            refine lv_iconst (v := 4) hx hb d_M_sum_92 z_k4 ?_
            refine lv_iload hx hb d_M_sum_93 (lv_at hl 2 rfl) ?_
            refine lv_imul hx hb d_M_sum_95 ?_
            refine lv_iadd hx hb d_M_sum_96 ?_
            refine lv_iload hx hb d_M_sum_97 (lv_at hl 0 rfl) ?_
            refine lv_iadd hx hb d_M_sum_99 ?_
            refine z_iald (n := 1152) (j := ((((384 * x0) + (64 * x1)) + (4 * (x2 + 0))) + 0).toNatClampNeg) (v := (S.1 22 0 (((((384 * x0) + (64 * x1)) + (4 * (x2 + 0))) + 0).toNatClampNeg))) hF hG z_o22 (z_c22 C ad _ _ _) rfl (z_sma0 (z_mho h4) (z_mbo h22) (z_rg7 h8 h14)) rfl d_M_sum_100 ?_
            refine kc_M_94 hF (c_M_mix l D C ad hF.2.2 _ _ _ ) hG ⟨Nat.le_of_ble_eq_true rfl, Nat.le_of_ble_eq_true rfl⟩ ⟨Nat.zero_le _, Nat.zero_le _⟩ hl.1 (Nat.le_of_ble_eq_true rfl) d_M_sum_101 (fun H locs hG => ?_)
            refine lv_lstore (lv' := [(6, .long (f_M_mix (f_M_mix (f_M_mix x3 x1) (x2 + 0)) (S.1 22 0 (((((384 * x0) + (64 * x1)) + (4 * (x2 + 0))) + 0).toNatClampNeg)))), (10, .int 0), (9, .int (x2 + 0)), (8, .int 0), (0, .ref (ad 21 0)), (1, .int x0), (2, .int x1), (3, .int x2), (4, .long x3)]) hx hb d_M_sum_104 hl (Nat.le_of_ble_eq_true rfl) rfl (fun ls hl => ?_)
            refine lv_iinc (k := 1) (v := 1) (lv' := [(10, .int 1), (6, .long (f_M_mix (f_M_mix (f_M_mix x3 x1) (x2 + 0)) (S.1 22 0 (((((384 * x0) + (64 * x1)) + (4 * (x2 + 0))) + 0).toNatClampNeg)))), (9, .int (x2 + 0)), (8, .int 0), (0, .ref (ad 21 0)), (1, .int x0), (2, .int x1), (3, .int x2), (4, .long x3)]) hx hb d_M_sum_106 hl rfl (by decide) (Nat.le_of_ble_eq_true rfl) rfl (fun ls hl => ?_)
            refine lv_goto (tgt := 70) hx hb d_M_sum_109 rfl ?_
            refine lv_iload hx hb d_M_sum_70 (lv_at hl 0 rfl) ?_
            refine lv_iconst (v := 4) hx hb d_M_sum_72 z_k4 ?_
            refine lv_icmp_ge (tgt := 112) hx hb d_M_sum_73 rfl (fun h => absurd h (by decide)) (fun _ => ?_)
            refine lv_lload hx hb d_M_sum_76 (lv_at hl 1 rfl) ?_
            refine lv_aload_n hx hb d_M_sum_78 rfl (lv_at hl 4 rfl) ?_
            refine gf_M_7_21 hF hG d_M_sum_79 ?_
            refine lv_sipush (v := 384) hx hb d_M_sum_82 z_si384 ?_
            refine lv_iload_n hx hb d_M_sum_85 rfl (lv_at hl 5 rfl) ?_
            refine lv_imul hx hb d_M_sum_86 ?_
            refine lv_bipush (v := 64) hx hb d_M_sum_87 z_bi64 ?_
            refine lv_iload_n hx hb d_M_sum_89 rfl (lv_at hl 6 rfl) ?_
            refine lv_imul hx hb d_M_sum_90 ?_
            refine lv_iadd hx hb d_M_sum_91 ?_
            refine lv_iconst (v := 4) hx hb d_M_sum_92 z_k4 ?_
            refine lv_iload hx hb d_M_sum_93 (lv_at hl 2 rfl) ?_
            refine lv_imul hx hb d_M_sum_95 ?_
            refine lv_iadd hx hb d_M_sum_96 ?_
            refine lv_iload hx hb d_M_sum_97 (lv_at hl 0 rfl) ?_
            refine lv_iadd hx hb d_M_sum_99 ?_
            refine z_iald (n := 1152) (j := ((((384 * x0) + (64 * x1)) + (4 * (x2 + 0))) + 1).toNatClampNeg) (v := (S.1 22 0 (((((384 * x0) + (64 * x1)) + (4 * (x2 + 0))) + 1).toNatClampNeg))) hF hG z_o22 (z_c22 C ad _ _ _) rfl (z_sma1 (z_mho h4) (z_mbo h22) (z_rg7 h8 h14)) rfl d_M_sum_100 ?_
            refine kc_M_94 hF (c_M_mix l D C ad hF.2.2 _ _ _ ) hG ⟨Nat.le_of_ble_eq_true rfl, Nat.le_of_ble_eq_true rfl⟩ ⟨Nat.zero_le _, Nat.zero_le _⟩ hl.1 (Nat.le_of_ble_eq_true rfl) d_M_sum_101 (fun H locs hG => ?_)
            refine lv_lstore (lv' := [(6, .long (f_M_mix (f_M_mix (f_M_mix (f_M_mix x3 x1) (x2 + 0)) (S.1 22 0 (((((384 * x0) + (64 * x1)) + (4 * (x2 + 0))) + 0).toNatClampNeg))) (S.1 22 0 (((((384 * x0) + (64 * x1)) + (4 * (x2 + 0))) + 1).toNatClampNeg)))), (10, .int 1), (9, .int (x2 + 0)), (8, .int 0), (0, .ref (ad 21 0)), (1, .int x0), (2, .int x1), (3, .int x2), (4, .long x3)]) hx hb d_M_sum_104 hl (Nat.le_of_ble_eq_true rfl) rfl (fun ls hl => ?_)
            refine lv_iinc (k := 1) (v := 2) (lv' := [(10, .int 2), (6, .long (f_M_mix (f_M_mix (f_M_mix (f_M_mix x3 x1) (x2 + 0)) (S.1 22 0 (((((384 * x0) + (64 * x1)) + (4 * (x2 + 0))) + 0).toNatClampNeg))) (S.1 22 0 (((((384 * x0) + (64 * x1)) + (4 * (x2 + 0))) + 1).toNatClampNeg)))), (9, .int (x2 + 0)), (8, .int 0), (0, .ref (ad 21 0)), (1, .int x0), (2, .int x1), (3, .int x2), (4, .long x3)]) hx hb d_M_sum_106 hl rfl (by decide) (Nat.le_of_ble_eq_true rfl) rfl (fun ls hl => ?_)
            refine lv_goto (tgt := 70) hx hb d_M_sum_109 rfl ?_
            refine lv_iload hx hb d_M_sum_70 (lv_at hl 0 rfl) ?_
            refine lv_iconst (v := 4) hx hb d_M_sum_72 z_k4 ?_
            refine lv_icmp_ge (tgt := 112) hx hb d_M_sum_73 rfl (fun h => absurd h (by decide)) (fun _ => ?_)
            refine lv_lload hx hb d_M_sum_76 (lv_at hl 1 rfl) ?_
            refine lv_aload_n hx hb d_M_sum_78 rfl (lv_at hl 4 rfl) ?_
            refine gf_M_7_21 hF hG d_M_sum_79 ?_
            refine lv_sipush (v := 384) hx hb d_M_sum_82 z_si384 ?_
            refine lv_iload_n hx hb d_M_sum_85 rfl (lv_at hl 5 rfl) ?_
            refine lv_imul hx hb d_M_sum_86 ?_
            refine lv_bipush (v := 64) hx hb d_M_sum_87 z_bi64 ?_
            refine lv_iload_n hx hb d_M_sum_89 rfl (lv_at hl 6 rfl) ?_
            refine lv_imul hx hb d_M_sum_90 ?_
            refine lv_iadd hx hb d_M_sum_91 ?_
            refine lv_iconst (v := 4) hx hb d_M_sum_92 z_k4 ?_
            refine lv_iload hx hb d_M_sum_93 (lv_at hl 2 rfl) ?_
            refine lv_imul hx hb d_M_sum_95 ?_
            refine lv_iadd hx hb d_M_sum_96 ?_
            refine lv_iload hx hb d_M_sum_97 (lv_at hl 0 rfl) ?_
            refine lv_iadd hx hb d_M_sum_99 ?_
            refine z_iald (n := 1152) (j := ((((384 * x0) + (64 * x1)) + (4 * (x2 + 0))) + 2).toNatClampNeg) (v := (S.1 22 0 (((((384 * x0) + (64 * x1)) + (4 * (x2 + 0))) + 2).toNatClampNeg))) hF hG z_o22 (z_c22 C ad _ _ _) rfl (z_sma2 (z_mho h4) (z_mbo h22) (z_rg7 h8 h14)) rfl d_M_sum_100 ?_
            refine kc_M_94 hF (c_M_mix l D C ad hF.2.2 _ _ _ ) hG ⟨Nat.le_of_ble_eq_true rfl, Nat.le_of_ble_eq_true rfl⟩ ⟨Nat.zero_le _, Nat.zero_le _⟩ hl.1 (Nat.le_of_ble_eq_true rfl) d_M_sum_101 (fun H locs hG => ?_)
            refine lv_lstore (lv' := [(6, .long (f_M_mix (f_M_mix (f_M_mix (f_M_mix (f_M_mix x3 x1) (x2 + 0)) (S.1 22 0 (((((384 * x0) + (64 * x1)) + (4 * (x2 + 0))) + 0).toNatClampNeg))) (S.1 22 0 (((((384 * x0) + (64 * x1)) + (4 * (x2 + 0))) + 1).toNatClampNeg))) (S.1 22 0 (((((384 * x0) + (64 * x1)) + (4 * (x2 + 0))) + 2).toNatClampNeg)))), (10, .int 2), (9, .int (x2 + 0)), (8, .int 0), (0, .ref (ad 21 0)), (1, .int x0), (2, .int x1), (3, .int x2), (4, .long x3)]) hx hb d_M_sum_104 hl (Nat.le_of_ble_eq_true rfl) rfl (fun ls hl => ?_)
            refine lv_iinc (k := 1) (v := 3) (lv' := [(10, .int 3), (6, .long (f_M_mix (f_M_mix (f_M_mix (f_M_mix (f_M_mix x3 x1) (x2 + 0)) (S.1 22 0 (((((384 * x0) + (64 * x1)) + (4 * (x2 + 0))) + 0).toNatClampNeg))) (S.1 22 0 (((((384 * x0) + (64 * x1)) + (4 * (x2 + 0))) + 1).toNatClampNeg))) (S.1 22 0 (((((384 * x0) + (64 * x1)) + (4 * (x2 + 0))) + 2).toNatClampNeg)))), (9, .int (x2 + 0)), (8, .int 0), (0, .ref (ad 21 0)), (1, .int x0), (2, .int x1), (3, .int x2), (4, .long x3)]) hx hb d_M_sum_106 hl rfl (by decide) (Nat.le_of_ble_eq_true rfl) rfl (fun ls hl => ?_)
            refine lv_goto (tgt := 70) hx hb d_M_sum_109 rfl ?_
            refine lv_iload hx hb d_M_sum_70 (lv_at hl 0 rfl) ?_
            refine lv_iconst (v := 4) hx hb d_M_sum_72 z_k4 ?_
            refine lv_icmp_ge (tgt := 112) hx hb d_M_sum_73 rfl (fun h => absurd h (by decide)) (fun _ => ?_)
            refine lv_lload hx hb d_M_sum_76 (lv_at hl 1 rfl) ?_
            refine lv_aload_n hx hb d_M_sum_78 rfl (lv_at hl 4 rfl) ?_
            refine gf_M_7_21 hF hG d_M_sum_79 ?_
            refine lv_sipush (v := 384) hx hb d_M_sum_82 z_si384 ?_
            refine lv_iload_n hx hb d_M_sum_85 rfl (lv_at hl 5 rfl) ?_
            refine lv_imul hx hb d_M_sum_86 ?_
            refine lv_bipush (v := 64) hx hb d_M_sum_87 z_bi64 ?_
            refine lv_iload_n hx hb d_M_sum_89 rfl (lv_at hl 6 rfl) ?_
            refine lv_imul hx hb d_M_sum_90 ?_
            refine lv_iadd hx hb d_M_sum_91 ?_
            refine lv_iconst (v := 4) hx hb d_M_sum_92 z_k4 ?_
            refine lv_iload hx hb d_M_sum_93 (lv_at hl 2 rfl) ?_
            refine lv_imul hx hb d_M_sum_95 ?_
            refine lv_iadd hx hb d_M_sum_96 ?_
            refine lv_iload hx hb d_M_sum_97 (lv_at hl 0 rfl) ?_
            refine lv_iadd hx hb d_M_sum_99 ?_
            refine z_iald (n := 1152) (j := ((((384 * x0) + (64 * x1)) + (4 * (x2 + 0))) + 3).toNatClampNeg) (v := (S.1 22 0 (((((384 * x0) + (64 * x1)) + (4 * (x2 + 0))) + 3).toNatClampNeg))) hF hG z_o22 (z_c22 C ad _ _ _) rfl (z_sma3 (z_mho h4) (z_mbo h22) (z_rg7 h8 h14)) rfl d_M_sum_100 ?_
            refine kc_M_94 hF (c_M_mix l D C ad hF.2.2 _ _ _ ) hG ⟨Nat.le_of_ble_eq_true rfl, Nat.le_of_ble_eq_true rfl⟩ ⟨Nat.zero_le _, Nat.zero_le _⟩ hl.1 (Nat.le_of_ble_eq_true rfl) d_M_sum_101 (fun H locs hG => ?_)
            refine lv_lstore (lv' := [(6, .long (f_M_mix (f_M_mix (f_M_mix (f_M_mix (f_M_mix (f_M_mix x3 x1) (x2 + 0)) (S.1 22 0 (((((384 * x0) + (64 * x1)) + (4 * (x2 + 0))) + 0).toNatClampNeg))) (S.1 22 0 (((((384 * x0) + (64 * x1)) + (4 * (x2 + 0))) + 1).toNatClampNeg))) (S.1 22 0 (((((384 * x0) + (64 * x1)) + (4 * (x2 + 0))) + 2).toNatClampNeg))) (S.1 22 0 (((((384 * x0) + (64 * x1)) + (4 * (x2 + 0))) + 3).toNatClampNeg)))), (10, .int 3), (9, .int (x2 + 0)), (8, .int 0), (0, .ref (ad 21 0)), (1, .int x0), (2, .int x1), (3, .int x2), (4, .long x3)]) hx hb d_M_sum_104 hl (Nat.le_of_ble_eq_true rfl) rfl (fun ls hl => ?_)
            refine lv_iinc (k := 1) (v := 4) (lv' := [(10, .int 4), (6, .long (f_M_mix (f_M_mix (f_M_mix (f_M_mix (f_M_mix (f_M_mix x3 x1) (x2 + 0)) (S.1 22 0 (((((384 * x0) + (64 * x1)) + (4 * (x2 + 0))) + 0).toNatClampNeg))) (S.1 22 0 (((((384 * x0) + (64 * x1)) + (4 * (x2 + 0))) + 1).toNatClampNeg))) (S.1 22 0 (((((384 * x0) + (64 * x1)) + (4 * (x2 + 0))) + 2).toNatClampNeg))) (S.1 22 0 (((((384 * x0) + (64 * x1)) + (4 * (x2 + 0))) + 3).toNatClampNeg)))), (9, .int (x2 + 0)), (8, .int 0), (0, .ref (ad 21 0)), (1, .int x0), (2, .int x1), (3, .int x2), (4, .long x3)]) hx hb d_M_sum_106 hl rfl (by decide) (Nat.le_of_ble_eq_true rfl) rfl (fun ls hl => ?_)
            refine lv_goto (tgt := 70) hx hb d_M_sum_109 rfl ?_
            refine lv_iload hx hb d_M_sum_70 (lv_at hl 0 rfl) ?_
            refine lv_iconst (v := 4) hx hb d_M_sum_72 z_k4 ?_
            refine lv_icmp_ge (tgt := 112) hx hb d_M_sum_73 rfl (fun _ => ?_) (fun h => absurd h (by decide))
            refine lv_iinc (k := 3) (v := 1) (lv' := [(8, .int 1), (10, .int 4), (6, .long (f_M_mix (f_M_mix (f_M_mix (f_M_mix (f_M_mix (f_M_mix x3 x1) (x2 + 0)) (S.1 22 0 (((((384 * x0) + (64 * x1)) + (4 * (x2 + 0))) + 0).toNatClampNeg))) (S.1 22 0 (((((384 * x0) + (64 * x1)) + (4 * (x2 + 0))) + 1).toNatClampNeg))) (S.1 22 0 (((((384 * x0) + (64 * x1)) + (4 * (x2 + 0))) + 2).toNatClampNeg))) (S.1 22 0 (((((384 * x0) + (64 * x1)) + (4 * (x2 + 0))) + 3).toNatClampNeg)))), (9, .int (x2 + 0)), (0, .ref (ad 21 0)), (1, .int x0), (2, .int x1), (3, .int x2), (4, .long x3)]) hx hb d_M_sum_112 hl rfl (by decide) (Nat.le_of_ble_eq_true rfl) rfl (fun ls hl => ?_)
            refine lv_goto (tgt := 34) hx hb d_M_sum_115 rfl ?_
            refine lv_iload hx hb d_M_sum_34 (lv_at hl 0 rfl) ?_
            refine lv_aload_n hx hb d_M_sum_36 rfl (lv_at hl 4 rfl) ?_
            refine lv_iload_n hx hb d_M_sum_37 rfl (lv_at hl 6 rfl) ?_
            refine lv_iload_n hx hb d_M_sum_38 rfl (lv_at hl 7 rfl) ?_
            refine kc_M_90 hF (c_M_sizeOf l D C ad hF.2.2 _ _ _ ) hG ⟨Nat.le_of_ble_eq_true rfl, Nat.le_of_ble_eq_true rfl⟩ ⟨Nat.zero_le _, Nat.zero_le _⟩ hl.1 (Nat.le_of_ble_eq_true rfl) d_M_sum_39 (fun H locs hG => ?_)
            refine lv_icmp_ge (tgt := 118) hx hb d_M_sum_42 rfl (fun h42_1 => ?_) (fun h42_1 => ?_)
            ·
              refine lv_lload hx hb d_M_sum_118 (lv_at hl 2 rfl) ?_
              exact z_lret hF hr hlk hG (Eq.symm ((if_neg h4).trans ((if_neg h8).trans ((if_neg h14).trans ((if_neg h22).trans ((if_neg h42).trans ((if_pos h42_1).trans rfl))))))) rfl d_M_sum_120
            ·
              refine lv_iload_n hx hb d_M_sum_45 rfl (lv_at hl 7 rfl) ?_
              refine lv_bipush (v := 8) hx hb d_M_sum_46 z_bi8 ?_
              refine lv_iload hx hb d_M_sum_48 (lv_at hl 0 rfl) ?_
              refine lv_imul hx hb d_M_sum_50 ?_
              refine z_topi (y := 8) (by decide) ?_
              refine lv_iadd hx hb d_M_sum_51 ?_
              refine lv_istore (lv' := [(9, .int (x2 + 8)), (8, .int 1), (10, .int 4), (6, .long (f_M_mix (f_M_mix (f_M_mix (f_M_mix (f_M_mix (f_M_mix x3 x1) (x2 + 0)) (S.1 22 0 (((((384 * x0) + (64 * x1)) + (4 * (x2 + 0))) + 0).toNatClampNeg))) (S.1 22 0 (((((384 * x0) + (64 * x1)) + (4 * (x2 + 0))) + 1).toNatClampNeg))) (S.1 22 0 (((((384 * x0) + (64 * x1)) + (4 * (x2 + 0))) + 2).toNatClampNeg))) (S.1 22 0 (((((384 * x0) + (64 * x1)) + (4 * (x2 + 0))) + 3).toNatClampNeg)))), (0, .ref (ad 21 0)), (1, .int x0), (2, .int x1), (3, .int x2), (4, .long x3)]) hx hb d_M_sum_52 hl (Nat.le_of_ble_eq_true rfl) rfl (fun ls hl => ?_)
              refine lv_lload hx hb d_M_sum_54 (lv_at hl 3 rfl) ?_
              refine lv_iload_n hx hb d_M_sum_56 rfl (lv_at hl 6 rfl) ?_
              refine kc_M_94 hF (c_M_mix l D C ad hF.2.2 _ _ _ ) hG ⟨Nat.le_of_ble_eq_true rfl, Nat.le_of_ble_eq_true rfl⟩ ⟨Nat.zero_le _, Nat.zero_le _⟩ hl.1 (Nat.le_of_ble_eq_true rfl) d_M_sum_57 (fun H locs hG => ?_)
              refine lv_iload hx hb d_M_sum_60 (lv_at hl 0 rfl) ?_
              refine kc_M_94 hF (c_M_mix l D C ad hF.2.2 _ _ _ ) hG ⟨Nat.le_of_ble_eq_true rfl, Nat.le_of_ble_eq_true rfl⟩ ⟨Nat.zero_le _, Nat.zero_le _⟩ hl.1 (Nat.le_of_ble_eq_true rfl) d_M_sum_62 (fun H locs hG => ?_)
              refine lv_lstore (lv' := [(6, .long (f_M_mix (f_M_mix (f_M_mix (f_M_mix (f_M_mix (f_M_mix (f_M_mix (f_M_mix x3 x1) (x2 + 0)) (S.1 22 0 (((((384 * x0) + (64 * x1)) + (4 * (x2 + 0))) + 0).toNatClampNeg))) (S.1 22 0 (((((384 * x0) + (64 * x1)) + (4 * (x2 + 0))) + 1).toNatClampNeg))) (S.1 22 0 (((((384 * x0) + (64 * x1)) + (4 * (x2 + 0))) + 2).toNatClampNeg))) (S.1 22 0 (((((384 * x0) + (64 * x1)) + (4 * (x2 + 0))) + 3).toNatClampNeg))) x1) (x2 + 8))), (9, .int (x2 + 8)), (8, .int 1), (10, .int 4), (0, .ref (ad 21 0)), (1, .int x0), (2, .int x1), (3, .int x2), (4, .long x3)]) hx hb d_M_sum_65 hl (Nat.le_of_ble_eq_true rfl) rfl (fun ls hl => ?_)
              refine lv_iconst (v := 0) hx hb d_M_sum_67 z_k0 ?_
              refine lv_istore (lv' := [(10, .int 0), (6, .long (f_M_mix (f_M_mix (f_M_mix (f_M_mix (f_M_mix (f_M_mix (f_M_mix (f_M_mix x3 x1) (x2 + 0)) (S.1 22 0 (((((384 * x0) + (64 * x1)) + (4 * (x2 + 0))) + 0).toNatClampNeg))) (S.1 22 0 (((((384 * x0) + (64 * x1)) + (4 * (x2 + 0))) + 1).toNatClampNeg))) (S.1 22 0 (((((384 * x0) + (64 * x1)) + (4 * (x2 + 0))) + 2).toNatClampNeg))) (S.1 22 0 (((((384 * x0) + (64 * x1)) + (4 * (x2 + 0))) + 3).toNatClampNeg))) x1) (x2 + 8))), (9, .int (x2 + 8)), (8, .int 1), (0, .ref (ad 21 0)), (1, .int x0), (2, .int x1), (3, .int x2), (4, .long x3)]) hx hb d_M_sum_68 hl (Nat.le_of_ble_eq_true rfl) rfl (fun ls hl => ?_)
              refine lv_iload hx hb d_M_sum_70 (lv_at hl 0 rfl) ?_
              refine lv_iconst (v := 4) hx hb d_M_sum_72 z_k4 ?_
              refine lv_icmp_ge (tgt := 112) hx hb d_M_sum_73 rfl (fun h => absurd h (by decide)) (fun _ => ?_)
              refine lv_lload hx hb d_M_sum_76 (lv_at hl 1 rfl) ?_
              refine lv_aload_n hx hb d_M_sum_78 rfl (lv_at hl 4 rfl) ?_
              refine gf_M_7_21 hF hG d_M_sum_79 ?_
              refine lv_sipush (v := 384) hx hb d_M_sum_82 z_si384 ?_
              refine lv_iload_n hx hb d_M_sum_85 rfl (lv_at hl 5 rfl) ?_
              refine lv_imul hx hb d_M_sum_86 ?_
              refine lv_bipush (v := 64) hx hb d_M_sum_87 z_bi64 ?_
              refine lv_iload_n hx hb d_M_sum_89 rfl (lv_at hl 6 rfl) ?_
              refine lv_imul hx hb d_M_sum_90 ?_
              refine lv_iadd hx hb d_M_sum_91 ?_
              refine lv_iconst (v := 4) hx hb d_M_sum_92 z_k4 ?_
              refine lv_iload hx hb d_M_sum_93 (lv_at hl 2 rfl) ?_
              refine lv_imul hx hb d_M_sum_95 ?_
              refine lv_iadd hx hb d_M_sum_96 ?_
              refine lv_iload hx hb d_M_sum_97 (lv_at hl 0 rfl) ?_
              refine lv_iadd hx hb d_M_sum_99 ?_
              refine z_iald (n := 1152) (j := ((((384 * x0) + (64 * x1)) + (4 * (x2 + 8))) + 0).toNatClampNeg) (v := (S.1 22 0 (((((384 * x0) + (64 * x1)) + (4 * (x2 + 8))) + 0).toNatClampNeg))) hF hG z_o22 (z_c22 C ad _ _ _) rfl (z_smb0 (z_mho h4) (z_mbo h22) (z_rg7 h8 h14)) rfl d_M_sum_100 ?_
              refine kc_M_94 hF (c_M_mix l D C ad hF.2.2 _ _ _ ) hG ⟨Nat.le_of_ble_eq_true rfl, Nat.le_of_ble_eq_true rfl⟩ ⟨Nat.zero_le _, Nat.zero_le _⟩ hl.1 (Nat.le_of_ble_eq_true rfl) d_M_sum_101 (fun H locs hG => ?_)
              refine lv_lstore (lv' := [(6, .long (f_M_mix (f_M_mix (f_M_mix (f_M_mix (f_M_mix (f_M_mix (f_M_mix (f_M_mix (f_M_mix x3 x1) (x2 + 0)) (S.1 22 0 (((((384 * x0) + (64 * x1)) + (4 * (x2 + 0))) + 0).toNatClampNeg))) (S.1 22 0 (((((384 * x0) + (64 * x1)) + (4 * (x2 + 0))) + 1).toNatClampNeg))) (S.1 22 0 (((((384 * x0) + (64 * x1)) + (4 * (x2 + 0))) + 2).toNatClampNeg))) (S.1 22 0 (((((384 * x0) + (64 * x1)) + (4 * (x2 + 0))) + 3).toNatClampNeg))) x1) (x2 + 8)) (S.1 22 0 (((((384 * x0) + (64 * x1)) + (4 * (x2 + 8))) + 0).toNatClampNeg)))), (10, .int 0), (9, .int (x2 + 8)), (8, .int 1), (0, .ref (ad 21 0)), (1, .int x0), (2, .int x1), (3, .int x2), (4, .long x3)]) hx hb d_M_sum_104 hl (Nat.le_of_ble_eq_true rfl) rfl (fun ls hl => ?_)
              refine lv_iinc (k := 1) (v := 1) (lv' := [(10, .int 1), (6, .long (f_M_mix (f_M_mix (f_M_mix (f_M_mix (f_M_mix (f_M_mix (f_M_mix (f_M_mix (f_M_mix x3 x1) (x2 + 0)) (S.1 22 0 (((((384 * x0) + (64 * x1)) + (4 * (x2 + 0))) + 0).toNatClampNeg))) (S.1 22 0 (((((384 * x0) + (64 * x1)) + (4 * (x2 + 0))) + 1).toNatClampNeg))) (S.1 22 0 (((((384 * x0) + (64 * x1)) + (4 * (x2 + 0))) + 2).toNatClampNeg))) (S.1 22 0 (((((384 * x0) + (64 * x1)) + (4 * (x2 + 0))) + 3).toNatClampNeg))) x1) (x2 + 8)) (S.1 22 0 (((((384 * x0) + (64 * x1)) + (4 * (x2 + 8))) + 0).toNatClampNeg)))), (9, .int (x2 + 8)), (8, .int 1), (0, .ref (ad 21 0)), (1, .int x0), (2, .int x1), (3, .int x2), (4, .long x3)]) hx hb d_M_sum_106 hl rfl (by decide) (Nat.le_of_ble_eq_true rfl) rfl (fun ls hl => ?_)
              refine lv_goto (tgt := 70) hx hb d_M_sum_109 rfl ?_
              refine lv_iload hx hb d_M_sum_70 (lv_at hl 0 rfl) ?_
              refine lv_iconst (v := 4) hx hb d_M_sum_72 z_k4 ?_
              refine lv_icmp_ge (tgt := 112) hx hb d_M_sum_73 rfl (fun h => absurd h (by decide)) (fun _ => ?_)
              refine lv_lload hx hb d_M_sum_76 (lv_at hl 1 rfl) ?_
              refine lv_aload_n hx hb d_M_sum_78 rfl (lv_at hl 4 rfl) ?_
              refine gf_M_7_21 hF hG d_M_sum_79 ?_
              refine lv_sipush (v := 384) hx hb d_M_sum_82 z_si384 ?_
              refine lv_iload_n hx hb d_M_sum_85 rfl (lv_at hl 5 rfl) ?_
              refine lv_imul hx hb d_M_sum_86 ?_
              refine lv_bipush (v := 64) hx hb d_M_sum_87 z_bi64 ?_
              refine lv_iload_n hx hb d_M_sum_89 rfl (lv_at hl 6 rfl) ?_
              refine lv_imul hx hb d_M_sum_90 ?_
              refine lv_iadd hx hb d_M_sum_91 ?_
              refine lv_iconst (v := 4) hx hb d_M_sum_92 z_k4 ?_
              refine lv_iload hx hb d_M_sum_93 (lv_at hl 2 rfl) ?_
              refine lv_imul hx hb d_M_sum_95 ?_
              refine lv_iadd hx hb d_M_sum_96 ?_
              refine lv_iload hx hb d_M_sum_97 (lv_at hl 0 rfl) ?_
              refine lv_iadd hx hb d_M_sum_99 ?_
              refine z_iald (n := 1152) (j := ((((384 * x0) + (64 * x1)) + (4 * (x2 + 8))) + 1).toNatClampNeg) (v := (S.1 22 0 (((((384 * x0) + (64 * x1)) + (4 * (x2 + 8))) + 1).toNatClampNeg))) hF hG z_o22 (z_c22 C ad _ _ _) rfl (z_smb1 (z_mho h4) (z_mbo h22) (z_rg7 h8 h14)) rfl d_M_sum_100 ?_
              refine kc_M_94 hF (c_M_mix l D C ad hF.2.2 _ _ _ ) hG ⟨Nat.le_of_ble_eq_true rfl, Nat.le_of_ble_eq_true rfl⟩ ⟨Nat.zero_le _, Nat.zero_le _⟩ hl.1 (Nat.le_of_ble_eq_true rfl) d_M_sum_101 (fun H locs hG => ?_)
              refine lv_lstore (lv' := [(6, .long (f_M_mix (f_M_mix (f_M_mix (f_M_mix (f_M_mix (f_M_mix (f_M_mix (f_M_mix (f_M_mix (f_M_mix x3 x1) (x2 + 0)) (S.1 22 0 (((((384 * x0) + (64 * x1)) + (4 * (x2 + 0))) + 0).toNatClampNeg))) (S.1 22 0 (((((384 * x0) + (64 * x1)) + (4 * (x2 + 0))) + 1).toNatClampNeg))) (S.1 22 0 (((((384 * x0) + (64 * x1)) + (4 * (x2 + 0))) + 2).toNatClampNeg))) (S.1 22 0 (((((384 * x0) + (64 * x1)) + (4 * (x2 + 0))) + 3).toNatClampNeg))) x1) (x2 + 8)) (S.1 22 0 (((((384 * x0) + (64 * x1)) + (4 * (x2 + 8))) + 0).toNatClampNeg))) (S.1 22 0 (((((384 * x0) + (64 * x1)) + (4 * (x2 + 8))) + 1).toNatClampNeg)))), (10, .int 1), (9, .int (x2 + 8)), (8, .int 1), (0, .ref (ad 21 0)), (1, .int x0), (2, .int x1), (3, .int x2), (4, .long x3)]) hx hb d_M_sum_104 hl (Nat.le_of_ble_eq_true rfl) rfl (fun ls hl => ?_)
              refine lv_iinc (k := 1) (v := 2) (lv' := [(10, .int 2), (6, .long (f_M_mix (f_M_mix (f_M_mix (f_M_mix (f_M_mix (f_M_mix (f_M_mix (f_M_mix (f_M_mix (f_M_mix x3 x1) (x2 + 0)) (S.1 22 0 (((((384 * x0) + (64 * x1)) + (4 * (x2 + 0))) + 0).toNatClampNeg))) (S.1 22 0 (((((384 * x0) + (64 * x1)) + (4 * (x2 + 0))) + 1).toNatClampNeg))) (S.1 22 0 (((((384 * x0) + (64 * x1)) + (4 * (x2 + 0))) + 2).toNatClampNeg))) (S.1 22 0 (((((384 * x0) + (64 * x1)) + (4 * (x2 + 0))) + 3).toNatClampNeg))) x1) (x2 + 8)) (S.1 22 0 (((((384 * x0) + (64 * x1)) + (4 * (x2 + 8))) + 0).toNatClampNeg))) (S.1 22 0 (((((384 * x0) + (64 * x1)) + (4 * (x2 + 8))) + 1).toNatClampNeg)))), (9, .int (x2 + 8)), (8, .int 1), (0, .ref (ad 21 0)), (1, .int x0), (2, .int x1), (3, .int x2), (4, .long x3)]) hx hb d_M_sum_106 hl rfl (by decide) (Nat.le_of_ble_eq_true rfl) rfl (fun ls hl => ?_)
              refine lv_goto (tgt := 70) hx hb d_M_sum_109 rfl ?_
              refine lv_iload hx hb d_M_sum_70 (lv_at hl 0 rfl) ?_
              refine lv_iconst (v := 4) hx hb d_M_sum_72 z_k4 ?_
              refine lv_icmp_ge (tgt := 112) hx hb d_M_sum_73 rfl (fun h => absurd h (by decide)) (fun _ => ?_)
              refine lv_lload hx hb d_M_sum_76 (lv_at hl 1 rfl) ?_
              refine lv_aload_n hx hb d_M_sum_78 rfl (lv_at hl 4 rfl) ?_
              refine gf_M_7_21 hF hG d_M_sum_79 ?_
              refine lv_sipush (v := 384) hx hb d_M_sum_82 z_si384 ?_
              refine lv_iload_n hx hb d_M_sum_85 rfl (lv_at hl 5 rfl) ?_
              refine lv_imul hx hb d_M_sum_86 ?_
              refine lv_bipush (v := 64) hx hb d_M_sum_87 z_bi64 ?_
              refine lv_iload_n hx hb d_M_sum_89 rfl (lv_at hl 6 rfl) ?_
              refine lv_imul hx hb d_M_sum_90 ?_
              refine lv_iadd hx hb d_M_sum_91 ?_
              refine lv_iconst (v := 4) hx hb d_M_sum_92 z_k4 ?_
              refine lv_iload hx hb d_M_sum_93 (lv_at hl 2 rfl) ?_
              refine lv_imul hx hb d_M_sum_95 ?_
              refine lv_iadd hx hb d_M_sum_96 ?_
              refine lv_iload hx hb d_M_sum_97 (lv_at hl 0 rfl) ?_
              refine lv_iadd hx hb d_M_sum_99 ?_
              refine z_iald (n := 1152) (j := ((((384 * x0) + (64 * x1)) + (4 * (x2 + 8))) + 2).toNatClampNeg) (v := (S.1 22 0 (((((384 * x0) + (64 * x1)) + (4 * (x2 + 8))) + 2).toNatClampNeg))) hF hG z_o22 (z_c22 C ad _ _ _) rfl (z_smb2 (z_mho h4) (z_mbo h22) (z_rg7 h8 h14)) rfl d_M_sum_100 ?_
              refine kc_M_94 hF (c_M_mix l D C ad hF.2.2 _ _ _ ) hG ⟨Nat.le_of_ble_eq_true rfl, Nat.le_of_ble_eq_true rfl⟩ ⟨Nat.zero_le _, Nat.zero_le _⟩ hl.1 (Nat.le_of_ble_eq_true rfl) d_M_sum_101 (fun H locs hG => ?_)
              refine lv_lstore (lv' := [(6, .long (f_M_mix (f_M_mix (f_M_mix (f_M_mix (f_M_mix (f_M_mix (f_M_mix (f_M_mix (f_M_mix (f_M_mix (f_M_mix x3 x1) (x2 + 0)) (S.1 22 0 (((((384 * x0) + (64 * x1)) + (4 * (x2 + 0))) + 0).toNatClampNeg))) (S.1 22 0 (((((384 * x0) + (64 * x1)) + (4 * (x2 + 0))) + 1).toNatClampNeg))) (S.1 22 0 (((((384 * x0) + (64 * x1)) + (4 * (x2 + 0))) + 2).toNatClampNeg))) (S.1 22 0 (((((384 * x0) + (64 * x1)) + (4 * (x2 + 0))) + 3).toNatClampNeg))) x1) (x2 + 8)) (S.1 22 0 (((((384 * x0) + (64 * x1)) + (4 * (x2 + 8))) + 0).toNatClampNeg))) (S.1 22 0 (((((384 * x0) + (64 * x1)) + (4 * (x2 + 8))) + 1).toNatClampNeg))) (S.1 22 0 (((((384 * x0) + (64 * x1)) + (4 * (x2 + 8))) + 2).toNatClampNeg)))), (10, .int 2), (9, .int (x2 + 8)), (8, .int 1), (0, .ref (ad 21 0)), (1, .int x0), (2, .int x1), (3, .int x2), (4, .long x3)]) hx hb d_M_sum_104 hl (Nat.le_of_ble_eq_true rfl) rfl (fun ls hl => ?_)
              refine lv_iinc (k := 1) (v := 3) (lv' := [(10, .int 3), (6, .long (f_M_mix (f_M_mix (f_M_mix (f_M_mix (f_M_mix (f_M_mix (f_M_mix (f_M_mix (f_M_mix (f_M_mix (f_M_mix x3 x1) (x2 + 0)) (S.1 22 0 (((((384 * x0) + (64 * x1)) + (4 * (x2 + 0))) + 0).toNatClampNeg))) (S.1 22 0 (((((384 * x0) + (64 * x1)) + (4 * (x2 + 0))) + 1).toNatClampNeg))) (S.1 22 0 (((((384 * x0) + (64 * x1)) + (4 * (x2 + 0))) + 2).toNatClampNeg))) (S.1 22 0 (((((384 * x0) + (64 * x1)) + (4 * (x2 + 0))) + 3).toNatClampNeg))) x1) (x2 + 8)) (S.1 22 0 (((((384 * x0) + (64 * x1)) + (4 * (x2 + 8))) + 0).toNatClampNeg))) (S.1 22 0 (((((384 * x0) + (64 * x1)) + (4 * (x2 + 8))) + 1).toNatClampNeg))) (S.1 22 0 (((((384 * x0) + (64 * x1)) + (4 * (x2 + 8))) + 2).toNatClampNeg)))), (9, .int (x2 + 8)), (8, .int 1), (0, .ref (ad 21 0)), (1, .int x0), (2, .int x1), (3, .int x2), (4, .long x3)]) hx hb d_M_sum_106 hl rfl (by decide) (Nat.le_of_ble_eq_true rfl) rfl (fun ls hl => ?_)
              refine lv_goto (tgt := 70) hx hb d_M_sum_109 rfl ?_
              refine lv_iload hx hb d_M_sum_70 (lv_at hl 0 rfl) ?_
              refine lv_iconst (v := 4) hx hb d_M_sum_72 z_k4 ?_
              refine lv_icmp_ge (tgt := 112) hx hb d_M_sum_73 rfl (fun h => absurd h (by decide)) (fun _ => ?_)
              refine lv_lload hx hb d_M_sum_76 (lv_at hl 1 rfl) ?_
              refine lv_aload_n hx hb d_M_sum_78 rfl (lv_at hl 4 rfl) ?_
              refine gf_M_7_21 hF hG d_M_sum_79 ?_
              refine lv_sipush (v := 384) hx hb d_M_sum_82 z_si384 ?_
              refine lv_iload_n hx hb d_M_sum_85 rfl (lv_at hl 5 rfl) ?_
              refine lv_imul hx hb d_M_sum_86 ?_
              refine lv_bipush (v := 64) hx hb d_M_sum_87 z_bi64 ?_
              refine lv_iload_n hx hb d_M_sum_89 rfl (lv_at hl 6 rfl) ?_
              refine lv_imul hx hb d_M_sum_90 ?_
              refine lv_iadd hx hb d_M_sum_91 ?_
              refine lv_iconst (v := 4) hx hb d_M_sum_92 z_k4 ?_
              refine lv_iload hx hb d_M_sum_93 (lv_at hl 2 rfl) ?_
              refine lv_imul hx hb d_M_sum_95 ?_
              refine lv_iadd hx hb d_M_sum_96 ?_
              refine lv_iload hx hb d_M_sum_97 (lv_at hl 0 rfl) ?_
              refine lv_iadd hx hb d_M_sum_99 ?_
              refine z_iald (n := 1152) (j := ((((384 * x0) + (64 * x1)) + (4 * (x2 + 8))) + 3).toNatClampNeg) (v := (S.1 22 0 (((((384 * x0) + (64 * x1)) + (4 * (x2 + 8))) + 3).toNatClampNeg))) hF hG z_o22 (z_c22 C ad _ _ _) rfl (z_smb3 (z_mho h4) (z_mbo h22) (z_rg7 h8 h14)) rfl d_M_sum_100 ?_
              refine kc_M_94 hF (c_M_mix l D C ad hF.2.2 _ _ _ ) hG ⟨Nat.le_of_ble_eq_true rfl, Nat.le_of_ble_eq_true rfl⟩ ⟨Nat.zero_le _, Nat.zero_le _⟩ hl.1 (Nat.le_of_ble_eq_true rfl) d_M_sum_101 (fun H locs hG => ?_)
              refine lv_lstore (lv' := [(6, .long (f_M_mix (f_M_mix (f_M_mix (f_M_mix (f_M_mix (f_M_mix (f_M_mix (f_M_mix (f_M_mix (f_M_mix (f_M_mix (f_M_mix x3 x1) (x2 + 0)) (S.1 22 0 (((((384 * x0) + (64 * x1)) + (4 * (x2 + 0))) + 0).toNatClampNeg))) (S.1 22 0 (((((384 * x0) + (64 * x1)) + (4 * (x2 + 0))) + 1).toNatClampNeg))) (S.1 22 0 (((((384 * x0) + (64 * x1)) + (4 * (x2 + 0))) + 2).toNatClampNeg))) (S.1 22 0 (((((384 * x0) + (64 * x1)) + (4 * (x2 + 0))) + 3).toNatClampNeg))) x1) (x2 + 8)) (S.1 22 0 (((((384 * x0) + (64 * x1)) + (4 * (x2 + 8))) + 0).toNatClampNeg))) (S.1 22 0 (((((384 * x0) + (64 * x1)) + (4 * (x2 + 8))) + 1).toNatClampNeg))) (S.1 22 0 (((((384 * x0) + (64 * x1)) + (4 * (x2 + 8))) + 2).toNatClampNeg))) (S.1 22 0 (((((384 * x0) + (64 * x1)) + (4 * (x2 + 8))) + 3).toNatClampNeg)))), (10, .int 3), (9, .int (x2 + 8)), (8, .int 1), (0, .ref (ad 21 0)), (1, .int x0), (2, .int x1), (3, .int x2), (4, .long x3)]) hx hb d_M_sum_104 hl (Nat.le_of_ble_eq_true rfl) rfl (fun ls hl => ?_)
              refine lv_iinc (k := 1) (v := 4) (lv' := [(10, .int 4), (6, .long (f_M_mix (f_M_mix (f_M_mix (f_M_mix (f_M_mix (f_M_mix (f_M_mix (f_M_mix (f_M_mix (f_M_mix (f_M_mix (f_M_mix x3 x1) (x2 + 0)) (S.1 22 0 (((((384 * x0) + (64 * x1)) + (4 * (x2 + 0))) + 0).toNatClampNeg))) (S.1 22 0 (((((384 * x0) + (64 * x1)) + (4 * (x2 + 0))) + 1).toNatClampNeg))) (S.1 22 0 (((((384 * x0) + (64 * x1)) + (4 * (x2 + 0))) + 2).toNatClampNeg))) (S.1 22 0 (((((384 * x0) + (64 * x1)) + (4 * (x2 + 0))) + 3).toNatClampNeg))) x1) (x2 + 8)) (S.1 22 0 (((((384 * x0) + (64 * x1)) + (4 * (x2 + 8))) + 0).toNatClampNeg))) (S.1 22 0 (((((384 * x0) + (64 * x1)) + (4 * (x2 + 8))) + 1).toNatClampNeg))) (S.1 22 0 (((((384 * x0) + (64 * x1)) + (4 * (x2 + 8))) + 2).toNatClampNeg))) (S.1 22 0 (((((384 * x0) + (64 * x1)) + (4 * (x2 + 8))) + 3).toNatClampNeg)))), (9, .int (x2 + 8)), (8, .int 1), (0, .ref (ad 21 0)), (1, .int x0), (2, .int x1), (3, .int x2), (4, .long x3)]) hx hb d_M_sum_106 hl rfl (by decide) (Nat.le_of_ble_eq_true rfl) rfl (fun ls hl => ?_)
              refine lv_goto (tgt := 70) hx hb d_M_sum_109 rfl ?_
              refine lv_iload hx hb d_M_sum_70 (lv_at hl 0 rfl) ?_
              refine lv_iconst (v := 4) hx hb d_M_sum_72 z_k4 ?_
              refine lv_icmp_ge (tgt := 112) hx hb d_M_sum_73 rfl (fun _ => ?_) (fun h => absurd h (by decide))
              refine lv_iinc (k := 3) (v := 2) (lv' := [(8, .int 2), (10, .int 4), (6, .long (f_M_mix (f_M_mix (f_M_mix (f_M_mix (f_M_mix (f_M_mix (f_M_mix (f_M_mix (f_M_mix (f_M_mix (f_M_mix (f_M_mix x3 x1) (x2 + 0)) (S.1 22 0 (((((384 * x0) + (64 * x1)) + (4 * (x2 + 0))) + 0).toNatClampNeg))) (S.1 22 0 (((((384 * x0) + (64 * x1)) + (4 * (x2 + 0))) + 1).toNatClampNeg))) (S.1 22 0 (((((384 * x0) + (64 * x1)) + (4 * (x2 + 0))) + 2).toNatClampNeg))) (S.1 22 0 (((((384 * x0) + (64 * x1)) + (4 * (x2 + 0))) + 3).toNatClampNeg))) x1) (x2 + 8)) (S.1 22 0 (((((384 * x0) + (64 * x1)) + (4 * (x2 + 8))) + 0).toNatClampNeg))) (S.1 22 0 (((((384 * x0) + (64 * x1)) + (4 * (x2 + 8))) + 1).toNatClampNeg))) (S.1 22 0 (((((384 * x0) + (64 * x1)) + (4 * (x2 + 8))) + 2).toNatClampNeg))) (S.1 22 0 (((((384 * x0) + (64 * x1)) + (4 * (x2 + 8))) + 3).toNatClampNeg)))), (9, .int (x2 + 8)), (0, .ref (ad 21 0)), (1, .int x0), (2, .int x1), (3, .int x2), (4, .long x3)]) hx hb d_M_sum_112 hl rfl (by decide) (Nat.le_of_ble_eq_true rfl) rfl (fun ls hl => ?_)
              refine lv_goto (tgt := 34) hx hb d_M_sum_115 rfl ?_
              refine lv_iload hx hb d_M_sum_34 (lv_at hl 0 rfl) ?_
              refine lv_aload_n hx hb d_M_sum_36 rfl (lv_at hl 4 rfl) ?_
              refine lv_iload_n hx hb d_M_sum_37 rfl (lv_at hl 6 rfl) ?_
              refine lv_iload_n hx hb d_M_sum_38 rfl (lv_at hl 7 rfl) ?_
              refine kc_M_90 hF (c_M_sizeOf l D C ad hF.2.2 _ _ _ ) hG ⟨Nat.le_of_ble_eq_true rfl, Nat.le_of_ble_eq_true rfl⟩ ⟨Nat.zero_le _, Nat.zero_le _⟩ hl.1 (Nat.le_of_ble_eq_true rfl) d_M_sum_39 (fun H locs hG => ?_)
              refine lv_icmp_ge (tgt := 118) hx hb d_M_sum_42 rfl (fun _ => ?_) (fun h => absurd h (not_not_intro z_sz2))
              refine lv_lload hx hb d_M_sum_118 (lv_at hl 2 rfl) ?_
              exact z_lret hF hr hlk hG (Eq.symm ((if_neg h4).trans ((if_neg h8).trans ((if_neg h14).trans ((if_neg h22).trans ((if_neg h42).trans ((if_neg h42_1).trans rfl))))))) rfl d_M_sum_120
        ·
          refine lv_lconst (v := 0) hx hb d_M_sum_25 rfl ?_
          exact z_lret hF hr hlk hG (Eq.symm ((if_neg h4).trans ((if_neg h8).trans ((if_neg h14).trans ((if_pos h22).trans rfl))))) rfl d_M_sum_26
end
section
abbrev rm_M_come : Room := { frames := 0, cells := 0, slots := 0, locals := 0 }
abbrev rm_M_isLetter : Room := { frames := 0, cells := 0, slots := 0, locals := 0 }
abbrev rm_M_copyLetter : Room := { frames := 0, cells := 0, slots := 0, locals := 0 }
abbrev rm_M_leave : Room := { frames := 1, cells := 0, slots := 0, locals := 23 }
abbrev rm_M_lose : Room := { frames := 2, cells := 0, slots := 0, locals := 45 }
abbrev rm_M_twice : Room := { frames := 1, cells := 0, slots := 0, locals := 23 }
abbrev rm_M_letters : Room := { frames := 0, cells := 0, slots := 0, locals := 0 }
abbrev rm_M_letter : Room := { frames := 1, cells := 0, slots := 0, locals := 21 }
theorem z_o35 : 0 < z_n 35 := by decide
theorem z_o36 : 0 < z_n 36 := by decide
theorem z_o37 : 0 < z_n 37 := by decide
theorem z_o38 : 0 < z_n 38 := by decide
theorem z_o39 : 0 < z_n 39 := by decide
theorem z_in24_25 : vp_in (24 : Int32) 25 := by unfold vp_in; decide
theorem dp_M_copyLetter : y_M_copyLetter.cls ≠ "java/lang/invoke/MethodHandle" ∧ y_M_copyLetter.cls ≠ "java/lang/invoke/VarHandle" ∧ (parseMethodDescriptor y_M_copyLetter.desc).map (fun d => d.parameters.length) = some 2 := by decide +kernel
theorem dp_M_isLetter : y_M_isLetter.cls ≠ "java/lang/invoke/MethodHandle" ∧ y_M_isLetter.cls ≠ "java/lang/invoke/VarHandle" ∧ (parseMethodDescriptor y_M_isLetter.desc).map (fun d => d.parameters.length) = some 1 := by decide +kernel
theorem dp_M_leave : y_M_leave.cls ≠ "java/lang/invoke/MethodHandle" ∧ y_M_leave.cls ≠ "java/lang/invoke/VarHandle" ∧ (parseMethodDescriptor y_M_leave.desc).map (fun d => d.parameters.length) = some 1 := by decide +kernel
section ZI_mlet
variable {D : va_G} {C : Nat → ClassId} {ad : Nat → Nat → Nat} {S : z_S}
variable {p : Program} {l : Launch} {e : Env} {R : Room} {s : State} {m : MethodId} {args : Array Value} {below : List Frame} {meth : Method} {c : Code} {H H0 : Heap} {locs : List Loc} {cells slots : Nat} {Q : State → Prop}
variable {cc : ByteArray} {nL pc : Nat} {ls : Array Slot} {rest : List Value}
theorem gf_M_98_21 (hF : z_F D C ad p m c cc nL s args R_M) (hG : z_G D C ad H0 S H locs) {v : Int32} (hv : S.1 21 0 14 = v) (hdg : decode cc pc = .ok (.getfield 98, 3)) (kk : W p l e R s m args below meth c H locs cells slots Q (F0 m (pc + 3) ls (.int v :: rest))) : W p l e R s m args below meth c H locs cells slots Q (F0 m pc ls (.ref (ad 21 0) :: rest)) :=
  z_get hF hG z_o21 (z_c21 C ad _ _ 0) rfl wl_M 14 (by decide) wf_M_98 rfl (by subst hv; rfl) hdg kk
theorem gf_M_51_21 (hF : z_F D C ad p m c cc nL s args R_M) (hG : z_G D C ad H0 S H locs) (hdg : decode cc pc = .ok (.getfield 51, 3)) (kk : W p l e R s m args below meth c H locs cells slots Q (F0 m (pc + 3) ls (.ref (ad 35 0) :: rest))) : W p l e R s m args below meth c H locs cells slots Q (F0 m pc ls (.ref (ad 21 0) :: rest)) :=
  z_get hF hG z_o21 (z_c21 C ad _ _ 0) rfl wl_M 15 (by decide) wf_M_51 rfl rfl hdg kk
theorem gf_M_54_21 (hF : z_F D C ad p m c cc nL s args R_M) (hG : z_G D C ad H0 S H locs) (hdg : decode cc pc = .ok (.getfield 54, 3)) (kk : W p l e R s m args below meth c H locs cells slots Q (F0 m (pc + 3) ls (.ref (ad 36 0) :: rest))) : W p l e R s m args below meth c H locs cells slots Q (F0 m pc ls (.ref (ad 21 0) :: rest)) :=
  z_get hF hG z_o21 (z_c21 C ad _ _ 0) rfl wl_M 16 (by decide) wf_M_54 rfl rfl hdg kk
theorem gf_M_57_21 (hF : z_F D C ad p m c cc nL s args R_M) (hG : z_G D C ad H0 S H locs) (hdg : decode cc pc = .ok (.getfield 57, 3)) (kk : W p l e R s m args below meth c H locs cells slots Q (F0 m (pc + 3) ls (.ref (ad 37 0) :: rest))) : W p l e R s m args below meth c H locs cells slots Q (F0 m pc ls (.ref (ad 21 0) :: rest)) :=
  z_get hF hG z_o21 (z_c21 C ad _ _ 0) rfl wl_M 17 (by decide) wf_M_57 rfl rfl hdg kk
theorem pf_M_98_21 {v : Int32} (hF : z_F D C ad p m c cc nL s args R_M) (hG : z_G D C ad H0 S H locs) (hdg : decode cc pc = .ok (.putfield 98, 3)) (kk : ∀ (H1 : Heap) (locs1 : List Loc), z_G D C ad H0 (z_sI S 21 0 14 v) H1 locs1 → W p l e R s m args below meth c H1 locs1 cells slots Q (F0 m (pc + 3) ls rest)) : W p l e R s m args below meth c H locs cells slots Q (F0 m pc ls (.int v :: .ref (ad 21 0) :: rest)) :=
  z_put (S' := z_sI S 21 0 14 v) hF hG z_o21 (z_c21 C ad _ _ 0) rfl wl_M t_M t_M_ok n_M 14 (by decide) wf_M_98 rfl rfl (ty := .int) (by decide +kernel) rfl rfl (Nat.le_of_ble_eq_true rfl) (fun a2 o2 hne => ⟨z_sI_ne S 21 0 14 v hne, rfl⟩) (by rw [z_sI_at]; rfl) hdg kk
theorem gf_M_60_21 (hF : z_F D C ad p m c cc nL s args R_M) (hG : z_G D C ad H0 S H locs) (hdg : decode cc pc = .ok (.getfield 60, 3)) (kk : W p l e R s m args below meth c H locs cells slots Q (F0 m (pc + 3) ls (.ref (ad 38 0) :: rest))) : W p l e R s m args below meth c H locs cells slots Q (F0 m pc ls (.ref (ad 21 0) :: rest)) :=
  z_get hF hG z_o21 (z_c21 C ad _ _ 0) rfl wl_M 18 (by decide) wf_M_60 rfl rfl hdg kk
theorem gf_M_63_21 (hF : z_F D C ad p m c cc nL s args R_M) (hG : z_G D C ad H0 S H locs) (hdg : decode cc pc = .ok (.getfield 63, 3)) (kk : W p l e R s m args below meth c H locs cells slots Q (F0 m (pc + 3) ls (.ref (ad 39 0) :: rest))) : W p l e R s m args below meth c H locs cells slots Q (F0 m pc ls (.ref (ad 21 0) :: rest)) :=
  z_get hF hG z_o21 (z_c21 C ad _ _ 0) rfl wl_M 19 (by decide) wf_M_63 rfl rfl hdg kk
theorem kc_M_101 {x0 : Int32} {x1 : Int32} {S2 : z_S} (hF : z_F D C ad p m c cc nL s args R_M) (hM : z_M l y_M_copyLetter b_M_copyLetter 4 none rm_M_copyLetter D C ad [.ref (ad 21 0), .int x0, .int x1] S (z_Qv D C ad S2)) (hG : z_G D C ad H0 S H locs) (hR : rm_M_copyLetter.frames + 1 ≤ R.frames ∧ 8 + (4 + 11) + rm_M_copyLetter.locals ≤ R.locals) (hcs : cells ≤ R.cells ∧ slots ≤ R.slots) (hsz : ls.size = nL) (hcat : (rest.map fun v => v.category).sum ≤ 8) (hdg : decode cc pc = .ok (.invokevirtual 101, 3)) (kk : ∀ (H1 : Heap) (locs1 : List Loc), z_G D C ad H0 S2 H1 locs1 → W p l e R s m args below meth c H1 locs1 cells slots Q (F0 m (pc + 3) ls rest)) : W p l e R s m args below meth c H locs cells slots Q (F0 m pc ls (.int x1 :: .int x0 :: .ref (ad 21 0) :: rest)) :=
  z_cv (z_runV (As := [.int x0, .int x1]) hF hM hG z_o21 (z_c21 C ad _ _ 0) rfl wm_M_101 wi_M_copyLetter ws_M_copyLetter wn_M wc_M_copyLetter dp_M_copyLetter rfl rfl hR hcs hsz hcat rfl hdg) hG kk
theorem kc_M_105 {x0 : Int32} {r : Int32} {S2 : z_S} (hF : z_F D C ad p m c cc nL s args R_M) (hM : z_M l y_M_isLetter b_M_isLetter 2 (some .boolean) rm_M_isLetter D C ad [.ref (ad 21 0), .int x0] S (z_Qi D C ad r S2)) (hG : z_G D C ad H0 S H locs) (hR : rm_M_isLetter.frames + 1 ≤ R.frames ∧ 8 + (2 + 11) + rm_M_isLetter.locals ≤ R.locals) (hcs : cells ≤ R.cells ∧ slots ≤ R.slots) (hsz : ls.size = nL) (hcat : (rest.map fun v => v.category).sum ≤ 8) (hdg : decode cc pc = .ok (.invokevirtual 105, 3)) (kk : ∀ (H1 : Heap) (locs1 : List Loc), z_G D C ad H0 S2 H1 locs1 → W p l e R s m args below meth c H1 locs1 cells slots Q (F0 m (pc + 3) ls (.int r :: rest))) : W p l e R s m args below meth c H locs cells slots Q (F0 m pc ls (.int x0 :: .ref (ad 21 0) :: rest)) :=
  z_ci (z_runV (As := [.int x0]) hF hM hG z_o21 (z_c21 C ad _ _ 0) rfl wm_M_105 wi_M_isLetter ws_M_isLetter wn_M wc_M_isLetter dp_M_isLetter rfl rfl hR hcs hsz hcat rfl hdg) hG kk
theorem kc_M_108 {x0 : Int32} {S2 : z_S} (hF : z_F D C ad p m c cc nL s args R_M) (hM : z_M l y_M_leave b_M_leave 3 none rm_M_leave D C ad [.ref (ad 21 0), .int x0] S (z_Qv D C ad S2)) (hG : z_G D C ad H0 S H locs) (hR : rm_M_leave.frames + 1 ≤ R.frames ∧ 8 + (3 + 11) + rm_M_leave.locals ≤ R.locals) (hcs : cells ≤ R.cells ∧ slots ≤ R.slots) (hsz : ls.size = nL) (hcat : (rest.map fun v => v.category).sum ≤ 8) (hdg : decode cc pc = .ok (.invokevirtual 108, 3)) (kk : ∀ (H1 : Heap) (locs1 : List Loc), z_G D C ad H0 S2 H1 locs1 → W p l e R s m args below meth c H1 locs1 cells slots Q (F0 m (pc + 3) ls rest)) : W p l e R s m args below meth c H locs cells slots Q (F0 m pc ls (.int x0 :: .ref (ad 21 0) :: rest)) :=
  z_cv (z_runV (As := [.int x0]) hF hM hG z_o21 (z_c21 C ad _ _ 0) rfl wm_M_108 wi_M_leave ws_M_leave wn_M wc_M_leave dp_M_leave rfl rfl hR hcs hsz hcat rfl hdg) hG kk
end ZI_mlet
end
section
def f_M_come (S : z_S) : Int32 := (if 24 ≤ (S.1 21 0 14) then (S.1 21 0 14) else (S.1 21 0 14))
def g_M_come (S : z_S) (x0 : Int32) (x1 : Int32) (x2 : Int32) : z_S := (if 24 ≤ (S.1 21 0 14) then (z_sI (z_sI (z_sI (z_sI S 35 0 ((S.1 21 0 14).toNatClampNeg) x0) 36 0 ((S.1 21 0 14).toNatClampNeg) x1) 37 0 ((S.1 21 0 14).toNatClampNeg) x2) 21 0 14 24) else (z_sI (z_sI (z_sI (z_sI S 35 0 ((S.1 21 0 14).toNatClampNeg) x0) 36 0 ((S.1 21 0 14).toNatClampNeg) x1) 37 0 ((S.1 21 0 14).toNatClampNeg) x2) 21 0 14 ((S.1 21 0 14) + 1)))
set_option maxHeartbeats 4000000 in
set_option maxRecDepth 100000 in
theorem c_M_come (l : Launch) (D : va_G) (C : Nat → ClassId) (ad : Nat → Nat → Nat) (hJ : z_J ad) (S : z_S) (x0 : Int32) (x1 : Int32) (x2 : Int32) (hm : vp_in (S.1 21 0 14) 25) : z_M l y_M_come b_M_come 5 (some .int) rm_M_come D C ad [.ref (ad 21 0), .int x0, .int x1, .int x2] S (z_Qi D C ad (f_M_come S) (g_M_come S x0 x1 x2)) := by
  refine z_enter (by decide) (Nat.le_of_ble_eq_true rfl) hJ ?_
  intro p e s m below meth c ls hF hr hlk hl hG
  obtain ⟨hx, hb, hml, hown, hts⟩ := hF.1
  have hl : lv_has ls 5 [(0, .ref (ad 21 0)), (1, .int x0), (2, .int x1), (3, .int x2)] := hl
  refine lv_aload_n hx hb d_M_come_0 rfl (lv_at hl 0 rfl) ?_
  refine gf_M_98_21 hF hG (v := (S.1 21 0 14)) rfl d_M_come_1 ?_
  refine lv_istore (lv' := [(4, .int (S.1 21 0 14)), (0, .ref (ad 21 0)), (1, .int x0), (2, .int x1), (3, .int x2)]) hx hb d_M_come_4 hl (Nat.le_of_ble_eq_true rfl) rfl (fun ls hl => ?_)
  refine lv_aload_n hx hb d_M_come_6 rfl (lv_at hl 1 rfl) ?_
  refine gf_M_51_21 hF hG d_M_come_7 ?_
  refine lv_iload hx hb d_M_come_10 (lv_at hl 0 rfl) ?_
  refine lv_iload_n hx hb d_M_come_12 rfl (lv_at hl 2 rfl) ?_
  refine z_iast (n := 25) (j := (S.1 21 0 14).toNatClampNeg) hF hG z_o35 (fun f g => z_c35 C ad f g _) rfl hm d_M_come_13 (fun H locs hG => ?_)
  refine lv_aload_n hx hb d_M_come_14 rfl (lv_at hl 1 rfl) ?_
  refine gf_M_54_21 hF hG d_M_come_15 ?_
  refine lv_iload hx hb d_M_come_18 (lv_at hl 0 rfl) ?_
  refine lv_iload_n hx hb d_M_come_20 rfl (lv_at hl 3 rfl) ?_
  refine z_iast (n := 25) (j := (S.1 21 0 14).toNatClampNeg) hF hG z_o36 (fun f g => z_c36 C ad f g _) rfl hm d_M_come_21 (fun H locs hG => ?_)
  refine lv_aload_n hx hb d_M_come_22 rfl (lv_at hl 1 rfl) ?_
  refine gf_M_57_21 hF hG d_M_come_23 ?_
  refine lv_iload hx hb d_M_come_26 (lv_at hl 0 rfl) ?_
  refine lv_iload_n hx hb d_M_come_28 rfl (lv_at hl 4 rfl) ?_
  refine z_iast (n := 25) (j := (S.1 21 0 14).toNatClampNeg) hF hG z_o37 (fun f g => z_c37 C ad f g _) rfl hm d_M_come_29 (fun H locs hG => ?_)
  refine lv_aload_n hx hb d_M_come_30 rfl (lv_at hl 1 rfl) ?_
  refine lv_aload_n hx hb d_M_come_31 rfl (lv_at hl 1 rfl) ?_
  refine gf_M_98_21 hF hG (v := (S.1 21 0 14)) rfl d_M_come_32 ?_
  refine lv_bipush (v := 24) hx hb d_M_come_35 z_bi24 ?_
  refine lv_icmp_ge (tgt := 49) hx hb d_M_come_37 rfl (fun h37 => ?_) (fun h37 => ?_)
  ·
    refine lv_bipush (v := 24) hx hb d_M_come_49 z_bi24 ?_
    refine pf_M_98_21 hF hG d_M_come_51 (fun H locs hG => ?_)
    refine lv_iload hx hb d_M_come_54 (lv_at hl 0 rfl) ?_
    exact z_iret hF hr hlk hG (Eq.symm ((if_pos h37).trans rfl)) (Eq.symm ((if_pos h37).trans rfl)) d_M_come_56
  ·
    refine lv_aload_n hx hb d_M_come_40 rfl (lv_at hl 1 rfl) ?_
    refine gf_M_98_21 hF hG (v := (S.1 21 0 14)) rfl d_M_come_41 ?_
    refine lv_iconst (v := 1) hx hb d_M_come_44 z_k1 ?_
    refine lv_iadd hx hb d_M_come_45 ?_
    refine lv_goto (tgt := 51) hx hb d_M_come_46 rfl ?_
    refine pf_M_98_21 hF hG d_M_come_51 (fun H locs hG => ?_)
    refine lv_iload hx hb d_M_come_54 (lv_at hl 0 rfl) ?_
    exact z_iret hF hr hlk hG (Eq.symm ((if_neg h37).trans rfl)) (Eq.symm ((if_neg h37).trans rfl)) d_M_come_56
def f_M_isLetter (S : z_S) (x0 : Int32) : Int32 := (if x0 < 0 then 0 else (if (S.1 21 0 14) ≤ x0 then 0 else 1))
set_option maxHeartbeats 4000000 in
set_option maxRecDepth 100000 in
theorem c_M_isLetter (l : Launch) (D : va_G) (C : Nat → ClassId) (ad : Nat → Nat → Nat) (hJ : z_J ad) (S : z_S) (x0 : Int32)  : z_M l y_M_isLetter b_M_isLetter 2 (some .boolean) rm_M_isLetter D C ad [.ref (ad 21 0), .int x0] S (z_Qi D C ad (f_M_isLetter S x0) S) := by
  refine z_enter (by decide) (Nat.le_of_ble_eq_true rfl) hJ ?_
  intro p e s m below meth c ls hF hr hlk hl hG
  obtain ⟨hx, hb, hml, hown, hts⟩ := hF.1
  have hl : lv_has ls 2 [(0, .ref (ad 21 0)), (1, .int x0)] := hl
  refine lv_iload_n hx hb d_M_isLetter_0 rfl (lv_at hl 1 rfl) ?_
  refine lv_if_lt (tgt := 16) hx hb d_M_isLetter_1 rfl (fun h1 => ?_) (fun h1 => ?_)
  ·
    refine lv_iconst (v := 0) hx hb d_M_isLetter_16 z_k0 ?_
    exact z_zret hF hr hlk rfl hG (Eq.symm ((if_pos h1).trans rfl)) rfl d_M_isLetter_17
  ·
    refine lv_iload_n hx hb d_M_isLetter_4 rfl (lv_at hl 1 rfl) ?_
    refine lv_aload_n hx hb d_M_isLetter_5 rfl (lv_at hl 0 rfl) ?_
    refine gf_M_98_21 hF hG (v := (S.1 21 0 14)) rfl d_M_isLetter_6 ?_
    refine lv_icmp_ge (tgt := 16) hx hb d_M_isLetter_9 rfl (fun h9 => ?_) (fun h9 => ?_)
    ·
      refine lv_iconst (v := 0) hx hb d_M_isLetter_16 z_k0 ?_
      exact z_zret hF hr hlk rfl hG (Eq.symm ((if_neg h1).trans ((if_pos h9).trans rfl))) rfl d_M_isLetter_17
    ·
      refine lv_iconst (v := 1) hx hb d_M_isLetter_12 z_k1 ?_
      refine lv_goto (tgt := 17) hx hb d_M_isLetter_13 rfl ?_
      exact z_zret hF hr hlk rfl hG (Eq.symm ((if_neg h1).trans ((if_neg h9).trans rfl))) rfl d_M_isLetter_17
theorem z_mleI {S : z_S} {x : Int32} (h : ¬ f_M_isLetter S x = 0) : ¬ x < 0 ∧ ¬ S.1 21 0 14 ≤ x := by
  unfold f_M_isLetter at h
  by_cases h1 : x < 0
  · rw [if_pos h1] at h; exact absurd rfl h
  · rw [if_neg h1] at h
    by_cases h2 : S.1 21 0 14 ≤ x
    · rw [if_pos h2] at h; exact absurd rfl h
    · exact ⟨h1, h2⟩
theorem z_mleN {S : z_S} {x : Int32} (hom : z_Om S) (h : ¬ f_M_isLetter S x = 0) : ∃ k n : Nat, x = nI k ∧ S.1 21 0 14 = nI (n + 1) ∧ k ≤ n ∧ n < 24 := by
  obtain ⟨h1, h2⟩ := z_mleI h
  obtain ⟨k, hk, rfl⟩ := nI_of h1
  obtain ⟨c, hc, e⟩ := vp_in_of (z_mmy hom) (by decide)
  rw [e] at h2
  have hlt : k < c := by
    apply Classical.byContradiction
    intro q
    exact h2 (nI_le (by omega) hk)
  refine ⟨k, c - 1, rfl, ?_, by omega, by omega⟩
  rw [e]
  exact congrArg nI (by omega)
theorem z_mle {S : z_S} {x : Int32} (hom : z_Om S) (h : ¬ f_M_isLetter S x = 0) : vp_in x 25 := by
  obtain ⟨k, n, rfl, -, h1, h2⟩ := z_mleN hom h
  exact vp_in_nI (by omega) (by decide)
theorem z_nm1 {S : z_S} {x : Int32} (h : ¬ f_M_isLetter S x = 0) : x = nI x.toNatClampNeg := by
  obtain ⟨k, hk, rfl⟩ := nI_of (z_mleI h).1
  rw [nI_clamp hk]
theorem z_nm2 {S : z_S} {x : Int32} (hom : z_Om S) (h : ¬ f_M_isLetter S x = 0) : S.1 21 0 14 = nI ((S.1 21 0 14).toNatClampNeg - 1 + 1) := by
  obtain ⟨k, n, -, e, h1, h2⟩ := z_mleN hom h
  rw [e, nI_clamp (by omega)]
  exact congrArg nI (by omega)
theorem z_nm3 {S : z_S} {x : Int32} (hom : z_Om S) (h : ¬ f_M_isLetter S x = 0) : x.toNatClampNeg ≤ (S.1 21 0 14).toNatClampNeg - 1 := by
  obtain ⟨k, n, rfl, e, h1, h2⟩ := z_mleN hom h
  rw [e, nI_clamp (by omega), nI_clamp (by omega)]
  omega
theorem z_nm4 {S : z_S} {x : Int32} (hom : z_Om S) (h : ¬ f_M_isLetter S x = 0) : (S.1 21 0 14).toNatClampNeg - 1 < 24 := by
  obtain ⟨k, n, -, e, h1, h2⟩ := z_mleN hom h
  rw [e, nI_clamp (by omega)]
  omega
theorem z_nsN {S : z_S} (hom : z_Om S) (h : ¬ S.1 21 0 14 = 0) : ¬ f_M_isLetter S 0 = 0 := by
  obtain ⟨c, hc, e⟩ := vp_in_of (z_mmy hom) (by decide)
  unfold f_M_isLetter
  rw [if_neg (by decide), if_neg]
  · decide
  · rw [e]
    have h0 : 0 < c := by
      rcases Nat.eq_zero_or_pos c with z | z
      · subst z; exact absurd e h
      · exact z
    exact nI_ge (a := 0) h0 (by omega)
theorem z_ns2 {S : z_S} (hom : z_Om S) (h : ¬ S.1 21 0 14 = 0) : S.1 21 0 14 = nI ((S.1 21 0 14).toNatClampNeg - 1 + 1) := z_nm2 hom (z_nsN hom h)
theorem z_ns4 {S : z_S} (hom : z_Om S) (h : ¬ S.1 21 0 14 = 0) : (S.1 21 0 14).toNatClampNeg - 1 < 24 := z_nm4 hom (z_nsN hom h)
theorem z_cmr {S : z_S} (hm : vp_in (S.1 21 0 14) 25) : vp_in (f_M_come S) 25 := by
  unfold f_M_come
  split <;> exact hm
theorem z_cme {S : z_S} {a b c : Int32} (hm : vp_in (S.1 21 0 14) 25) : vp_in ((g_M_come S a b c).1 21 0 14) 25 := by
  obtain ⟨n, hn, e⟩ := vp_in_of hm (by decide)
  unfold g_M_come
  split
  · show vp_in (nI 24) 25
    exact vp_in_nI (by decide) (by decide)
  · rename_i h
    show vp_in (S.1 21 0 14 + 1) 25
    rw [e] at h ⊢
    have h4 : ¬ nI 24 ≤ nI n := h
    rw [nI_leI (by decide) (by omega)] at h4
    rw [show nI n + 1 = nI (n + 1) from nI_add n 1]
    exact vp_in_nI (by omega) (by decide)
theorem om_M_come {S : z_S} {a b c : Int32} (hom : z_Om S) (hc : vp_in c 3) : z_Om (g_M_come S a b c) := by
  have h1 := vp_in_iff.mp (z_cme (a := a) (b := b) (c := c) (z_mmy hom))
  refine ⟨?_, ⟨h1.1, by have := h1.2; omega⟩, ?_, ?_, ?_⟩
  · unfold g_M_come
    split <;> exact hom.1
  · intro k hk
    have h2 := hom.2.2.1 k hk
    unfold g_M_come
    split
    · show vp_in ((z_sI (z_sI (z_sI S 35 0 _ a) 36 0 _ b) 37 0 _ c).1 37 0 k) 3
      rw [z_rI]
      split
      · exact hc
      · exact h2
    · show vp_in ((z_sI (z_sI (z_sI S 35 0 _ a) 36 0 _ b) 37 0 _ c).1 37 0 k) 3
      rw [z_rI]
      split
      · exact hc
      · exact h2
  · unfold g_M_come
    split <;> exact hom.2.2.2.1
  · unfold g_M_come
    split <;> exact hom.2.2.2.2
def rg_M_copyLetter_50i_S1 (S : z_S) (v1 : Int32) (v2 : Int32) (k : Nat) : z_S := (z_sI S 39 0 (((8 * v2) + (nI k)).toNatClampNeg) (S.1 39 0 (((8 * v1) + (nI k)).toNatClampNeg)))
set_option maxHeartbeats 4000000 in
set_option maxRecDepth 100000 in
theorem rg_M_copyLetter_50i {D : va_G} {C : Nat → ClassId} {ad : Nat → Nat → Nat} {S : z_S} {p : Program} {l : Launch} {e : Env} {s : State} {m : MethodId} {args : Array Value} {below : List Frame} {meth : Method} {c : Code} {H H0 : Heap} {locs : List Loc} {Q : State → Prop} {ls : Array Slot} {v1 : Int32} {v2 : Int32} {k : Nat}  (hF : z_F D C ad p m c b_M_copyLetter 4 s args R_M)  (ha : ∀ k : Nat, k < 8 → vp_in ((8 * v1) + (nI k)) 200) (hb8 : ∀ k : Nat, k < 8 → vp_in ((8 * v2) + (nI k)) 200) (hk : k < 8) (hG : z_G D C ad H0 S H locs) (hl : lv_has ls 4 [(0, .ref (ad 21 0)), (1, .int v1), (2, .int v2), (3, .int (nI k))]) (kk : ∀ (H : Heap) (locs : List Loc) (ls : Array Slot) (S1 : z_S), z_G D C ad H0 S1 H locs → lv_has ls 4 [(0, .ref (ad 21 0)), (1, .int v1), (2, .int v2), (3, .int (nI (k + 1)))] → S1 = rg_M_copyLetter_50i_S1 S v1 v2 k → W p l e rm_M_copyLetter s m args below meth c H locs 0 0 Q (F0 m 50 ls [])) : W p l e rm_M_copyLetter s m args below meth c H locs 0 0 Q (F0 m 50 ls []) := by
  obtain ⟨hx, hb, hml, hown, hts⟩ := hF.1
  refine lv_iload_n hx hb d_M_copyLetter_50 rfl (lv_at hl 3 rfl) ?_
  refine lv_bipush (v := 8) hx hb d_M_copyLetter_51 z_bi8 ?_
  refine lv_icmp_ge (tgt := 84) hx hb d_M_copyLetter_53 rfl (fun h => absurd h (nI_ge (b := 8) hk (by decide))) (fun _ => ?_)
  refine lv_aload_n hx hb d_M_copyLetter_56 rfl (lv_at hl 0 rfl) ?_
  refine gf_M_63_21 hF hG d_M_copyLetter_57 ?_
  refine lv_bipush (v := 8) hx hb d_M_copyLetter_60 z_bi8 ?_
  refine lv_iload_n hx hb d_M_copyLetter_62 rfl (lv_at hl 2 rfl) ?_
  refine lv_imul hx hb d_M_copyLetter_63 ?_
  refine lv_iload_n hx hb d_M_copyLetter_64 rfl (lv_at hl 3 rfl) ?_
  refine lv_iadd hx hb d_M_copyLetter_65 ?_
  refine lv_aload_n hx hb d_M_copyLetter_66 rfl (lv_at hl 0 rfl) ?_
  refine gf_M_63_21 hF hG d_M_copyLetter_67 ?_
  refine lv_bipush (v := 8) hx hb d_M_copyLetter_70 z_bi8 ?_
  refine lv_iload_n hx hb d_M_copyLetter_72 rfl (lv_at hl 1 rfl) ?_
  refine lv_imul hx hb d_M_copyLetter_73 ?_
  refine lv_iload_n hx hb d_M_copyLetter_74 rfl (lv_at hl 3 rfl) ?_
  refine lv_iadd hx hb d_M_copyLetter_75 ?_
  refine z_iald (n := 200) (j := ((8 * v1) + (nI k)).toNatClampNeg) (v := (S.1 39 0 (((8 * v1) + (nI k)).toNatClampNeg))) hF hG z_o39 (z_c39 C ad _ _ _) rfl (ha k hk) rfl d_M_copyLetter_76 ?_
  refine z_iast (n := 200) (j := ((8 * v2) + (nI k)).toNatClampNeg) hF hG z_o39 (fun f g => z_c39 C ad f g _) rfl (hb8 k hk) d_M_copyLetter_77 (fun H locs hG => ?_)
  refine lv_iinc (k := 3) (v := (nI (k + 1))) (lv' := [(3, .int (nI (k + 1))), (0, .ref (ad 21 0)), (1, .int v1), (2, .int v2)]) hx hb d_M_copyLetter_78 hl rfl (z_incN _) (Nat.le_of_ble_eq_true rfl) rfl (fun ls hl => ?_)
  refine lv_goto (tgt := 50) hx hb d_M_copyLetter_81 rfl ?_
  exact kk _ _ _ _ hG (lv_sub hl [1, 2, 3, 0] rfl) rfl
set_option maxHeartbeats 4000000 in
set_option maxRecDepth 100000 in
theorem rg_M_copyLetter_50e {D : va_G} {C : Nat → ClassId} {ad : Nat → Nat → Nat} {S : z_S} {p : Program} {l : Launch} {e : Env} {s : State} {m : MethodId} {args : Array Value} {below : List Frame} {meth : Method} {c : Code} {H H0 : Heap} {locs : List Loc} {Q : State → Prop} {ls : Array Slot} {v1 : Int32} {v2 : Int32} {k : Nat}  (hF : z_F D C ad p m c b_M_copyLetter 4 s args R_M)  (ha : ∀ k : Nat, k < 8 → vp_in ((8 * v1) + (nI k)) 200) (hb8 : ∀ k : Nat, k < 8 → vp_in ((8 * v2) + (nI k)) 200) (hk : k = 8) (hG : z_G D C ad H0 S H locs) (hl : lv_has ls 4 [(0, .ref (ad 21 0)), (1, .int v1), (2, .int v2), (3, .int (nI k))]) (kk : ∀ (H : Heap) (locs : List Loc) (ls : Array Slot) , z_G D C ad H0 S H locs → lv_has ls 4 [(0, .ref (ad 21 0)), (1, .int v1), (2, .int v2), (3, .int (nI k))] → W p l e rm_M_copyLetter s m args below meth c H locs 0 0 Q (F0 m 84 ls [])) : W p l e rm_M_copyLetter s m args below meth c H locs 0 0 Q (F0 m 50 ls []) := by
  obtain ⟨hx, hb, hml, hown, hts⟩ := hF.1
  refine lv_iload_n hx hb d_M_copyLetter_50 rfl (lv_at hl 3 rfl) ?_
  refine lv_bipush (v := 8) hx hb d_M_copyLetter_51 z_bi8 ?_
  refine lv_icmp_ge (tgt := 84) hx hb d_M_copyLetter_53 rfl (fun _ => ?_) (fun h => absurd h (by rw [hk]; decide))
  exact kk _ _ _  hG (lv_sub hl [0, 1, 2, 3] rfl) 
set_option maxHeartbeats 4000000 in
set_option maxRecDepth 100000 in
theorem lp_M_copyLetter_50 {D : va_G} {C : Nat → ClassId} {ad : Nat → Nat → Nat} {p : Program} {l : Launch} {e : Env} {s : State} {m : MethodId} {args : Array Value} {below : List Frame} {meth : Method} {c : Code} {H0 : Heap} {Q : State → Prop} {v1 : Int32} {v2 : Int32}  (hF : z_F D C ad p m c b_M_copyLetter 4 s args R_M)  (ha : ∀ k : Nat, k < 8 → vp_in ((8 * v1) + (nI k)) 200) (hb8 : ∀ k : Nat, k < 8 → vp_in ((8 * v2) + (nI k)) 200) : ∀ (n k : Nat) (S : z_S) (H : Heap) (locs : List Loc) (ls : Array Slot), k + n = 8 → z_G D C ad H0 S H locs → lv_has ls 4 [(0, .ref (ad 21 0)), (1, .int v1), (2, .int v2), (3, .int (nI k))] → (∀ (H : Heap) (locs : List Loc) (ls : Array Slot), z_G D C ad H0 (z_it (fun (k : Nat) (S : z_S) => rg_M_copyLetter_50i_S1 S v1 v2 k) k n S) H locs → lv_has ls 4 [(0, .ref (ad 21 0)), (1, .int v1), (2, .int v2), (3, .int (nI 8))] → W p l e rm_M_copyLetter s m args below meth c H locs 0 0 Q (F0 m 84 ls [])) → W p l e rm_M_copyLetter s m args below meth c H locs 0 0 Q (F0 m 50 ls []) := by
  intro n
  induction n with
  | zero =>
    intro k S H locs ls hk hG hl kk
    have hk : k = 8 := by omega
    refine rg_M_copyLetter_50e hF  ha hb8 hk hG hl (fun H locs ls hG hl => ?_)
    subst hk
    exact kk H locs ls hG hl
  | succ n ih =>
    intro k S H locs ls hk hG hl kk
    refine rg_M_copyLetter_50i hF  ha hb8 (by omega) hG hl (fun H locs ls S1 hG hl e1 => ?_)
    subst e1
    exact ih (k + 1) (rg_M_copyLetter_50i_S1 S v1 v2 k) H locs ls (by omega) hG hl kk
def g_M_copyLetter (S : z_S) (x0 : Int32) (x1 : Int32) : z_S := (z_it (fun (kk9 : Nat) (T9 : z_S) => rg_M_copyLetter_50i_S1 T9 x0 x1 kk9) 0 8 (z_sL (z_sI (z_sI (z_sI S 35 0 x1.toNatClampNeg (S.1 35 0 x0.toNatClampNeg)) 36 0 x1.toNatClampNeg (S.1 36 0 x0.toNatClampNeg)) 37 0 x1.toNatClampNeg (S.1 37 0 x0.toNatClampNeg)) 38 0 x1.toNatClampNeg (S.2 38 0 x0.toNatClampNeg)))
set_option maxHeartbeats 4000000 in
set_option maxRecDepth 100000 in
theorem c_M_copyLetter (l : Launch) (D : va_G) (C : Nat → ClassId) (ad : Nat → Nat → Nat) (hJ : z_J ad) (S : z_S) (x0 : Int32) (x1 : Int32) (h0 : vp_in x0 25) (h1 : vp_in x1 25) : z_M l y_M_copyLetter b_M_copyLetter 4 none rm_M_copyLetter D C ad [.ref (ad 21 0), .int x0, .int x1] S (z_Qv D C ad (g_M_copyLetter S x0 x1)) := by
  refine z_enter (by decide) (Nat.le_of_ble_eq_true rfl) hJ ?_
  intro p e s m below meth c ls hF hr hlk hl hG
  obtain ⟨hx, hb, hml, hown, hts⟩ := hF.1
  have hl : lv_has ls 4 [(0, .ref (ad 21 0)), (1, .int x0), (2, .int x1)] := hl
  refine lv_aload_n hx hb d_M_copyLetter_0 rfl (lv_at hl 0 rfl) ?_
  refine gf_M_51_21 hF hG d_M_copyLetter_1 ?_
  refine lv_iload_n hx hb d_M_copyLetter_4 rfl (lv_at hl 2 rfl) ?_
  refine lv_aload_n hx hb d_M_copyLetter_5 rfl (lv_at hl 0 rfl) ?_
  refine gf_M_51_21 hF hG d_M_copyLetter_6 ?_
  refine lv_iload_n hx hb d_M_copyLetter_9 rfl (lv_at hl 1 rfl) ?_
  refine z_iald (n := 25) (j := x0.toNatClampNeg) (v := (S.1 35 0 x0.toNatClampNeg)) hF hG z_o35 (z_c35 C ad _ _ _) rfl h0 rfl d_M_copyLetter_10 ?_
  refine z_iast (n := 25) (j := x1.toNatClampNeg) hF hG z_o35 (fun f g => z_c35 C ad f g _) rfl h1 d_M_copyLetter_11 (fun H locs hG => ?_)
  refine lv_aload_n hx hb d_M_copyLetter_12 rfl (lv_at hl 0 rfl) ?_
  refine gf_M_54_21 hF hG d_M_copyLetter_13 ?_
  refine lv_iload_n hx hb d_M_copyLetter_16 rfl (lv_at hl 2 rfl) ?_
  refine lv_aload_n hx hb d_M_copyLetter_17 rfl (lv_at hl 0 rfl) ?_
  refine gf_M_54_21 hF hG d_M_copyLetter_18 ?_
  refine lv_iload_n hx hb d_M_copyLetter_21 rfl (lv_at hl 1 rfl) ?_
  refine z_iald (n := 25) (j := x0.toNatClampNeg) (v := (S.1 36 0 x0.toNatClampNeg)) hF hG z_o36 (z_c36 C ad _ _ _) rfl h0 rfl d_M_copyLetter_22 ?_
  refine z_iast (n := 25) (j := x1.toNatClampNeg) hF hG z_o36 (fun f g => z_c36 C ad f g _) rfl h1 d_M_copyLetter_23 (fun H locs hG => ?_)
  refine lv_aload_n hx hb d_M_copyLetter_24 rfl (lv_at hl 0 rfl) ?_
  refine gf_M_57_21 hF hG d_M_copyLetter_25 ?_
  refine lv_iload_n hx hb d_M_copyLetter_28 rfl (lv_at hl 2 rfl) ?_
  refine lv_aload_n hx hb d_M_copyLetter_29 rfl (lv_at hl 0 rfl) ?_
  refine gf_M_57_21 hF hG d_M_copyLetter_30 ?_
  refine lv_iload_n hx hb d_M_copyLetter_33 rfl (lv_at hl 1 rfl) ?_
  refine z_iald (n := 25) (j := x0.toNatClampNeg) (v := (S.1 37 0 x0.toNatClampNeg)) hF hG z_o37 (z_c37 C ad _ _ _) rfl h0 rfl d_M_copyLetter_34 ?_
  refine z_iast (n := 25) (j := x1.toNatClampNeg) hF hG z_o37 (fun f g => z_c37 C ad f g _) rfl h1 d_M_copyLetter_35 (fun H locs hG => ?_)
  refine lv_aload_n hx hb d_M_copyLetter_36 rfl (lv_at hl 0 rfl) ?_
  refine gf_M_60_21 hF hG d_M_copyLetter_37 ?_
  refine lv_iload_n hx hb d_M_copyLetter_40 rfl (lv_at hl 2 rfl) ?_
  refine lv_aload_n hx hb d_M_copyLetter_41 rfl (lv_at hl 0 rfl) ?_
  refine gf_M_60_21 hF hG d_M_copyLetter_42 ?_
  refine lv_iload_n hx hb d_M_copyLetter_45 rfl (lv_at hl 1 rfl) ?_
  refine z_lald (n := 25) (j := x0.toNatClampNeg) (v := (S.2 38 0 x0.toNatClampNeg)) hF hG z_o38 (z_c38 C ad _ _ _) rfl h0 rfl d_M_copyLetter_46 ?_
  refine z_last (n := 25) (j := x1.toNatClampNeg) hF hG z_o38 (fun f g => z_c38 C ad f g _) rfl h1 d_M_copyLetter_47 (fun H locs hG => ?_)
  refine lv_iconst (v := 0) hx hb d_M_copyLetter_48 z_k0 ?_
  refine lv_istore_n (lv' := [(3, .int 0), (0, .ref (ad 21 0)), (1, .int x0), (2, .int x1)]) hx hb d_M_copyLetter_49 rfl hl (Nat.le_of_ble_eq_true rfl) rfl (fun ls hl => ?_)
  have hl : lv_has ls 4 [(0, .ref (ad 21 0)), (1, .int x0), (2, .int x1), (3, .int (nI 0))] := by
    have h9 := lv_sub hl [1, 2, 3, 0] rfl
    rw [nI_0]; exact h9
  refine lp_M_copyLetter_50  hF  (z_l8 h0) (z_l8 h1) 8 0 _ _ _ ls rfl hG hl (fun H locs ls hG hl => ?_)
  exact z_vret hF hr hlk hG rfl d_M_copyLetter_84
theorem z_it_fr {α β : Type} {f : Nat → α → α} {P : α → β} (h : ∀ k x, P (f k x) = P x) : ∀ (n k : Nat) (x : α), P (z_it f k n x) = P x
  | 0, _, _ => rfl
  | n + 1, k, x => (z_it_fr h n (k + 1) (f k x)).trans (h k x)
theorem fr_M_copyLetter {S : z_S} {x0 x1 : Int32} : (g_M_copyLetter S x0 x1).1 21 = S.1 21 := by
  exact (z_it_fr (P := fun S : z_S => S.1 21) (f := fun (kk9 : Nat) (T9 : z_S) => rg_M_copyLetter_50i_S1 T9 x0 x1 kk9) (fun k S => rfl) 8 0 _).trans rfl
def rg_M_leave_9i_S1 (S : z_S) (k : Nat) : z_S := (g_M_copyLetter S ((nI k) + 1) (nI k))
set_option maxHeartbeats 4000000 in
set_option maxRecDepth 100000 in
theorem rg_M_leave_9i {D : va_G} {C : Nat → ClassId} {ad : Nat → Nat → Nat} {S : z_S} {p : Program} {l : Launch} {e : Env} {s : State} {m : MethodId} {args : Array Value} {below : List Frame} {meth : Method} {c : Code} {H H0 : Heap} {locs : List Loc} {Q : State → Prop} {ls : Array Slot} {v1 : Int32} {k : Nat} {N : Nat} (hF : z_F D C ad p m c b_M_leave 3 s args R_M)  (hN : N < 24) (inv : S.1 21 0 14 = nI (N + 1)) (hk : k < N) (hG : z_G D C ad H0 S H locs) (hl : lv_has ls 3 [(0, .ref (ad 21 0)), (1, .int v1), (2, .int (nI k))]) (kk : ∀ (H : Heap) (locs : List Loc) (ls : Array Slot) (S1 : z_S), z_G D C ad H0 S1 H locs → lv_has ls 3 [(0, .ref (ad 21 0)), (1, .int v1), (2, .int (nI (k + 1)))] → S1 = rg_M_leave_9i_S1 S k → W p l e rm_M_leave s m args below meth c H locs 0 0 Q (F0 m 9 ls [])) : W p l e rm_M_leave s m args below meth c H locs 0 0 Q (F0 m 9 ls []) := by
  obtain ⟨hx, hb, hml, hown, hts⟩ := hF.1
  refine lv_iload_n hx hb d_M_leave_9 rfl (lv_at hl 2 rfl) ?_
  refine lv_iconst (v := 1) hx hb d_M_leave_10 z_k1 ?_
  refine lv_iadd hx hb d_M_leave_11 ?_
  refine z_topi (y := (nI (k + 1))) (nI_succ k).symm ?_
  refine lv_aload_n hx hb d_M_leave_12 rfl (lv_at hl 0 rfl) ?_
  refine gf_M_98_21 hF hG (v := (S.1 21 0 14)) rfl d_M_leave_13 ?_
  refine lv_icmp_ge (tgt := 33) hx hb d_M_leave_16 rfl (fun h => absurd h (by rw [inv]; exact nI_ge (by omega) (by omega))) (fun _ => ?_)
  refine lv_aload_n hx hb d_M_leave_19 rfl (lv_at hl 0 rfl) ?_
  refine lv_iload_n hx hb d_M_leave_20 rfl (lv_at hl 2 rfl) ?_
  refine lv_iconst (v := 1) hx hb d_M_leave_21 z_k1 ?_
  refine lv_iadd hx hb d_M_leave_22 ?_
  refine lv_iload_n hx hb d_M_leave_23 rfl (lv_at hl 2 rfl) ?_
  refine kc_M_101 hF (c_M_copyLetter l D C ad hF.2.2 _ _ _ (by rw [show nI k + 1 = nI (k + 1) from (nI_succ k).symm]; exact vp_in_nI (by omega) (by decide)) (vp_in_nI (by omega) (by decide))) hG ⟨Nat.le_of_ble_eq_true rfl, Nat.le_of_ble_eq_true rfl⟩ ⟨Nat.zero_le _, Nat.zero_le _⟩ hl.1 (Nat.le_of_ble_eq_true rfl) d_M_leave_24 (fun H locs hG => ?_)
  refine lv_iinc (k := 2) (v := (nI (k + 1))) (lv' := [(2, .int (nI (k + 1))), (0, .ref (ad 21 0)), (1, .int v1)]) hx hb d_M_leave_27 hl rfl (z_incN _) (Nat.le_of_ble_eq_true rfl) rfl (fun ls hl => ?_)
  refine lv_goto (tgt := 9) hx hb d_M_leave_30 rfl ?_
  exact kk _ _ _ _ hG (lv_sub hl [1, 2, 0] rfl) rfl
set_option maxHeartbeats 4000000 in
set_option maxRecDepth 100000 in
theorem rg_M_leave_9e {D : va_G} {C : Nat → ClassId} {ad : Nat → Nat → Nat} {S : z_S} {p : Program} {l : Launch} {e : Env} {s : State} {m : MethodId} {args : Array Value} {below : List Frame} {meth : Method} {c : Code} {H H0 : Heap} {locs : List Loc} {Q : State → Prop} {ls : Array Slot} {v1 : Int32} {k : Nat} {N : Nat} (hF : z_F D C ad p m c b_M_leave 3 s args R_M)  (hN : N < 24) (inv : S.1 21 0 14 = nI (N + 1)) (hk : k = N) (hG : z_G D C ad H0 S H locs) (hl : lv_has ls 3 [(0, .ref (ad 21 0)), (1, .int v1), (2, .int (nI k))]) (kk : ∀ (H : Heap) (locs : List Loc) (ls : Array Slot) , z_G D C ad H0 S H locs → lv_has ls 3 [(0, .ref (ad 21 0)), (1, .int v1), (2, .int (nI k))] → W p l e rm_M_leave s m args below meth c H locs 0 0 Q (F0 m 33 ls [])) : W p l e rm_M_leave s m args below meth c H locs 0 0 Q (F0 m 9 ls []) := by
  obtain ⟨hx, hb, hml, hown, hts⟩ := hF.1
  refine lv_iload_n hx hb d_M_leave_9 rfl (lv_at hl 2 rfl) ?_
  refine lv_iconst (v := 1) hx hb d_M_leave_10 z_k1 ?_
  refine lv_iadd hx hb d_M_leave_11 ?_
  refine z_topi (y := (nI (k + 1))) (nI_succ k).symm ?_
  refine lv_aload_n hx hb d_M_leave_12 rfl (lv_at hl 0 rfl) ?_
  refine gf_M_98_21 hF hG (v := (S.1 21 0 14)) rfl d_M_leave_13 ?_
  refine lv_icmp_ge (tgt := 33) hx hb d_M_leave_16 rfl (fun _ => ?_) (fun h => absurd h (by rw [inv, hk]; exact not_not_intro (nI_le (Nat.le_refl _) (by omega))))
  exact kk _ _ _  hG (lv_sub hl [0, 1, 2] rfl) 
set_option maxHeartbeats 4000000 in
set_option maxRecDepth 100000 in
theorem lp_M_leave_9 {D : va_G} {C : Nat → ClassId} {ad : Nat → Nat → Nat} {p : Program} {l : Launch} {e : Env} {s : State} {m : MethodId} {args : Array Value} {below : List Frame} {meth : Method} {c : Code} {H0 : Heap} {Q : State → Prop} {v1 : Int32} {N : Nat} (hF : z_F D C ad p m c b_M_leave 3 s args R_M)  (hN : N < 24) : ∀ (n k : Nat) (S : z_S) (H : Heap) (locs : List Loc) (ls : Array Slot), k + n = N → S.1 21 0 14 = nI (N + 1) → z_G D C ad H0 S H locs → lv_has ls 3 [(0, .ref (ad 21 0)), (1, .int v1), (2, .int (nI k))] → (∀ (H : Heap) (locs : List Loc) (ls : Array Slot), z_G D C ad H0 (z_it (fun (k : Nat) (S : z_S) => rg_M_leave_9i_S1 S k) k n S) H locs → lv_has ls 3 [(0, .ref (ad 21 0)), (1, .int v1), (2, .int (nI N))] → W p l e rm_M_leave s m args below meth c H locs 0 0 Q (F0 m 33 ls [])) → W p l e rm_M_leave s m args below meth c H locs 0 0 Q (F0 m 9 ls []) := by
  intro n
  induction n with
  | zero =>
    intro k S H locs ls hk inv hG hl kk
    have hk : k = N := by omega
    refine rg_M_leave_9e hF  hN inv hk hG hl (fun H locs ls hG hl => ?_)
    subst hk
    exact kk H locs ls hG hl
  | succ n ih =>
    intro k S H locs ls hk inv hG hl kk
    refine rg_M_leave_9i hF  hN inv (by omega) hG hl (fun H locs ls S1 hG hl e1 => ?_)
    subst e1
    exact ih (k + 1) (rg_M_leave_9i_S1 S k) H locs ls (by omega) (by rw [show (rg_M_leave_9i_S1 S k).1 21 0 14 = S.1 21 0 14 from congrFun (congrFun fr_M_copyLetter 0) 14]; exact inv) hG hl kk
def g_M_leave (S : z_S) (x0 : Int32) (k0 : Nat) (N : Nat) : z_S := (z_sI (z_it (fun (kk9 : Nat) (T9 : z_S) => rg_M_leave_9i_S1 T9 kk9) k0 (N - k0) (g_M_copyLetter S x0 24)) 21 0 14 (((z_it (fun (kk9 : Nat) (T9 : z_S) => rg_M_leave_9i_S1 T9 kk9) k0 (N - k0) (g_M_copyLetter S x0 24)).1 21 0 14) - 1))
set_option maxHeartbeats 4000000 in
set_option maxRecDepth 100000 in
theorem c_M_leave (l : Launch) (D : va_G) (C : Nat → ClassId) (ad : Nat → Nat → Nat) (hJ : z_J ad) (S : z_S) (x0 : Int32) (k0 : Nat) (N : Nat) (hx0 : x0 = nI k0) (hc : S.1 21 0 14 = nI (N + 1)) (hk0 : k0 ≤ N) (hN : N < 24) : z_M l y_M_leave b_M_leave 3 none rm_M_leave D C ad [.ref (ad 21 0), .int x0] S (z_Qv D C ad (g_M_leave S x0 k0 N)) := by
  refine z_enter (by decide) (Nat.le_of_ble_eq_true rfl) hJ ?_
  intro p e s m below meth c ls hF hr hlk hl hG
  obtain ⟨hx, hb, hml, hown, hts⟩ := hF.1
  have hl : lv_has ls 3 [(0, .ref (ad 21 0)), (1, .int x0)] := hl
  refine lv_aload_n hx hb d_M_leave_0 rfl (lv_at hl 0 rfl) ?_
  refine lv_iload_n hx hb d_M_leave_1 rfl (lv_at hl 1 rfl) ?_
  refine lv_bipush (v := 24) hx hb d_M_leave_2 z_bi24 ?_
  refine kc_M_101 hF (c_M_copyLetter l D C ad hF.2.2 _ _ _ (by rw [hx0]; exact vp_in_nI (by omega) (by decide)) z_in24_25) hG ⟨Nat.le_of_ble_eq_true rfl, Nat.le_of_ble_eq_true rfl⟩ ⟨Nat.zero_le _, Nat.zero_le _⟩ hl.1 (Nat.le_of_ble_eq_true rfl) d_M_leave_4 (fun H locs hG => ?_)
  refine lv_iload_n hx hb d_M_leave_7 rfl (lv_at hl 1 rfl) ?_
  refine lv_istore_n (lv' := [(2, .int x0), (0, .ref (ad 21 0)), (1, .int x0)]) hx hb d_M_leave_8 rfl hl (Nat.le_of_ble_eq_true rfl) rfl (fun ls hl => ?_)
  have hl : lv_has ls 3 [(0, .ref (ad 21 0)), (1, .int x0), (2, .int (nI k0))] := by
    have h9 := lv_sub hl [1, 2, 0] rfl
    rw [← hx0]; exact h9
  refine lp_M_leave_9  hF  hN (N - k0) k0 _ _ _ ls (by omega) (by rw [congrFun (congrFun fr_M_copyLetter 0) 14]; exact hc) hG hl (fun H locs ls hG hl => ?_)
  refine lv_aload_n hx hb d_M_leave_33 rfl (lv_at hl 0 rfl) ?_
  refine lv_dup hx hb d_M_leave_34 rfl ?_
  refine gf_M_98_21 hF hG (v := ((z_it (fun (kk9 : Nat) (T9 : z_S) => rg_M_leave_9i_S1 T9 kk9) k0 (N - k0) (g_M_copyLetter S x0 24)).1 21 0 14)) rfl d_M_leave_35 ?_
  refine lv_iconst (v := 1) hx hb d_M_leave_38 z_k1 ?_
  refine lv_isub hx hb d_M_leave_39 ?_
  refine pf_M_98_21 hF hG d_M_leave_40 (fun H locs hG => ?_)
  exact z_vret hF hr hlk hG rfl d_M_leave_43
theorem om_M_copyLetter {S : z_S} {x0 x1 : Int32} (hom : z_Om S) (h0 : vp_in x0 25) : z_Om (g_M_copyLetter S x0 x1) := by
  unfold g_M_copyLetter
  refine z_it_inv (P := z_Om) (f := fun (kk9 : Nat) (T9 : z_S) => rg_M_copyLetter_50i_S1 T9 x0 x1 kk9) (fun k T hT => hT.of rfl rfl rfl rfl rfl rfl rfl) ?_
  refine ⟨hom.1, hom.2.1, ?_, hom.2.2.2.1, hom.2.2.2.2⟩
  intro k hk
  have h2 := hom.2.2.1 k hk
  have h3 := hom.2.2.1 _ (z_lt h0)
  show vp_in ((z_sI (z_sI (z_sI S 35 0 _ _) 36 0 _ _) 37 0 x1.toNatClampNeg (S.1 37 0 x0.toNatClampNeg)).1 37 0 k) 3
  rw [z_rI]
  split
  · exact h3
  · exact h2
theorem om_M_leave {S : z_S} {x0 : Int32} {k0 N : Nat} (hom : z_Om S) (hx0 : x0 = nI k0) (hc : S.1 21 0 14 = nI (N + 1)) (hk0 : k0 ≤ N) (hN : N < 24) : z_Om (g_M_leave S x0 k0 N) := by
  have hP : z_Om (z_it (fun (kk9 : Nat) (T9 : z_S) => rg_M_leave_9i_S1 T9 kk9) k0 (N - k0) (g_M_copyLetter S x0 24)) ∧ (z_it (fun (kk9 : Nat) (T9 : z_S) => rg_M_leave_9i_S1 T9 kk9) k0 (N - k0) (g_M_copyLetter S x0 24)).1 21 0 14 = nI (N + 1) := by
    refine z_it_invB (K := N) (P := fun T : z_S => z_Om T ∧ T.1 21 0 14 = nI (N + 1)) ?_ _ _ _ (by omega) ?_
    · intro k T hk hT
      refine ⟨om_M_copyLetter hT.1 ?_, ?_⟩
      · rw [show nI k + 1 = nI (k + 1) from nI_add k 1]
        exact vp_in_nI (by omega) (by decide)
      · exact (congrFun (congrFun fr_M_copyLetter 0) 14).trans hT.2
    · refine ⟨om_M_copyLetter hom ?_, ?_⟩
      · rw [hx0]
        exact vp_in_nI (by omega) (by decide)
      · exact (congrFun (congrFun fr_M_copyLetter 0) 14).trans hc
  unfold g_M_leave
  refine ⟨hP.1.1, ?_, hP.1.2.2.1, hP.1.2.2.2.1, hP.1.2.2.2.2⟩
  show 0 ≤ (_ - 1 : Int32).toInt ∧ (_ - 1 : Int32).toInt ≤ 24
  rw [hP.2, z_pred, nI_toInt (by omega)]
  omega
def f_M_lose (S : z_S) (x0 : Int32) : Int32 := (if (f_M_isLetter S x0) = 0 then (-1) else (S.1 35 0 x0.toNatClampNeg))
def g_M_lose (S : z_S) (x0 : Int32) : z_S := (if (f_M_isLetter S x0) = 0 then S else (g_M_leave S x0 x0.toNatClampNeg ((S.1 21 0 14).toNatClampNeg - 1)))
set_option maxHeartbeats 4000000 in
set_option maxRecDepth 100000 in
theorem c_M_lose (l : Launch) (D : va_G) (C : Nat → ClassId) (ad : Nat → Nat → Nat) (hJ : z_J ad) (S : z_S) (x0 : Int32) (hom : z_Om S) : z_M l y_M_lose b_M_lose 3 (some .int) rm_M_lose D C ad [.ref (ad 21 0), .int x0] S (z_Qi D C ad (f_M_lose S x0) (g_M_lose S x0)) := by
  refine z_enter (by decide) (Nat.le_of_ble_eq_true rfl) hJ ?_
  intro p e s m below meth c ls hF hr hlk hl hG
  obtain ⟨hx, hb, hml, hown, hts⟩ := hF.1
  have hl : lv_has ls 3 [(0, .ref (ad 21 0)), (1, .int x0)] := hl
  refine lv_aload_n hx hb d_M_lose_0 rfl (lv_at hl 0 rfl) ?_
  refine lv_iload_n hx hb d_M_lose_1 rfl (lv_at hl 1 rfl) ?_
  refine kc_M_105 hF (c_M_isLetter l D C ad hF.2.2 _ _ ) hG ⟨Nat.le_of_ble_eq_true rfl, Nat.le_of_ble_eq_true rfl⟩ ⟨Nat.zero_le _, Nat.zero_le _⟩ hl.1 (Nat.le_of_ble_eq_true rfl) d_M_lose_2 (fun H locs hG => ?_)
  refine lv_if_ne (tgt := 10) hx hb d_M_lose_5 rfl (fun h5 => ?_) (fun h5 => ?_)
  ·
    refine lv_aload_n hx hb d_M_lose_10 rfl (lv_at hl 0 rfl) ?_
    refine gf_M_51_21 hF hG d_M_lose_11 ?_
    refine lv_iload_n hx hb d_M_lose_14 rfl (lv_at hl 1 rfl) ?_
    refine z_iald (n := 25) (j := x0.toNatClampNeg) (v := (S.1 35 0 x0.toNatClampNeg)) hF hG z_o35 (z_c35 C ad _ _ _) rfl (z_mle hom h5) rfl d_M_lose_15 ?_
    refine lv_istore_n (lv' := [(2, .int (S.1 35 0 x0.toNatClampNeg)), (0, .ref (ad 21 0)), (1, .int x0)]) hx hb d_M_lose_16 rfl hl (Nat.le_of_ble_eq_true rfl) rfl (fun ls hl => ?_)
    refine lv_aload_n hx hb d_M_lose_17 rfl (lv_at hl 1 rfl) ?_
    refine lv_iload_n hx hb d_M_lose_18 rfl (lv_at hl 2 rfl) ?_
    refine kc_M_108 hF (c_M_leave l D C ad hF.2.2 _ _ x0.toNatClampNeg ((S.1 21 0 14).toNatClampNeg - 1) (z_nm1 h5) (z_nm2 hom h5) (z_nm3 hom h5) (z_nm4 hom h5)) hG ⟨Nat.le_of_ble_eq_true rfl, Nat.le_of_ble_eq_true rfl⟩ ⟨Nat.zero_le _, Nat.zero_le _⟩ hl.1 (Nat.le_of_ble_eq_true rfl) d_M_lose_19 (fun H locs hG => ?_)
    refine lv_iload_n hx hb d_M_lose_22 rfl (lv_at hl 0 rfl) ?_
    exact z_iret hF hr hlk hG (Eq.symm ((if_neg h5).trans rfl)) (Eq.symm ((if_neg h5).trans rfl)) d_M_lose_23
  ·
    refine lv_iconst (v := (-1)) hx hb d_M_lose_8 z_km1 ?_
    exact z_iret hF hr hlk hG (Eq.symm ((if_pos h5).trans rfl)) (Eq.symm ((if_pos h5).trans rfl)) d_M_lose_9
def f_M_twice (S : z_S) (x0 : Int32) : Int32 := (if (f_M_isLetter S x0) = 0 then (-1) else (if (S.1 21 0 14) = 24 then (-3) else (((g_M_copyLetter S x0 (S.1 21 0 14)).1 21 0 14) + 1)))
def g_M_twice (S : z_S) (x0 : Int32) : z_S := (if (f_M_isLetter S x0) = 0 then S else (if (S.1 21 0 14) = 24 then S else (z_sI (g_M_copyLetter S x0 (S.1 21 0 14)) 21 0 14 (((g_M_copyLetter S x0 (S.1 21 0 14)).1 21 0 14) + 1))))
set_option maxHeartbeats 4000000 in
set_option maxRecDepth 100000 in
theorem c_M_twice (l : Launch) (D : va_G) (C : Nat → ClassId) (ad : Nat → Nat → Nat) (hJ : z_J ad) (S : z_S) (x0 : Int32) (hom : z_Om S) : z_M l y_M_twice b_M_twice 2 (some .int) rm_M_twice D C ad [.ref (ad 21 0), .int x0] S (z_Qi D C ad (f_M_twice S x0) (g_M_twice S x0)) := by
  refine z_enter (by decide) (Nat.le_of_ble_eq_true rfl) hJ ?_
  intro p e s m below meth c ls hF hr hlk hl hG
  obtain ⟨hx, hb, hml, hown, hts⟩ := hF.1
  have hl : lv_has ls 2 [(0, .ref (ad 21 0)), (1, .int x0)] := hl
  refine lv_aload_n hx hb d_M_twice_0 rfl (lv_at hl 0 rfl) ?_
  refine lv_iload_n hx hb d_M_twice_1 rfl (lv_at hl 1 rfl) ?_
  refine kc_M_105 hF (c_M_isLetter l D C ad hF.2.2 _ _ ) hG ⟨Nat.le_of_ble_eq_true rfl, Nat.le_of_ble_eq_true rfl⟩ ⟨Nat.zero_le _, Nat.zero_le _⟩ hl.1 (Nat.le_of_ble_eq_true rfl) d_M_twice_2 (fun H locs hG => ?_)
  refine lv_if_ne (tgt := 10) hx hb d_M_twice_5 rfl (fun h5 => ?_) (fun h5 => ?_)
  ·
    refine lv_aload_n hx hb d_M_twice_10 rfl (lv_at hl 0 rfl) ?_
    refine gf_M_98_21 hF hG (v := (S.1 21 0 14)) rfl d_M_twice_11 ?_
    refine lv_bipush (v := 24) hx hb d_M_twice_14 z_bi24 ?_
    refine lv_icmp_ne (tgt := 22) hx hb d_M_twice_16 rfl (fun h16 => ?_) (fun h16 => ?_)
    ·
      refine lv_aload_n hx hb d_M_twice_22 rfl (lv_at hl 0 rfl) ?_
      refine lv_iload_n hx hb d_M_twice_23 rfl (lv_at hl 1 rfl) ?_
      refine lv_aload_n hx hb d_M_twice_24 rfl (lv_at hl 0 rfl) ?_
      refine gf_M_98_21 hF hG (v := (S.1 21 0 14)) rfl d_M_twice_25 ?_
      refine kc_M_101 hF (c_M_copyLetter l D C ad hF.2.2 _ _ _ (z_mle hom h5) (z_mmy hom)) hG ⟨Nat.le_of_ble_eq_true rfl, Nat.le_of_ble_eq_true rfl⟩ ⟨Nat.zero_le _, Nat.zero_le _⟩ hl.1 (Nat.le_of_ble_eq_true rfl) d_M_twice_28 (fun H locs hG => ?_)
      refine lv_aload_n hx hb d_M_twice_31 rfl (lv_at hl 0 rfl) ?_
      refine lv_dup hx hb d_M_twice_32 rfl ?_
      refine gf_M_98_21 hF hG (v := ((g_M_copyLetter S x0 (S.1 21 0 14)).1 21 0 14)) rfl d_M_twice_33 ?_
      refine lv_iconst (v := 1) hx hb d_M_twice_36 z_k1 ?_
      refine lv_iadd hx hb d_M_twice_37 ?_
      refine pf_M_98_21 hF hG d_M_twice_38 (fun H locs hG => ?_)
      refine lv_aload_n hx hb d_M_twice_41 rfl (lv_at hl 0 rfl) ?_
      refine gf_M_98_21 hF hG (v := (((g_M_copyLetter S x0 (S.1 21 0 14)).1 21 0 14) + 1)) rfl d_M_twice_42 ?_
      exact z_iret hF hr hlk hG (Eq.symm ((if_neg h5).trans ((if_neg h16).trans rfl))) (Eq.symm ((if_neg h5).trans ((if_neg h16).trans rfl))) d_M_twice_45
    ·
      refine lv_bipush (v := (-3)) hx hb d_M_twice_19 z_bim3 ?_
      exact z_iret hF hr hlk hG (Eq.symm ((if_neg h5).trans ((if_pos h16).trans rfl))) (Eq.symm ((if_neg h5).trans ((if_pos h16).trans rfl))) d_M_twice_21
  ·
    refine lv_iconst (v := (-1)) hx hb d_M_twice_8 z_km1 ?_
    exact z_iret hF hr hlk hG (Eq.symm ((if_pos h5).trans rfl)) (Eq.symm ((if_pos h5).trans rfl)) d_M_twice_9
def f_M_letters (S : z_S) : Int32 := (S.1 21 0 14)
set_option maxHeartbeats 4000000 in
set_option maxRecDepth 100000 in
theorem c_M_letters (l : Launch) (D : va_G) (C : Nat → ClassId) (ad : Nat → Nat → Nat) (hJ : z_J ad) (S : z_S)  : z_M l y_M_letters b_M_letters 1 (some .int) rm_M_letters D C ad [.ref (ad 21 0)] S (z_Qi D C ad (f_M_letters S) S) := by
  refine z_enter (by decide) (Nat.le_of_ble_eq_true rfl) hJ ?_
  intro p e s m below meth c ls hF hr hlk hl hG
  obtain ⟨hx, hb, hml, hown, hts⟩ := hF.1
  have hl : lv_has ls 1 [(0, .ref (ad 21 0))] := hl
  refine lv_aload_n hx hb d_M_letters_0 rfl (lv_at hl 0 rfl) ?_
  refine gf_M_98_21 hF hG (v := (S.1 21 0 14)) rfl d_M_letters_1 ?_
  exact z_iret hF hr hlk hG rfl rfl d_M_letters_4
def f_M_letter (S : z_S) (x0 : Int32) (x1 : Int32) : Int32 := (if (f_M_isLetter S x0) = 0 then (-1) else (if x1 < 0 then (-1) else (if x1 ≤ 2 then (if x1 = 0 then (S.1 35 0 x0.toNatClampNeg) else (if x1 = 1 then (S.1 36 0 x0.toNatClampNeg) else (S.1 37 0 x0.toNatClampNeg))) else (-1))))
set_option maxHeartbeats 4000000 in
set_option maxRecDepth 100000 in
theorem c_M_letter (l : Launch) (D : va_G) (C : Nat → ClassId) (ad : Nat → Nat → Nat) (hJ : z_J ad) (S : z_S) (x0 : Int32) (x1 : Int32) (hom : z_Om S) : z_M l y_M_letter b_M_letter 3 (some .int) rm_M_letter D C ad [.ref (ad 21 0), .int x0, .int x1] S (z_Qi D C ad (f_M_letter S x0 x1) S) := by
  refine z_enter (by decide) (Nat.le_of_ble_eq_true rfl) hJ ?_
  intro p e s m below meth c ls hF hr hlk hl hG
  obtain ⟨hx, hb, hml, hown, hts⟩ := hF.1
  have hl : lv_has ls 3 [(0, .ref (ad 21 0)), (1, .int x0), (2, .int x1)] := hl
  refine lv_aload_n hx hb d_M_letter_0 rfl (lv_at hl 0 rfl) ?_
  refine lv_iload_n hx hb d_M_letter_1 rfl (lv_at hl 1 rfl) ?_
  refine kc_M_105 hF (c_M_isLetter l D C ad hF.2.2 _ _ ) hG ⟨Nat.le_of_ble_eq_true rfl, Nat.le_of_ble_eq_true rfl⟩ ⟨Nat.zero_le _, Nat.zero_le _⟩ hl.1 (Nat.le_of_ble_eq_true rfl) d_M_letter_2 (fun H locs hG => ?_)
  refine lv_if_eq (tgt := 17) hx hb d_M_letter_5 rfl (fun h5 => ?_) (fun h5 => ?_)
  ·
    refine lv_iconst (v := (-1)) hx hb d_M_letter_17 z_km1 ?_
    exact z_iret hF hr hlk hG (Eq.symm ((if_pos h5).trans rfl)) rfl d_M_letter_18
  ·
    refine lv_iload_n hx hb d_M_letter_8 rfl (lv_at hl 2 rfl) ?_
    refine lv_if_lt (tgt := 17) hx hb d_M_letter_9 rfl (fun h9 => ?_) (fun h9 => ?_)
    ·
      refine lv_iconst (v := (-1)) hx hb d_M_letter_17 z_km1 ?_
      exact z_iret hF hr hlk hG (Eq.symm ((if_neg h5).trans ((if_pos h9).trans rfl))) rfl d_M_letter_18
    ·
      refine lv_iload_n hx hb d_M_letter_12 rfl (lv_at hl 2 rfl) ?_
      refine lv_iconst (v := 2) hx hb d_M_letter_13 z_k2 ?_
      refine lv_icmp_le (tgt := 19) hx hb d_M_letter_14 rfl (fun h14 => ?_) (fun h14 => ?_)
      ·
        refine lv_iload_n hx hb d_M_letter_19 rfl (lv_at hl 2 rfl) ?_
        refine lv_if_ne (tgt := 32) hx hb d_M_letter_20 rfl (fun h20 => ?_) (fun h20 => ?_)
        ·
          refine lv_iload_n hx hb d_M_letter_32 rfl (lv_at hl 2 rfl) ?_
          refine lv_iconst (v := 1) hx hb d_M_letter_33 z_k1 ?_
          refine lv_icmp_ne (tgt := 46) hx hb d_M_letter_34 rfl (fun h34 => ?_) (fun h34 => ?_)
          ·
            refine lv_aload_n hx hb d_M_letter_46 rfl (lv_at hl 0 rfl) ?_
            refine gf_M_57_21 hF hG d_M_letter_47 ?_
            refine lv_iload_n hx hb d_M_letter_50 rfl (lv_at hl 1 rfl) ?_
            refine z_iald (n := 25) (j := x0.toNatClampNeg) (v := (S.1 37 0 x0.toNatClampNeg)) hF hG z_o37 (z_c37 C ad _ _ _) rfl (z_mle hom h5) rfl d_M_letter_51 ?_
            exact z_iret hF hr hlk hG (Eq.symm ((if_neg h5).trans ((if_neg h9).trans ((if_pos h14).trans ((if_neg h20).trans ((if_neg h34).trans rfl)))))) rfl d_M_letter_52
          ·
            refine lv_aload_n hx hb d_M_letter_37 rfl (lv_at hl 0 rfl) ?_
            refine gf_M_54_21 hF hG d_M_letter_38 ?_
            refine lv_iload_n hx hb d_M_letter_41 rfl (lv_at hl 1 rfl) ?_
            refine z_iald (n := 25) (j := x0.toNatClampNeg) (v := (S.1 36 0 x0.toNatClampNeg)) hF hG z_o36 (z_c36 C ad _ _ _) rfl (z_mle hom h5) rfl d_M_letter_42 ?_
            refine lv_goto (tgt := 52) hx hb d_M_letter_43 rfl ?_
            exact z_iret hF hr hlk hG (Eq.symm ((if_neg h5).trans ((if_neg h9).trans ((if_pos h14).trans ((if_neg h20).trans ((if_pos h34).trans rfl)))))) rfl d_M_letter_52
        ·
          refine lv_aload_n hx hb d_M_letter_23 rfl (lv_at hl 0 rfl) ?_
          refine gf_M_51_21 hF hG d_M_letter_24 ?_
          refine lv_iload_n hx hb d_M_letter_27 rfl (lv_at hl 1 rfl) ?_
          refine z_iald (n := 25) (j := x0.toNatClampNeg) (v := (S.1 35 0 x0.toNatClampNeg)) hF hG z_o35 (z_c35 C ad _ _ _) rfl (z_mle hom h5) rfl d_M_letter_28 ?_
          refine lv_goto (tgt := 52) hx hb d_M_letter_29 rfl ?_
          exact z_iret hF hr hlk hG (Eq.symm ((if_neg h5).trans ((if_neg h9).trans ((if_pos h14).trans ((if_pos h20).trans rfl))))) rfl d_M_letter_52
      ·
        refine lv_iconst (v := (-1)) hx hb d_M_letter_17 z_km1 ?_
        exact z_iret hF hr hlk hG (Eq.symm ((if_neg h5).trans ((if_neg h9).trans ((if_neg h14).trans rfl)))) rfl d_M_letter_18
end
