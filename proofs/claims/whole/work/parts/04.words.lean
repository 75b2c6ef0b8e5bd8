theorem z_intb {w : Cond} {i : Nat} (h : tables_1[i]? = some w) : w ∈ lw_tbl := List.mem_append_right _ (List.mem_of_getElem? h)
theorem z_insel {w : Cond} {i : Nat} (h : (k2_sels lw_privs)[i]? = some w) : w ∈ lw_tbl := List.mem_append_left _ (List.mem_of_getElem? h)
theorem wly_X_0 : Cond.laysFinal R_X R_X "houses" "[LPolledHouses$House;" ∈ z_T := z_inT (z_intb (i := 147) (by decide +kernel)) rfl
theorem wly_X_1 : Cond.laysFinal R_X R_X "blockCounts" "[I" ∈ z_T := z_inT (z_intb (i := 149) (by decide +kernel)) rfl
theorem wly_X_2 : Cond.laysFinal R_X R_X "row" "LPolledHouses$Row;" ∈ z_T := z_inT (z_intb (i := 151) (by decide +kernel)) rfl
theorem wly_X_3 : Cond.laysFinal R_X R_X "places" "[LPolledHouses$Poll;" ∈ z_T := z_inT (z_intb (i := 153) (by decide +kernel)) rfl
theorem wly_X_4 : Cond.laysFinal R_X R_X "results" "[I" ∈ z_T := z_inT (z_intb (i := 155) (by decide +kernel)) rfl
theorem wly_X_5 : Cond.laysFinal R_X R_X "rounds" "LPolledHouses$Rounds;" ∈ z_T := z_inT (z_intb (i := 157) (by decide +kernel)) rfl
theorem wly_X_6 : Cond.lays R_X R_X "pollCount" "I" ∈ z_T := z_inT (z_intb (i := 159) (by decide +kernel)) rfl
theorem wly_X_7 : Cond.lays R_X R_X "disputeCount" "I" ∈ z_T := z_inT (z_intb (i := 161) (by decide +kernel)) rfl
theorem wl_X : ∀ w ∈ u_ws R_X F_X 8, w ∈ z_T := by
  intro w hw
  obtain ⟨k, hk, rfl⟩ := List.mem_map.mp hw
  have hk := List.mem_range.mp hk
  rcases (show k = 0 ∨ k = 1 ∨ k = 2 ∨ k = 3 ∨ k = 4 ∨ k = 5 ∨ k = 6 ∨ k = 7 by omega) with rfl | rfl | rfl | rfl | rfl | rfl | rfl | rfl
  · exact wly_X_0
  · exact wly_X_1
  · exact wly_X_2
  · exact wly_X_3
  · exact wly_X_4
  · exact wly_X_5
  · exact wly_X_6
  · exact wly_X_7
theorem wly_H_0 : Cond.lays R_H R_H "isOpen" "Z" ∈ z_T := z_inT (z_intb (i := 78) (by decide +kernel)) rfl
theorem wly_H_1 : Cond.lays R_H R_H "mendCount" "I" ∈ z_T := z_inT (z_intb (i := 80) (by decide +kernel)) rfl
theorem wly_H_2 : Cond.laysFinal R_H R_H "words" "[I" ∈ z_T := z_inT (z_intb (i := 82) (by decide +kernel)) rfl
theorem wl_H : ∀ w ∈ u_ws R_H F_H 3, w ∈ z_T := by
  intro w hw
  obtain ⟨k, hk, rfl⟩ := List.mem_map.mp hw
  have hk := List.mem_range.mp hk
  rcases (show k = 0 ∨ k = 1 ∨ k = 2 by omega) with rfl | rfl | rfl
  · exact wly_H_0
  · exact wly_H_1
  · exact wly_H_2
theorem wly_A_0 : Cond.laysFinal R_A R_A "isKnown" "[Z" ∈ z_T := z_inT (z_intb (i := 102) (by decide +kernel)) rfl
theorem wly_A_1 : Cond.laysFinal R_A R_A "values" "[J" ∈ z_T := z_inT (z_intb (i := 104) (by decide +kernel)) rfl
theorem wly_A_2 : Cond.lays R_A R_A "count" "I" ∈ z_T := z_inT (z_intb (i := 106) (by decide +kernel)) rfl
theorem wl_A : ∀ w ∈ u_ws R_A F_A 3, w ∈ z_T := by
  intro w hw
  obtain ⟨k, hk, rfl⟩ := List.mem_map.mp hw
  have hk := List.mem_range.mp hk
  rcases (show k = 0 ∨ k = 1 ∨ k = 2 by omega) with rfl | rfl | rfl
  · exact wly_A_0
  · exact wly_A_1
  · exact wly_A_2
theorem wly_P_0 : Cond.lays R_P R_P "number" "I" ∈ z_T := z_inT (z_intb (i := 124) (by decide +kernel)) rfl
theorem wly_P_1 : Cond.lays R_P R_P "deposit" "I" ∈ z_T := z_inT (z_intb (i := 126) (by decide +kernel)) rfl
theorem wly_P_2 : Cond.lays R_P R_P "part" "I" ∈ z_T := z_inT (z_intb (i := 128) (by decide +kernel)) rfl
theorem wly_P_3 : Cond.lays R_P R_P "nonce" "J" ∈ z_T := z_inT (z_intb (i := 130) (by decide +kernel)) rfl
theorem wly_P_4 : Cond.lays R_P R_P "startedIn" "I" ∈ z_T := z_inT (z_intb (i := 132) (by decide +kernel)) rfl
theorem wly_P_5 : Cond.laysFinal R_P R_P "sums" "LPolledHouses$Answers;" ∈ z_T := z_inT (z_intb (i := 134) (by decide +kernel)) rfl
theorem wly_P_6 : Cond.laysFinal R_P R_P "copies" "LPolledHouses$Answers;" ∈ z_T := z_inT (z_intb (i := 136) (by decide +kernel)) rfl
theorem wl_P : ∀ w ∈ u_ws R_P F_P 7, w ∈ z_T := by
  intro w hw
  obtain ⟨k, hk, rfl⟩ := List.mem_map.mp hw
  have hk := List.mem_range.mp hk
  rcases (show k = 0 ∨ k = 1 ∨ k = 2 ∨ k = 3 ∨ k = 4 ∨ k = 5 ∨ k = 6 by omega) with rfl | rfl | rfl | rfl | rfl | rfl | rfl
  · exact wly_P_0
  · exact wly_P_1
  · exact wly_P_2
  · exact wly_P_3
  · exact wly_P_4
  · exact wly_P_5
  · exact wly_P_6
theorem wly_R_0 : Cond.laysFinal R_R R_R "kinds" "[I" ∈ z_T := z_inT (z_intb (i := 35) (by decide +kernel)) rfl
theorem wly_R_1 : Cond.laysFinal R_R R_R "polls" "[I" ∈ z_T := z_inT (z_intb (i := 37) (by decide +kernel)) rfl
theorem wly_R_2 : Cond.laysFinal R_R R_R "houses" "[I" ∈ z_T := z_inT (z_intb (i := 39) (by decide +kernel)) rfl
theorem wly_R_3 : Cond.laysFinal R_R R_R "contents" "[J" ∈ z_T := z_inT (z_intb (i := 41) (by decide +kernel)) rfl
theorem wly_R_4 : Cond.lays R_R R_R "count" "I" ∈ z_T := z_inT (z_intb (i := 43) (by decide +kernel)) rfl
theorem wl_R : ∀ w ∈ u_ws R_R F_R 5, w ∈ z_T := by
  intro w hw
  obtain ⟨k, hk, rfl⟩ := List.mem_map.mp hw
  have hk := List.mem_range.mp hk
  rcases (show k = 0 ∨ k = 1 ∨ k = 2 ∨ k = 3 ∨ k = 4 by omega) with rfl | rfl | rfl | rfl | rfl
  · exact wly_R_0
  · exact wly_R_1
  · exact wly_R_2
  · exact wly_R_3
  · exact wly_R_4
theorem wly_D_0 : Cond.lays R_D R_D "number" "I" ∈ z_T := z_inT (z_intb (i := 61) (by decide +kernel)) rfl
theorem wly_D_1 : Cond.lays R_D R_D "doneCount" "I" ∈ z_T := z_inT (z_intb (i := 63) (by decide +kernel)) rfl
theorem wly_D_2 : Cond.laysFinal R_D R_D "doneIn" "[I" ∈ z_T := z_inT (z_intb (i := 65) (by decide +kernel)) rfl
theorem wl_D : ∀ w ∈ u_ws R_D F_D 3, w ∈ z_T := by
  intro w hw
  obtain ⟨k, hk, rfl⟩ := List.mem_map.mp hw
  have hk := List.mem_range.mp hk
  rcases (show k = 0 ∨ k = 1 ∨ k = 2 by omega) with rfl | rfl | rfl
  · exact wly_D_0
  · exact wly_D_1
  · exact wly_D_2
theorem wly_M_0 : Cond.laysFinal R_M R_M "bytes" "[I" ∈ z_T := z_inT (z_intb (i := 434) (by decide +kernel)) rfl
theorem wly_M_1 : Cond.laysFinal R_M R_M "blocks" "[I" ∈ z_T := z_inT (z_intb (i := 436) (by decide +kernel)) rfl
theorem wly_M_2 : Cond.laysFinal R_M R_M "open" "[Z" ∈ z_T := z_inT (z_intb (i := 438) (by decide +kernel)) rfl
theorem wly_M_3 : Cond.lays R_M R_M "polls" "I" ∈ z_T := z_inT (z_intb (i := 440) (by decide +kernel)) rfl
theorem wly_M_4 : Cond.laysFinal R_M R_M "results" "[I" ∈ z_T := z_inT (z_intb (i := 442) (by decide +kernel)) rfl
theorem wly_M_5 : Cond.laysFinal R_M R_M "numbers" "[I" ∈ z_T := z_inT (z_intb (i := 444) (by decide +kernel)) rfl
theorem wly_M_6 : Cond.laysFinal R_M R_M "deposits" "[I" ∈ z_T := z_inT (z_intb (i := 446) (by decide +kernel)) rfl
theorem wly_M_7 : Cond.laysFinal R_M R_M "partsOf" "[I" ∈ z_T := z_inT (z_intb (i := 448) (by decide +kernel)) rfl
theorem wly_M_8 : Cond.laysFinal R_M R_M "nonces" "[J" ∈ z_T := z_inT (z_intb (i := 450) (by decide +kernel)) rfl
theorem wly_M_9 : Cond.laysFinal R_M R_M "began" "[I" ∈ z_T := z_inT (z_intb (i := 452) (by decide +kernel)) rfl
theorem wly_M_10 : Cond.laysFinal R_M R_M "sumBits" "[I" ∈ z_T := z_inT (z_intb (i := 454) (by decide +kernel)) rfl
theorem wly_M_11 : Cond.laysFinal R_M R_M "copyBits" "[I" ∈ z_T := z_inT (z_intb (i := 456) (by decide +kernel)) rfl
theorem wly_M_12 : Cond.laysFinal R_M R_M "sums" "[J" ∈ z_T := z_inT (z_intb (i := 458) (by decide +kernel)) rfl
theorem wly_M_13 : Cond.laysFinal R_M R_M "copies" "[I" ∈ z_T := z_inT (z_intb (i := 460) (by decide +kernel)) rfl
theorem wly_M_14 : Cond.lays R_M R_M "many" "I" ∈ z_T := z_inT (z_intb (i := 462) (by decide +kernel)) rfl
theorem wly_M_15 : Cond.laysFinal R_M R_M "kinds" "[I" ∈ z_T := z_inT (z_intb (i := 464) (by decide +kernel)) rfl
theorem wly_M_16 : Cond.laysFinal R_M R_M "pollOf" "[I" ∈ z_T := z_inT (z_intb (i := 466) (by decide +kernel)) rfl
theorem wly_M_17 : Cond.laysFinal R_M R_M "houseOf" "[I" ∈ z_T := z_inT (z_intb (i := 468) (by decide +kernel)) rfl
theorem wly_M_18 : Cond.laysFinal R_M R_M "sumOf" "[J" ∈ z_T := z_inT (z_intb (i := 470) (by decide +kernel)) rfl
theorem wly_M_19 : Cond.laysFinal R_M R_M "loads" "[I" ∈ z_T := z_inT (z_intb (i := 472) (by decide +kernel)) rfl
theorem wly_M_20 : Cond.lays R_M R_M "round" "I" ∈ z_T := z_inT (z_intb (i := 474) (by decide +kernel)) rfl
theorem wly_M_21 : Cond.laysFinal R_M R_M "isDone" "[Z" ∈ z_T := z_inT (z_intb (i := 476) (by decide +kernel)) rfl
theorem wly_M_22 : Cond.laysFinal R_M R_M "mended" "[I" ∈ z_T := z_inT (z_intb (i := 478) (by decide +kernel)) rfl
theorem wly_M_23 : Cond.lays R_M R_M "disputed" "I" ∈ z_T := z_inT (z_intb (i := 480) (by decide +kernel)) rfl
theorem wl_M : ∀ w ∈ u_ws R_M F_M 24, w ∈ z_T := by
  intro w hw
  obtain ⟨k, hk, rfl⟩ := List.mem_map.mp hw
  have hk := List.mem_range.mp hk
  rcases (show k = 0 ∨ k = 1 ∨ k = 2 ∨ k = 3 ∨ k = 4 ∨ k = 5 ∨ k = 6 ∨ k = 7 ∨ k = 8 ∨ k = 9 ∨ k = 10 ∨ k = 11 ∨ k = 12 ∨ k = 13 ∨ k = 14 ∨ k = 15 ∨ k = 16 ∨ k = 17 ∨ k = 18 ∨ k = 19 ∨ k = 20 ∨ k = 21 ∨ k = 22 ∨ k = 23 by omega) with rfl | rfl | rfl | rfl | rfl | rfl | rfl | rfl | rfl | rfl | rfl | rfl | rfl | rfl | rfl | rfl | rfl | rfl | rfl | rfl | rfl | rfl | rfl | rfl
  · exact wly_M_0
  · exact wly_M_1
  · exact wly_M_2
  · exact wly_M_3
  · exact wly_M_4
  · exact wly_M_5
  · exact wly_M_6
  · exact wly_M_7
  · exact wly_M_8
  · exact wly_M_9
  · exact wly_M_10
  · exact wly_M_11
  · exact wly_M_12
  · exact wly_M_13
  · exact wly_M_14
  · exact wly_M_15
  · exact wly_M_16
  · exact wly_M_17
  · exact wly_M_18
  · exact wly_M_19
  · exact wly_M_20
  · exact wly_M_21
  · exact wly_M_22
  · exact wly_M_23
theorem wf_H_19 : Cond.fieldLink R_H 19 R_H "words" "[I" ∈ z_T := z_inT (z_intb (i := 77) (by decide +kernel)) rfl
theorem wm_H_27 : Cond.methodLink R_H 27 y_H_place ∈ z_T := z_inT (z_intb (i := 183) (by decide +kernel)) rfl
theorem wi_H_place : Cond.static y_H_place ∈ z_T := z_inT (z_intb (i := 184) (by decide +kernel)) rfl
set_option maxRecDepth 20000 in
theorem wc_H_place : Cond.code y_H_place b_H_place 2 (some .int) ∈ z_T := z_inT (z_intb (i := 185) rfl) rfl
theorem wn_H : Cond.initialized R_H ∈ z_T := z_inT (z_intb (i := 4) (by decide +kernel)) rfl
theorem wm_H_31 : Cond.methodLink R_H 31 y_H_shift ∈ z_T := z_inT (z_intb (i := 186) (by decide +kernel)) rfl
theorem wi_H_shift : Cond.static y_H_shift ∈ z_T := z_inT (z_intb (i := 187) (by decide +kernel)) rfl
set_option maxRecDepth 20000 in
theorem wc_H_shift : Cond.code y_H_shift b_H_shift 1 (some .int) ∈ z_T := z_inT (z_intb (i := 188) rfl) rfl
theorem wf_H_15 : Cond.fieldLink R_H 15 R_H "mendCount" "I" ∈ z_T := z_inT (z_intb (i := 75) (by decide +kernel)) rfl
theorem wk_H_35 : Cond.constantLong R_H 35 4294967295 ∈ z_T := z_inT (z_intb (i := 321) (by decide +kernel)) rfl
theorem wk_H_37 : Cond.constantLong R_H 37 1099511628211 ∈ z_T := z_inT (z_intb (i := 224) (by decide +kernel)) rfl
theorem wm_H_39 : Cond.methodLink R_H 39 y_H_byteOf ∈ z_T := z_inT (z_intb (i := 225) (by decide +kernel)) rfl
theorem wi_H_byteOf : Cond.instanceMethod y_H_byteOf ∈ z_T := z_inT (z_intb (i := 205) (by decide +kernel)) rfl
set_option maxRecDepth 20000 in
theorem wc_H_byteOf : Cond.code y_H_byteOf b_H_byteOf 3 (some .int) ∈ z_T := z_inT (z_intb (i := 207) rfl) rfl
theorem ws_H_byteOf : Cond.selects R_H y_H_byteOf y_H_byteOf ∈ z_T := z_inT (z_intb (i := 206) (by decide +kernel)) rfl
theorem wm_H_23 : Cond.methodLink R_H 23 y_H_flip ∈ z_T := z_inT (z_intb (i := 179) (by decide +kernel)) rfl
theorem wi_H_flip : Cond.instanceMethod y_H_flip ∈ z_T := z_inT (z_intb (i := 180) (by decide +kernel)) rfl
set_option maxRecDepth 20000 in
theorem wc_H_flip : Cond.code y_H_flip b_H_flip 4 none ∈ z_T := z_inT (z_intb (i := 182) rfl) rfl
theorem ws_H_flip : Cond.selects R_H y_H_flip y_H_flip ∈ z_T := z_inT (z_intb (i := 181) (by decide +kernel)) rfl
theorem wf_A_9 : Cond.fieldLink R_A 9 R_A "isKnown" "[Z" ∈ z_T := z_inT (z_intb (i := 96) (by decide +kernel)) rfl
theorem wf_A_19 : Cond.fieldLink R_A 19 R_A "count" "I" ∈ z_T := z_inT (z_intb (i := 101) (by decide +kernel)) rfl
theorem wf_A_15 : Cond.fieldLink R_A 15 R_A "values" "[J" ∈ z_T := z_inT (z_intb (i := 98) (by decide +kernel)) rfl
theorem wf_R_25 : Cond.fieldLink R_R 25 R_R "count" "I" ∈ z_T := z_inT (z_intb (i := 33) (by decide +kernel)) rfl
theorem wf_R_9 : Cond.fieldLink R_R 9 R_R "kinds" "[I" ∈ z_T := z_inT (z_intb (i := 25) (by decide +kernel)) rfl
theorem wf_R_15 : Cond.fieldLink R_R 15 R_R "polls" "[I" ∈ z_T := z_inT (z_intb (i := 27) (by decide +kernel)) rfl
theorem wf_R_18 : Cond.fieldLink R_R 18 R_R "houses" "[I" ∈ z_T := z_inT (z_intb (i := 29) (by decide +kernel)) rfl
theorem wf_R_21 : Cond.fieldLink R_R 21 R_R "contents" "[J" ∈ z_T := z_inT (z_intb (i := 31) (by decide +kernel)) rfl
theorem wf_D_9 : Cond.fieldLink R_D 9 R_D "number" "I" ∈ z_T := z_inT (z_intb (i := 56) (by decide +kernel)) rfl
theorem wf_D_18 : Cond.fieldLink R_D 18 R_D "doneIn" "[I" ∈ z_T := z_inT (z_intb (i := 60) (by decide +kernel)) rfl
theorem wf_D_15 : Cond.fieldLink R_D 15 R_D "doneCount" "I" ∈ z_T := z_inT (z_intb (i := 58) (by decide +kernel)) rfl
theorem wf_P_9 : Cond.fieldLink R_P 9 R_P "number" "I" ∈ z_T := z_inT (z_intb (i := 110) (by decide +kernel)) rfl
theorem wf_P_15 : Cond.fieldLink R_P 15 R_P "deposit" "I" ∈ z_T := z_inT (z_intb (i := 112) (by decide +kernel)) rfl
theorem wf_P_18 : Cond.fieldLink R_P 18 R_P "part" "I" ∈ z_T := z_inT (z_intb (i := 114) (by decide +kernel)) rfl
theorem wf_P_21 : Cond.fieldLink R_P 21 R_P "nonce" "J" ∈ z_T := z_inT (z_intb (i := 116) (by decide +kernel)) rfl
theorem wf_P_25 : Cond.fieldLink R_P 25 R_P "startedIn" "I" ∈ z_T := z_inT (z_intb (i := 118) (by decide +kernel)) rfl
theorem wf_P_31 : Cond.fieldLink R_P 31 R_P "sums" "LPolledHouses$Answers;" ∈ z_T := z_inT (z_intb (i := 120) (by decide +kernel)) rfl
theorem wm_P_38 : Cond.methodLink R_P 38 y_A_forget ∈ z_T := z_inT (z_intb (i := 238) (by decide +kernel)) rfl
theorem wi_A_forget : Cond.instanceMethod y_A_forget ∈ z_T := z_inT (z_intb (i := 239) (by decide +kernel)) rfl
set_option maxRecDepth 20000 in
theorem wc_A_forget : Cond.code y_A_forget b_A_forget 2 none ∈ z_T := z_inT (z_intb (i := 241) rfl) rfl
theorem wn_A : Cond.initialized R_A ∈ z_T := z_inT (z_intb (i := 6) (by decide +kernel)) rfl
theorem ws_A_forget : Cond.selects R_A y_A_forget y_A_forget ∈ z_T := z_inT (z_intb (i := 240) (by decide +kernel)) rfl
theorem wf_P_35 : Cond.fieldLink R_P 35 R_P "copies" "LPolledHouses$Answers;" ∈ z_T := z_inT (z_intb (i := 122) (by decide +kernel)) rfl
theorem wf_P_41 : Cond.fieldLink R_P 41 R_A "values" "[J" ∈ z_T := z_inT (z_intb (i := 99) (by decide +kernel)) rfl
theorem wm_P_45 : Cond.methodLink R_P 45 y_P_copiedBlock ∈ z_T := z_inT (z_intb (i := 334) (by decide +kernel)) rfl
theorem wi_P_copiedBlock : Cond.instanceMethod y_P_copiedBlock ∈ z_T := z_inT (z_intb (i := 335) (by decide +kernel)) rfl
set_option maxRecDepth 20000 in
theorem wc_P_copiedBlock : Cond.code y_P_copiedBlock b_P_copiedBlock 3 (some .int) ∈ z_T := z_inT (z_intb (i := 337) rfl) rfl
theorem wn_P : Cond.initialized R_P ∈ z_T := z_inT (z_intb (i := 5) (by decide +kernel)) rfl
theorem ws_P_copiedBlock : Cond.selects R_P y_P_copiedBlock y_P_copiedBlock ∈ z_T := z_inT (z_intb (i := 336) (by decide +kernel)) rfl
theorem wm_X_51 : Cond.methodLink R_X 51 y_X_isDeposit ∈ z_T := z_inT (z_intb (i := 168) (by decide +kernel)) rfl
theorem wi_X_isDeposit : Cond.static y_X_isDeposit ∈ z_T := z_inT (z_intb (i := 169) (by decide +kernel)) rfl
set_option maxRecDepth 20000 in
theorem wc_X_isDeposit : Cond.code y_X_isDeposit b_X_isDeposit 1 (some .boolean) ∈ z_T := z_inT (z_intb (i := 170) rfl) rfl
theorem wn_X : Cond.initialized R_X ∈ z_T := z_inT (z_intb (i := 1) (by decide +kernel)) rfl
theorem wf_X_15 : Cond.fieldLink R_X 15 R_X "blockCounts" "[I" ∈ z_T := z_inT (z_intb (i := 140) (by decide +kernel)) rfl
theorem wf_X_42 : Cond.fieldLink R_X 42 R_X "pollCount" "I" ∈ z_T := z_inT (z_intb (i := 145) (by decide +kernel)) rfl
theorem wf_X_11 : Cond.fieldLink R_X 11 R_X "houses" "[LPolledHouses$House;" ∈ z_T := z_inT (z_intb (i := 139) (by decide +kernel)) rfl
theorem wf_X_140 : Cond.fieldLink R_X 140 R_H "isOpen" "Z" ∈ z_T := z_inT (z_intb (i := 74) (by decide +kernel)) rfl
theorem wf_X_28 : Cond.fieldLink R_X 28 R_X "places" "[LPolledHouses$Poll;" ∈ z_T := z_inT (z_intb (i := 142) (by decide +kernel)) rfl
theorem wf_X_155 : Cond.fieldLink R_X 155 R_P "number" "I" ∈ z_T := z_inT (z_intb (i := 111) (by decide +kernel)) rfl
theorem wm_X_99 : Cond.methodLink R_X 99 y_X_isPoll ∈ z_T := z_inT (z_intb (i := 258) (by decide +kernel)) rfl
theorem wi_X_isPoll : Cond.instanceMethod y_X_isPoll ∈ z_T := z_inT (z_intb (i := 260) (by decide +kernel)) rfl
set_option maxRecDepth 20000 in
theorem wc_X_isPoll : Cond.code y_X_isPoll b_X_isPoll 2 (some .boolean) ∈ z_T := z_inT (z_intb (i := 261) rfl) rfl
theorem ws_X_isPoll : Cond.selects R_X y_X_isPoll y_X_isPoll ∈ z_T := z_inT (z_insel (i := 4) (by decide +kernel)) rfl
theorem wm_X_147 : Cond.methodLink R_X 147 Lib.Math.min.name ∈ z_T := z_inT (z_intb (i := 306) (by decide +kernel)) rfl
theorem wi_Math_min : Cond.static Lib.Math.min.name ∈ z_T := z_inT (z_intb (i := 307) (by decide +kernel)) rfl
theorem wn_Math : Cond.initialized "java/lang/Math" ∈ z_T := z_inT (z_intb (i := 8) (by decide +kernel)) rfl
set_option maxRecDepth 20000 in
theorem wc_Math_min : Cond.code Lib.Math.min.name Lib.Math.min.code 2 (some .int) ∈ z_T := z_inT (z_intb (i := 308) rfl) rfl
theorem wf_X_156 : Cond.fieldLink R_X 156 R_P "sums" "LPolledHouses$Answers;" ∈ z_T := z_inT (z_intb (i := 121) (by decide +kernel)) rfl
theorem wm_X_160 : Cond.methodLink R_X 160 y_A_isComplete ∈ z_T := z_inT (z_intb (i := 246) (by decide +kernel)) rfl
theorem wi_A_isComplete : Cond.instanceMethod y_A_isComplete ∈ z_T := z_inT (z_intb (i := 247) (by decide +kernel)) rfl
set_option maxRecDepth 20000 in
theorem wc_A_isComplete : Cond.code y_A_isComplete b_A_isComplete 1 (some .boolean) ∈ z_T := z_inT (z_intb (i := 249) rfl) rfl
theorem ws_A_isComplete : Cond.selects R_A y_A_isComplete y_A_isComplete ∈ z_T := z_inT (z_intb (i := 248) (by decide +kernel)) rfl
theorem wf_X_168 : Cond.fieldLink R_X 168 R_A "isKnown" "[Z" ∈ z_T := z_inT (z_intb (i := 97) (by decide +kernel)) rfl
theorem wf_X_22 : Cond.fieldLink R_X 22 R_X "row" "LPolledHouses$Row;" ∈ z_T := z_inT (z_intb (i := 141) (by decide +kernel)) rfl
theorem wm_X_132 : Cond.methodLink R_X 132 y_R_add ∈ z_T := z_inT (z_intb (i := 250) (by decide +kernel)) rfl
theorem wi_R_add : Cond.instanceMethod y_R_add ∈ z_T := z_inT (z_intb (i := 251) (by decide +kernel)) rfl
set_option maxRecDepth 20000 in
theorem wc_R_add : Cond.code y_R_add b_R_add 6 none ∈ z_T := z_inT (z_intb (i := 253) rfl) rfl
theorem wn_R : Cond.initialized R_R ∈ z_T := z_inT (z_intb (i := 2) (by decide +kernel)) rfl
theorem ws_R_add : Cond.selects R_R y_R_add y_R_add ∈ z_T := z_inT (z_intb (i := 252) (by decide +kernel)) rfl
theorem wf_X_165 : Cond.fieldLink R_X 165 R_P "copies" "LPolledHouses$Answers;" ∈ z_T := z_inT (z_intb (i := 123) (by decide +kernel)) rfl
theorem wf_X_185 : Cond.fieldLink R_X 185 R_P "deposit" "I" ∈ z_T := z_inT (z_intb (i := 113) (by decide +kernel)) rfl
theorem wf_X_188 : Cond.fieldLink R_X 188 R_P "part" "I" ∈ z_T := z_inT (z_intb (i := 115) (by decide +kernel)) rfl
theorem wf_X_191 : Cond.fieldLink R_X 191 R_P "nonce" "J" ∈ z_T := z_inT (z_intb (i := 117) (by decide +kernel)) rfl
theorem wm_X_80 : Cond.methodLink R_X 80 y_H_sumOfPart ∈ z_T := z_inT (z_intb (i := 220) (by decide +kernel)) rfl
theorem wi_H_sumOfPart : Cond.instanceMethod y_H_sumOfPart ∈ z_T := z_inT (z_intb (i := 221) (by decide +kernel)) rfl
set_option maxRecDepth 20000 in
theorem wc_H_sumOfPart : Cond.code y_H_sumOfPart b_H_sumOfPart 10 (some .long) ∈ z_T := z_inT (z_intb (i := 223) rfl) rfl
theorem ws_H_sumOfPart : Cond.selects R_H y_H_sumOfPart y_H_sumOfPart ∈ z_T := z_inT (z_intb (i := 222) (by decide +kernel)) rfl
theorem wm_X_195 : Cond.methodLink R_X 195 y_H_bytesOfPart ∈ z_T := z_inT (z_intb (i := 317) (by decide +kernel)) rfl
theorem wi_H_bytesOfPart : Cond.instanceMethod y_H_bytesOfPart ∈ z_T := z_inT (z_intb (i := 318) (by decide +kernel)) rfl
set_option maxRecDepth 20000 in
theorem wc_H_bytesOfPart : Cond.code y_H_bytesOfPart b_H_bytesOfPart 7 (some .long) ∈ z_T := z_inT (z_intb (i := 320) rfl) rfl
theorem ws_H_bytesOfPart : Cond.selects R_H y_H_bytesOfPart y_H_bytesOfPart ∈ z_T := z_inT (z_intb (i := 319) (by decide +kernel)) rfl
theorem wf_X_32 : Cond.fieldLink R_X 32 R_X "results" "[I" ∈ z_T := z_inT (z_intb (i := 143) (by decide +kernel)) rfl
theorem wf_X_38 : Cond.fieldLink R_X 38 R_X "rounds" "LPolledHouses$Rounds;" ∈ z_T := z_inT (z_intb (i := 144) (by decide +kernel)) rfl
theorem wf_X_228 : Cond.fieldLink R_X 228 R_P "startedIn" "I" ∈ z_T := z_inT (z_intb (i := 119) (by decide +kernel)) rfl
theorem wm_X_231 : Cond.methodLink R_X 231 y_D_finishPart ∈ z_T := z_inT (z_intb (i := 298) (by decide +kernel)) rfl
theorem wi_D_finishPart : Cond.instanceMethod y_D_finishPart ∈ z_T := z_inT (z_intb (i := 299) (by decide +kernel)) rfl
set_option maxRecDepth 20000 in
theorem wc_D_finishPart : Cond.code y_D_finishPart b_D_finishPart 5 none ∈ z_T := z_inT (z_intb (i := 301) rfl) rfl
theorem wn_D : Cond.initialized R_D ∈ z_T := z_inT (z_intb (i := 3) (by decide +kernel)) rfl
theorem ws_D_finishPart : Cond.selects R_D y_D_finishPart y_D_finishPart ∈ z_T := z_inT (z_intb (i := 300) (by decide +kernel)) rfl
theorem wm_X_234 : Cond.methodLink R_X 234 y_X_parts ∈ z_T := z_inT (z_intb (i := 302) (by decide +kernel)) rfl
theorem wi_X_parts : Cond.instanceMethod y_X_parts ∈ z_T := z_inT (z_intb (i := 303) (by decide +kernel)) rfl
set_option maxRecDepth 20000 in
theorem wc_X_parts : Cond.code y_X_parts b_X_parts 3 (some .int) ∈ z_T := z_inT (z_intb (i := 305) rfl) rfl
theorem ws_X_parts : Cond.selects R_X y_X_parts y_X_parts ∈ z_T := z_inT (z_intb (i := 304) (by decide +kernel)) rfl
theorem wm_X_238 : Cond.methodLink R_X 238 y_D_endIfAllDone ∈ z_T := z_inT (z_intb (i := 309) (by decide +kernel)) rfl
theorem wi_D_endIfAllDone : Cond.instanceMethod y_D_endIfAllDone ∈ z_T := z_inT (z_intb (i := 310) (by decide +kernel)) rfl
set_option maxRecDepth 20000 in
theorem wc_D_endIfAllDone : Cond.code y_D_endIfAllDone b_D_endIfAllDone 2 none ∈ z_T := z_inT (z_intb (i := 312) rfl) rfl
theorem ws_D_endIfAllDone : Cond.selects R_D y_D_endIfAllDone y_D_endIfAllDone ∈ z_T := z_inT (z_intb (i := 311) (by decide +kernel)) rfl
theorem wf_X_46 : Cond.fieldLink R_X 46 R_X "disputeCount" "I" ∈ z_T := z_inT (z_intb (i := 146) (by decide +kernel)) rfl
theorem wf_X_219 : Cond.fieldLink R_X 219 R_A "values" "[J" ∈ z_T := z_inT (z_intb (i := 100) (by decide +kernel)) rfl
theorem wm_X_222 : Cond.methodLink R_X 222 y_P_copiedBlock ∈ z_T := z_inT (z_intb (i := 346) (by decide +kernel)) rfl
theorem wm_X_225 : Cond.methodLink R_X 225 y_H_mend ∈ z_T := z_inT (z_intb (i := 347) (by decide +kernel)) rfl
theorem wi_H_mend : Cond.instanceMethod y_H_mend ∈ z_T := z_inT (z_intb (i := 348) (by decide +kernel)) rfl
set_option maxRecDepth 20000 in
theorem wc_H_mend : Cond.code y_H_mend b_H_mend 4 none ∈ z_T := z_inT (z_intb (i := 350) rfl) rfl
theorem ws_H_mend : Cond.selects R_H y_H_mend y_H_mend ∈ z_T := z_inT (z_intb (i := 349) (by decide +kernel)) rfl
theorem wm_X_209 : Cond.methodLink R_X 209 y_P_copiesAllDiffer ∈ z_T := z_inT (z_intb (i := 330) (by decide +kernel)) rfl
theorem wi_P_copiesAllDiffer : Cond.instanceMethod y_P_copiesAllDiffer ∈ z_T := z_inT (z_intb (i := 331) (by decide +kernel)) rfl
set_option maxRecDepth 20000 in
theorem wc_P_copiesAllDiffer : Cond.code y_P_copiesAllDiffer b_P_copiesAllDiffer 5 (some .boolean) ∈ z_T := z_inT (z_intb (i := 333) rfl) rfl
theorem ws_P_copiesAllDiffer : Cond.selects R_P y_P_copiesAllDiffer y_P_copiesAllDiffer ∈ z_T := z_inT (z_intb (i := 332) (by decide +kernel)) rfl
theorem wm_X_55 : Cond.methodLink R_X 55 y_X_allHousesOpen ∈ z_T := z_inT (z_intb (i := 171) (by decide +kernel)) rfl
theorem wi_X_allHousesOpen : Cond.instanceMethod y_X_allHousesOpen ∈ z_T := z_inT (z_intb (i := 173) (by decide +kernel)) rfl
set_option maxRecDepth 20000 in
theorem wc_X_allHousesOpen : Cond.code y_X_allHousesOpen b_X_allHousesOpen 2 (some .boolean) ∈ z_T := z_inT (z_intb (i := 174) rfl) rfl
theorem ws_X_allHousesOpen : Cond.selects R_X y_X_allHousesOpen y_X_allHousesOpen ∈ z_T := z_inT (z_insel (i := 0) (by decide +kernel)) rfl
theorem wm_X_212 : Cond.methodLink R_X 212 y_X_areCopiesCurrent ∈ z_T := z_inT (z_intb (i := 338) (by decide +kernel)) rfl
theorem wi_X_areCopiesCurrent : Cond.instanceMethod y_X_areCopiesCurrent ∈ z_T := z_inT (z_intb (i := 340) (by decide +kernel)) rfl
set_option maxRecDepth 20000 in
theorem wc_X_areCopiesCurrent : Cond.code y_X_areCopiesCurrent b_X_areCopiesCurrent 3 (some .boolean) ∈ z_T := z_inT (z_intb (i := 341) rfl) rfl
theorem ws_X_areCopiesCurrent : Cond.selects R_X y_X_areCopiesCurrent y_X_areCopiesCurrent ∈ z_T := z_inT (z_insel (i := 13) (by decide +kernel)) rfl
theorem wm_X_216 : Cond.methodLink R_X 216 y_X_mendBlock ∈ z_T := z_inT (z_intb (i := 342) (by decide +kernel)) rfl
theorem wi_X_mendBlock : Cond.instanceMethod y_X_mendBlock ∈ z_T := z_inT (z_intb (i := 344) (by decide +kernel)) rfl
set_option maxRecDepth 20000 in
theorem wc_X_mendBlock : Cond.code y_X_mendBlock b_X_mendBlock 7 none ∈ z_T := z_inT (z_intb (i := 345) rfl) rfl
theorem ws_X_mendBlock : Cond.selects R_X y_X_mendBlock y_X_mendBlock ∈ z_T := z_inT (z_insel (i := 14) (by decide +kernel)) rfl
theorem wm_X_199 : Cond.methodLink R_X 199 y_A_take ∈ z_T := z_inT (z_intb (i := 286) (by decide +kernel)) rfl
theorem wi_A_take : Cond.instanceMethod y_A_take ∈ z_T := z_inT (z_intb (i := 287) (by decide +kernel)) rfl
set_option maxRecDepth 20000 in
theorem wc_A_take : Cond.code y_A_take b_A_take 4 (some .boolean) ∈ z_T := z_inT (z_intb (i := 289) rfl) rfl
theorem ws_A_take : Cond.selects R_A y_A_take y_A_take ∈ z_T := z_inT (z_intb (i := 288) (by decide +kernel)) rfl
theorem wm_X_203 : Cond.methodLink R_X 203 y_A_areAlike ∈ z_T := z_inT (z_intb (i := 290) (by decide +kernel)) rfl
theorem wi_A_areAlike : Cond.instanceMethod y_A_areAlike ∈ z_T := z_inT (z_intb (i := 291) (by decide +kernel)) rfl
set_option maxRecDepth 20000 in
theorem wc_A_areAlike : Cond.code y_A_areAlike b_A_areAlike 1 (some .boolean) ∈ z_T := z_inT (z_intb (i := 293) rfl) rfl
theorem ws_A_areAlike : Cond.selects R_A y_A_areAlike y_A_areAlike ∈ z_T := z_inT (z_intb (i := 292) (by decide +kernel)) rfl
theorem wm_X_95 : Cond.methodLink R_X 95 y_X_sendToAwaited ∈ z_T := z_inT (z_intb (i := 242) (by decide +kernel)) rfl
theorem wi_X_sendToAwaited : Cond.instanceMethod y_X_sendToAwaited ∈ z_T := z_inT (z_intb (i := 244) (by decide +kernel)) rfl
set_option maxRecDepth 20000 in
theorem wc_X_sendToAwaited : Cond.code y_X_sendToAwaited b_X_sendToAwaited 7 (some .int) ∈ z_T := z_inT (z_intb (i := 245) rfl) rfl
theorem ws_X_sendToAwaited : Cond.selects R_X y_X_sendToAwaited y_X_sendToAwaited ∈ z_T := z_inT (z_insel (i := 3) (by decide +kernel)) rfl
theorem wm_X_136 : Cond.methodLink R_X 136 y_X_finish ∈ z_T := z_inT (z_intb (i := 294) (by decide +kernel)) rfl
theorem wi_X_finish : Cond.instanceMethod y_X_finish ∈ z_T := z_inT (z_intb (i := 296) (by decide +kernel)) rfl
set_option maxRecDepth 20000 in
theorem wc_X_finish : Cond.code y_X_finish b_X_finish 3 none ∈ z_T := z_inT (z_intb (i := 297) rfl) rfl
theorem ws_X_finish : Cond.selects R_X y_X_finish y_X_finish ∈ z_T := z_inT (z_insel (i := 9) (by decide +kernel)) rfl
theorem wm_X_206 : Cond.methodLink R_X 206 y_X_decide ∈ z_T := z_inT (z_intb (i := 326) (by decide +kernel)) rfl
theorem wi_X_decide : Cond.instanceMethod y_X_decide ∈ z_T := z_inT (z_intb (i := 328) (by decide +kernel)) rfl
set_option maxRecDepth 20000 in
theorem wc_X_decide : Cond.code y_X_decide b_X_decide 2 (some .int) ∈ z_T := z_inT (z_intb (i := 329) rfl) rfl
theorem ws_X_decide : Cond.selects R_X y_X_decide y_X_decide ∈ z_T := z_inT (z_insel (i := 12) (by decide +kernel)) rfl
theorem wm_X_172 : Cond.methodLink R_X 172 y_X_answerAsk ∈ z_T := z_inT (z_intb (i := 278) (by decide +kernel)) rfl
theorem wi_X_answerAsk : Cond.instanceMethod y_X_answerAsk ∈ z_T := z_inT (z_intb (i := 280) (by decide +kernel)) rfl
set_option maxRecDepth 20000 in
theorem wc_X_answerAsk : Cond.code y_X_answerAsk b_X_answerAsk 6 none ∈ z_T := z_inT (z_intb (i := 281) rfl) rfl
theorem ws_X_answerAsk : Cond.selects R_X y_X_answerAsk y_X_answerAsk ∈ z_T := z_inT (z_insel (i := 7) (by decide +kernel)) rfl
theorem wm_X_175 : Cond.methodLink R_X 175 y_X_takeSum ∈ z_T := z_inT (z_intb (i := 282) (by decide +kernel)) rfl
theorem wi_X_takeSum : Cond.instanceMethod y_X_takeSum ∈ z_T := z_inT (z_intb (i := 284) (by decide +kernel)) rfl
set_option maxRecDepth 20000 in
theorem wc_X_takeSum : Cond.code y_X_takeSum b_X_takeSum 5 none ∈ z_T := z_inT (z_intb (i := 285) rfl) rfl
theorem ws_X_takeSum : Cond.selects R_X y_X_takeSum y_X_takeSum ∈ z_T := z_inT (z_insel (i := 8) (by decide +kernel)) rfl
theorem wm_X_179 : Cond.methodLink R_X 179 y_X_answerFetch ∈ z_T := z_inT (z_intb (i := 313) (by decide +kernel)) rfl
theorem wi_X_answerFetch : Cond.instanceMethod y_X_answerFetch ∈ z_T := z_inT (z_intb (i := 315) (by decide +kernel)) rfl
set_option maxRecDepth 20000 in
theorem wc_X_answerFetch : Cond.code y_X_answerFetch b_X_answerFetch 5 none ∈ z_T := z_inT (z_intb (i := 316) rfl) rfl
theorem ws_X_answerFetch : Cond.selects R_X y_X_answerFetch y_X_answerFetch ∈ z_T := z_inT (z_insel (i := 10) (by decide +kernel)) rfl
theorem wm_X_182 : Cond.methodLink R_X 182 y_X_takeCopy ∈ z_T := z_inT (z_intb (i := 322) (by decide +kernel)) rfl
theorem wi_X_takeCopy : Cond.instanceMethod y_X_takeCopy ∈ z_T := z_inT (z_intb (i := 324) (by decide +kernel)) rfl
set_option maxRecDepth 20000 in
theorem wc_X_takeCopy : Cond.code y_X_takeCopy b_X_takeCopy 5 none ∈ z_T := z_inT (z_intb (i := 325) rfl) rfl
theorem ws_X_takeCopy : Cond.selects R_X y_X_takeCopy y_X_takeCopy ∈ z_T := z_inT (z_insel (i := 11) (by decide +kernel)) rfl
theorem wm_X_59 : Cond.methodLink R_X 59 y_H_receive ∈ z_T := z_inT (z_intb (i := 175) (by decide +kernel)) rfl
theorem wi_H_receive : Cond.instanceMethod y_H_receive ∈ z_T := z_inT (z_intb (i := 176) (by decide +kernel)) rfl
set_option maxRecDepth 20000 in
theorem wc_H_receive : Cond.code y_H_receive b_H_receive 5 none ∈ z_T := z_inT (z_intb (i := 178) rfl) rfl
theorem ws_H_receive : Cond.selects R_H y_H_receive y_H_receive ∈ z_T := z_inT (z_intb (i := 177) (by decide +kernel)) rfl
theorem wm_X_63 : Cond.methodLink R_X 63 y_X_isHouse ∈ z_T := z_inT (z_intb (i := 197) (by decide +kernel)) rfl
theorem wi_X_isHouse : Cond.static y_X_isHouse ∈ z_T := z_inT (z_intb (i := 198) (by decide +kernel)) rfl
set_option maxRecDepth 20000 in
theorem wc_X_isHouse : Cond.code y_X_isHouse b_X_isHouse 1 (some .boolean) ∈ z_T := z_inT (z_intb (i := 199) rfl) rfl
theorem wm_X_66 : Cond.methodLink R_X 66 y_X_isByte ∈ z_T := z_inT (z_intb (i := 200) (by decide +kernel)) rfl
theorem wi_X_isByte : Cond.instanceMethod y_X_isByte ∈ z_T := z_inT (z_intb (i := 202) (by decide +kernel)) rfl
set_option maxRecDepth 20000 in
theorem wc_X_isByte : Cond.code y_X_isByte b_X_isByte 3 (some .boolean) ∈ z_T := z_inT (z_intb (i := 203) rfl) rfl
theorem ws_X_isByte : Cond.selects R_X y_X_isByte y_X_isByte ∈ z_T := z_inT (z_insel (i := 1) (by decide +kernel)) rfl
theorem wm_X_70 : Cond.methodLink R_X 70 y_H_byteOf ∈ z_T := z_inT (z_intb (i := 204) (by decide +kernel)) rfl
theorem wm_X_74 : Cond.methodLink R_X 74 y_H_flip ∈ z_T := z_inT (z_intb (i := 212) (by decide +kernel)) rfl
theorem wm_X_77 : Cond.methodLink R_X 77 y_X_isPart ∈ z_T := z_inT (z_intb (i := 217) (by decide +kernel)) rfl
theorem wi_X_isPart : Cond.static y_X_isPart ∈ z_T := z_inT (z_intb (i := 218) (by decide +kernel)) rfl
set_option maxRecDepth 20000 in
theorem wc_X_isPart : Cond.code y_X_isPart b_X_isPart 1 (some .boolean) ∈ z_T := z_inT (z_intb (i := 219) rfl) rfl
theorem wm_X_84 : Cond.methodLink R_X 84 y_X_freePlace ∈ z_T := z_inT (z_intb (i := 230) (by decide +kernel)) rfl
theorem wi_X_freePlace : Cond.instanceMethod y_X_freePlace ∈ z_T := z_inT (z_intb (i := 232) (by decide +kernel)) rfl
set_option maxRecDepth 20000 in
theorem wc_X_freePlace : Cond.code y_X_freePlace b_X_freePlace 2 (some (.object R_P)) ∈ z_T := z_inT (z_intb (i := 233) rfl) rfl
theorem ws_X_freePlace : Cond.selects R_X y_X_freePlace y_X_freePlace ∈ z_T := z_inT (z_insel (i := 2) (by decide +kernel)) rfl
theorem wf_X_88 : Cond.fieldLink R_X 88 R_D "number" "I" ∈ z_T := z_inT (z_intb (i := 57) (by decide +kernel)) rfl
theorem wm_X_91 : Cond.methodLink R_X 91 y_P_begin ∈ z_T := z_inT (z_intb (i := 234) (by decide +kernel)) rfl
theorem wi_P_begin : Cond.instanceMethod y_P_begin ∈ z_T := z_inT (z_intb (i := 235) (by decide +kernel)) rfl
set_option maxRecDepth 20000 in
theorem wc_P_begin : Cond.code y_P_begin b_P_begin 7 none ∈ z_T := z_inT (z_intb (i := 237) rfl) rfl
theorem ws_P_begin : Cond.selects R_P y_P_begin y_P_begin ∈ z_T := z_inT (z_intb (i := 236) (by decide +kernel)) rfl
theorem wm_X_102 : Cond.methodLink R_X 102 y_X_runningPoll ∈ z_T := z_inT (z_intb (i := 262) (by decide +kernel)) rfl
theorem wi_X_runningPoll : Cond.instanceMethod y_X_runningPoll ∈ z_T := z_inT (z_intb (i := 264) (by decide +kernel)) rfl
set_option maxRecDepth 20000 in
theorem wc_X_runningPoll : Cond.code y_X_runningPoll b_X_runningPoll 3 (some (.object R_P)) ∈ z_T := z_inT (z_intb (i := 265) rfl) rfl
theorem ws_X_runningPoll : Cond.selects R_X y_X_runningPoll y_X_runningPoll ∈ z_T := z_inT (z_insel (i := 5) (by decide +kernel)) rfl
theorem wf_X_106 : Cond.fieldLink R_X 106 R_R "count" "I" ∈ z_T := z_inT (z_intb (i := 34) (by decide +kernel)) rfl
theorem wf_X_109 : Cond.fieldLink R_X 109 R_R "kinds" "[I" ∈ z_T := z_inT (z_intb (i := 26) (by decide +kernel)) rfl
theorem wf_X_112 : Cond.fieldLink R_X 112 R_R "houses" "[I" ∈ z_T := z_inT (z_intb (i := 30) (by decide +kernel)) rfl
theorem wf_X_114 : Cond.fieldLink R_X 114 R_R "contents" "[J" ∈ z_T := z_inT (z_intb (i := 32) (by decide +kernel)) rfl
theorem wf_X_118 : Cond.fieldLink R_X 118 R_R "polls" "[I" ∈ z_T := z_inT (z_intb (i := 28) (by decide +kernel)) rfl
theorem wm_X_121 : Cond.methodLink R_X 121 y_R_remove ∈ z_T := z_inT (z_intb (i := 270) (by decide +kernel)) rfl
theorem wi_R_remove : Cond.instanceMethod y_R_remove ∈ z_T := z_inT (z_intb (i := 271) (by decide +kernel)) rfl
set_option maxRecDepth 20000 in
theorem wc_R_remove : Cond.code y_R_remove b_R_remove 3 none ∈ z_T := z_inT (z_intb (i := 273) rfl) rfl
theorem ws_R_remove : Cond.selects R_R y_R_remove y_R_remove ∈ z_T := z_inT (z_intb (i := 272) (by decide +kernel)) rfl
theorem wm_X_125 : Cond.methodLink R_X 125 y_X_arrive ∈ z_T := z_inT (z_intb (i := 274) (by decide +kernel)) rfl
theorem wi_X_arrive : Cond.instanceMethod y_X_arrive ∈ z_T := z_inT (z_intb (i := 276) (by decide +kernel)) rfl
set_option maxRecDepth 20000 in
theorem wc_X_arrive : Cond.code y_X_arrive b_X_arrive 6 none ∈ z_T := z_inT (z_intb (i := 277) rfl) rfl
theorem ws_X_arrive : Cond.selects R_X y_X_arrive y_X_arrive ∈ z_T := z_inT (z_insel (i := 6) (by decide +kernel)) rfl
theorem wm_X_129 : Cond.methodLink R_X 129 y_R_has ∈ z_T := z_inT (z_intb (i := 355) (by decide +kernel)) rfl
theorem wi_R_has : Cond.instanceMethod y_R_has ∈ z_T := z_inT (z_intb (i := 356) (by decide +kernel)) rfl
set_option maxRecDepth 20000 in
theorem wc_R_has : Cond.code y_R_has b_R_has 2 (some .boolean) ∈ z_T := z_inT (z_intb (i := 358) rfl) rfl
theorem ws_R_has : Cond.selects R_R y_R_has y_R_has ∈ z_T := z_inT (z_intb (i := 357) (by decide +kernel)) rfl
theorem wf_X_144 : Cond.fieldLink R_X 144 R_D "doneCount" "I" ∈ z_T := z_inT (z_intb (i := 59) (by decide +kernel)) rfl
theorem wf_X_152 : Cond.fieldLink R_X 152 R_H "mendCount" "I" ∈ z_T := z_inT (z_intb (i := 76) (by decide +kernel)) rfl
theorem wf_M_13 : Cond.fieldLink R_M 13 R_M "blocks" "[I" ∈ z_T := z_inT (z_intb (i := 411) (by decide +kernel)) rfl
theorem wm_M_76 : Cond.methodLink R_M 76 y_M_isHouse ∈ z_T := z_inT (z_intb (i := 503) (by decide +kernel)) rfl
theorem wi_M_isHouse : Cond.static y_M_isHouse ∈ z_T := z_inT (z_intb (i := 504) (by decide +kernel)) rfl
set_option maxRecDepth 20000 in
theorem wc_M_isHouse : Cond.code y_M_isHouse b_M_isHouse 1 (some .boolean) ∈ z_T := z_inT (z_intb (i := 505) rfl) rfl
theorem wn_M : Cond.initialized R_M ∈ z_T := z_inT (z_intb (i := 7) (by decide +kernel)) rfl
theorem wm_M_80 : Cond.methodLink R_M 80 y_M_blocksOf ∈ z_T := z_inT (z_intb (i := 491) (by decide +kernel)) rfl
theorem wi_M_blocksOf : Cond.instanceMethod y_M_blocksOf ∈ z_T := z_inT (z_intb (i := 493) (by decide +kernel)) rfl
set_option maxRecDepth 20000 in
theorem wc_M_blocksOf : Cond.code y_M_blocksOf b_M_blocksOf 2 (some .int) ∈ z_T := z_inT (z_intb (i := 494) rfl) rfl
theorem ws_M_blocksOf : Cond.selects R_M y_M_blocksOf y_M_blocksOf ∈ z_T := z_inT (z_insel (i := 15) (by decide +kernel)) rfl
theorem wm_M_84 : Cond.methodLink R_M 84 y_M_isByte ∈ z_T := z_inT (z_intb (i := 499) (by decide +kernel)) rfl
theorem wi_M_isByte : Cond.instanceMethod y_M_isByte ∈ z_T := z_inT (z_intb (i := 501) (by decide +kernel)) rfl
set_option maxRecDepth 20000 in
theorem wc_M_isByte : Cond.code y_M_isByte b_M_isByte 4 (some .boolean) ∈ z_T := z_inT (z_intb (i := 502) rfl) rfl
theorem ws_M_isByte : Cond.selects R_M y_M_isByte y_M_isByte ∈ z_T := z_inT (z_insel (i := 16) (by decide +kernel)) rfl
theorem wf_M_7 : Cond.fieldLink R_M 7 R_M "bytes" "[I" ∈ z_T := z_inT (z_intb (i := 410) (by decide +kernel)) rfl
theorem wk_M_88 : Cond.constantLong R_M 88 1099511628211 ∈ z_T := z_inT (z_intb (i := 521) (by decide +kernel)) rfl
theorem wm_M_90 : Cond.methodLink R_M 90 y_M_sizeOf ∈ z_T := z_inT (z_intb (i := 514) (by decide +kernel)) rfl
theorem wi_M_sizeOf : Cond.instanceMethod y_M_sizeOf ∈ z_T := z_inT (z_intb (i := 516) (by decide +kernel)) rfl
set_option maxRecDepth 20000 in
theorem wc_M_sizeOf : Cond.code y_M_sizeOf b_M_sizeOf 3 (some .int) ∈ z_T := z_inT (z_intb (i := 517) rfl) rfl
theorem ws_M_sizeOf : Cond.selects R_M y_M_sizeOf y_M_sizeOf ∈ z_T := z_inT (z_insel (i := 17) (by decide +kernel)) rfl
theorem wm_M_94 : Cond.methodLink R_M 94 y_M_mix ∈ z_T := z_inT (z_intb (i := 518) (by decide +kernel)) rfl
theorem wi_M_mix : Cond.static y_M_mix ∈ z_T := z_inT (z_intb (i := 519) (by decide +kernel)) rfl
set_option maxRecDepth 20000 in
theorem wc_M_mix : Cond.code y_M_mix b_M_mix 3 (some .long) ∈ z_T := z_inT (z_intb (i := 520) rfl) rfl
theorem wf_M_16 : Cond.fieldLink R_M 16 R_M "open" "[Z" ∈ z_T := z_inT (z_intb (i := 412) (by decide +kernel)) rfl
theorem wf_M_98 : Cond.fieldLink R_M 98 R_M "many" "I" ∈ z_T := z_inT (z_intb (i := 424) (by decide +kernel)) rfl
theorem wf_M_51 : Cond.fieldLink R_M 51 R_M "kinds" "[I" ∈ z_T := z_inT (z_intb (i := 425) (by decide +kernel)) rfl
theorem wf_M_54 : Cond.fieldLink R_M 54 R_M "pollOf" "[I" ∈ z_T := z_inT (z_intb (i := 426) (by decide +kernel)) rfl
theorem wf_M_57 : Cond.fieldLink R_M 57 R_M "houseOf" "[I" ∈ z_T := z_inT (z_intb (i := 427) (by decide +kernel)) rfl
theorem wf_M_60 : Cond.fieldLink R_M 60 R_M "sumOf" "[J" ∈ z_T := z_inT (z_intb (i := 428) (by decide +kernel)) rfl
theorem wf_M_63 : Cond.fieldLink R_M 63 R_M "loads" "[I" ∈ z_T := z_inT (z_intb (i := 429) (by decide +kernel)) rfl
theorem wm_M_101 : Cond.methodLink R_M 101 y_M_copyLetter ∈ z_T := z_inT (z_intb (i := 534) (by decide +kernel)) rfl
theorem wi_M_copyLetter : Cond.instanceMethod y_M_copyLetter ∈ z_T := z_inT (z_intb (i := 536) (by decide +kernel)) rfl
set_option maxRecDepth 20000 in
theorem wc_M_copyLetter : Cond.code y_M_copyLetter b_M_copyLetter 4 none ∈ z_T := z_inT (z_intb (i := 537) rfl) rfl
theorem ws_M_copyLetter : Cond.selects R_M y_M_copyLetter y_M_copyLetter ∈ z_T := z_inT (z_insel (i := 20) (by decide +kernel)) rfl
theorem wm_M_105 : Cond.methodLink R_M 105 y_M_isLetter ∈ z_T := z_inT (z_intb (i := 526) (by decide +kernel)) rfl
theorem wi_M_isLetter : Cond.instanceMethod y_M_isLetter ∈ z_T := z_inT (z_intb (i := 528) (by decide +kernel)) rfl
set_option maxRecDepth 20000 in
theorem wc_M_isLetter : Cond.code y_M_isLetter b_M_isLetter 2 (some .boolean) ∈ z_T := z_inT (z_intb (i := 529) rfl) rfl
theorem ws_M_isLetter : Cond.selects R_M y_M_isLetter y_M_isLetter ∈ z_T := z_inT (z_insel (i := 18) (by decide +kernel)) rfl
theorem wm_M_108 : Cond.methodLink R_M 108 y_M_leave ∈ z_T := z_inT (z_intb (i := 530) (by decide +kernel)) rfl
theorem wi_M_leave : Cond.instanceMethod y_M_leave ∈ z_T := z_inT (z_intb (i := 532) (by decide +kernel)) rfl
set_option maxRecDepth 20000 in
theorem wc_M_leave : Cond.code y_M_leave b_M_leave 3 none ∈ z_T := z_inT (z_intb (i := 533) rfl) rfl
theorem ws_M_leave : Cond.selects R_M y_M_leave y_M_leave ∈ z_T := z_inT (z_insel (i := 19) (by decide +kernel)) rfl
theorem wf_M_23 : Cond.fieldLink R_M 23 R_M "numbers" "[I" ∈ z_T := z_inT (z_intb (i := 415) (by decide +kernel)) rfl
theorem wf_M_112 : Cond.fieldLink R_M 112 R_M "polls" "I" ∈ z_T := z_inT (z_intb (i := 413) (by decide +kernel)) rfl
theorem wf_M_26 : Cond.fieldLink R_M 26 R_M "deposits" "[I" ∈ z_T := z_inT (z_intb (i := 416) (by decide +kernel)) rfl
theorem wf_M_29 : Cond.fieldLink R_M 29 R_M "partsOf" "[I" ∈ z_T := z_inT (z_intb (i := 417) (by decide +kernel)) rfl
theorem wf_M_32 : Cond.fieldLink R_M 32 R_M "nonces" "[J" ∈ z_T := z_inT (z_intb (i := 418) (by decide +kernel)) rfl
theorem wf_M_36 : Cond.fieldLink R_M 36 R_M "began" "[I" ∈ z_T := z_inT (z_intb (i := 419) (by decide +kernel)) rfl
theorem wf_M_66 : Cond.fieldLink R_M 66 R_M "round" "I" ∈ z_T := z_inT (z_intb (i := 430) (by decide +kernel)) rfl
theorem wf_M_39 : Cond.fieldLink R_M 39 R_M "sumBits" "[I" ∈ z_T := z_inT (z_intb (i := 420) (by decide +kernel)) rfl
theorem wf_M_42 : Cond.fieldLink R_M 42 R_M "copyBits" "[I" ∈ z_T := z_inT (z_intb (i := 421) (by decide +kernel)) rfl
theorem wf_M_20 : Cond.fieldLink R_M 20 R_M "results" "[I" ∈ z_T := z_inT (z_intb (i := 414) (by decide +kernel)) rfl
theorem wm_M_115 : Cond.methodLink R_M 115 y_M_come ∈ z_T := z_inT (z_intb (i := 554) (by decide +kernel)) rfl
theorem wi_M_come : Cond.instanceMethod y_M_come ∈ z_T := z_inT (z_intb (i := 556) (by decide +kernel)) rfl
set_option maxRecDepth 20000 in
theorem wc_M_come : Cond.code y_M_come b_M_come 5 (some .int) ∈ z_T := z_inT (z_intb (i := 557) rfl) rfl
theorem ws_M_come : Cond.selects R_M y_M_come y_M_come ∈ z_T := z_inT (z_insel (i := 21) (by decide +kernel)) rfl
theorem wm_M_119 : Cond.methodLink R_M 119 y_M_placeOf ∈ z_T := z_inT (z_intb (i := 562) (by decide +kernel)) rfl
theorem wi_M_placeOf : Cond.instanceMethod y_M_placeOf ∈ z_T := z_inT (z_intb (i := 564) (by decide +kernel)) rfl
set_option maxRecDepth 20000 in
theorem wc_M_placeOf : Cond.code y_M_placeOf b_M_placeOf 4 (some .int) ∈ z_T := z_inT (z_intb (i := 565) rfl) rfl
theorem ws_M_placeOf : Cond.selects R_M y_M_placeOf y_M_placeOf ∈ z_T := z_inT (z_insel (i := 22) (by decide +kernel)) rfl
theorem wf_M_70 : Cond.fieldLink R_M 70 R_M "isDone" "[Z" ∈ z_T := z_inT (z_intb (i := 431) (by decide +kernel)) rfl
theorem wf_M_122 : Cond.fieldLink R_M 122 R_M "disputed" "I" ∈ z_T := z_inT (z_intb (i := 433) (by decide +kernel)) rfl
theorem wm_M_125 : Cond.methodLink R_M 125 y_M_count ∈ z_T := z_inT (z_intb (i := 578) (by decide +kernel)) rfl
theorem wi_M_count : Cond.instanceMethod y_M_count ∈ z_T := z_inT (z_intb (i := 580) (by decide +kernel)) rfl
set_option maxRecDepth 20000 in
theorem wc_M_count : Cond.code y_M_count b_M_count 4 (some .int) ∈ z_T := z_inT (z_intb (i := 581) rfl) rfl
theorem ws_M_count : Cond.selects R_M y_M_count y_M_count ∈ z_T := z_inT (z_insel (i := 25) (by decide +kernel)) rfl
theorem wf_M_45 : Cond.fieldLink R_M 45 R_M "sums" "[J" ∈ z_T := z_inT (z_intb (i := 422) (by decide +kernel)) rfl
theorem wm_M_129 : Cond.methodLink R_M 129 y_M_end ∈ z_T := z_inT (z_intb (i := 574) (by decide +kernel)) rfl
theorem wi_M_end : Cond.instanceMethod y_M_end ∈ z_T := z_inT (z_intb (i := 576) (by decide +kernel)) rfl
set_option maxRecDepth 20000 in
theorem wc_M_end : Cond.code y_M_end b_M_end 4 none ∈ z_T := z_inT (z_intb (i := 577) rfl) rfl
theorem ws_M_end : Cond.selects R_M y_M_end y_M_end ∈ z_T := z_inT (z_insel (i := 24) (by decide +kernel)) rfl
theorem wf_M_48 : Cond.fieldLink R_M 48 R_M "copies" "[I" ∈ z_T := z_inT (z_intb (i := 423) (by decide +kernel)) rfl
theorem wm_M_132 : Cond.methodLink R_M 132 y_M_byteAt ∈ z_T := z_inT (z_intb (i := 598) (by decide +kernel)) rfl
theorem wi_M_byteAt : Cond.instanceMethod y_M_byteAt ∈ z_T := z_inT (z_intb (i := 600) (by decide +kernel)) rfl
set_option maxRecDepth 20000 in
theorem wc_M_byteAt : Cond.code y_M_byteAt b_M_byteAt 4 (some .int) ∈ z_T := z_inT (z_intb (i := 601) rfl) rfl
theorem ws_M_byteAt : Cond.selects R_M y_M_byteAt y_M_byteAt ∈ z_T := z_inT (z_insel (i := 30) (by decide +kernel)) rfl
theorem wf_M_73 : Cond.fieldLink R_M 73 R_M "mended" "[I" ∈ z_T := z_inT (z_intb (i := 432) (by decide +kernel)) rfl
theorem wm_M_135 : Cond.methodLink R_M 135 y_M_alike ∈ z_T := z_inT (z_intb (i := 590) (by decide +kernel)) rfl
theorem wi_M_alike : Cond.instanceMethod y_M_alike ∈ z_T := z_inT (z_intb (i := 592) (by decide +kernel)) rfl
set_option maxRecDepth 20000 in
theorem wc_M_alike : Cond.code y_M_alike b_M_alike 7 (some .boolean) ∈ z_T := z_inT (z_intb (i := 593) rfl) rfl
theorem ws_M_alike : Cond.selects R_M y_M_alike y_M_alike ∈ z_T := z_inT (z_insel (i := 28) (by decide +kernel)) rfl
theorem wm_M_139 : Cond.methodLink R_M 139 y_M_isAsCopied ∈ z_T := z_inT (z_intb (i := 594) (by decide +kernel)) rfl
theorem wi_M_isAsCopied : Cond.instanceMethod y_M_isAsCopied ∈ z_T := z_inT (z_intb (i := 596) (by decide +kernel)) rfl
set_option maxRecDepth 20000 in
theorem wc_M_isAsCopied : Cond.code y_M_isAsCopied b_M_isAsCopied 6 (some .boolean) ∈ z_T := z_inT (z_intb (i := 597) rfl) rfl
theorem ws_M_isAsCopied : Cond.selects R_M y_M_isAsCopied y_M_isAsCopied ∈ z_T := z_inT (z_insel (i := 29) (by decide +kernel)) rfl
theorem wm_M_142 : Cond.methodLink R_M 142 y_M_mend ∈ z_T := z_inT (z_intb (i := 602) (by decide +kernel)) rfl
theorem wi_M_mend : Cond.instanceMethod y_M_mend ∈ z_T := z_inT (z_intb (i := 604) (by decide +kernel)) rfl
set_option maxRecDepth 20000 in
theorem wc_M_mend : Cond.code y_M_mend b_M_mend 6 none ∈ z_T := z_inT (z_intb (i := 605) rfl) rfl
theorem ws_M_mend : Cond.selects R_M y_M_mend y_M_mend ∈ z_T := z_inT (z_insel (i := 31) (by decide +kernel)) rfl
theorem wm_M_146 : Cond.methodLink R_M 146 y_M_decide ∈ z_T := z_inT (z_intb (i := 586) (by decide +kernel)) rfl
theorem wi_M_decide : Cond.instanceMethod y_M_decide ∈ z_T := z_inT (z_intb (i := 588) (by decide +kernel)) rfl
set_option maxRecDepth 20000 in
theorem wc_M_decide : Cond.code y_M_decide b_M_decide 8 none ∈ z_T := z_inT (z_intb (i := 589) rfl) rfl
theorem ws_M_decide : Cond.selects R_M y_M_decide y_M_decide ∈ z_T := z_inT (z_insel (i := 27) (by decide +kernel)) rfl
theorem wm_M_149 : Cond.methodLink R_M 149 y_M_sum ∈ z_T := z_inT (z_intb (i := 610) (by decide +kernel)) rfl
theorem wi_M_sum : Cond.instanceMethod y_M_sum ∈ z_T := z_inT (z_intb (i := 511) (by decide +kernel)) rfl
set_option maxRecDepth 20000 in
theorem wc_M_sum : Cond.code y_M_sum b_M_sum 11 (some .long) ∈ z_T := z_inT (z_intb (i := 513) rfl) rfl
theorem ws_M_sum : Cond.selects R_M y_M_sum y_M_sum ∈ z_T := z_inT (z_intb (i := 512) (by decide +kernel)) rfl
theorem wm_M_160 : Cond.methodLink R_M 160 y_M_answer ∈ z_T := z_inT (z_intb (i := 606) (by decide +kernel)) rfl
theorem wi_M_answer : Cond.instanceMethod y_M_answer ∈ z_T := z_inT (z_intb (i := 608) (by decide +kernel)) rfl
set_option maxRecDepth 20000 in
theorem wc_M_answer : Cond.code y_M_answer b_M_answer 7 none ∈ z_T := z_inT (z_intb (i := 609) rfl) rfl
theorem ws_M_answer : Cond.selects R_M y_M_answer y_M_answer ∈ z_T := z_inT (z_insel (i := 32) (by decide +kernel)) rfl
theorem wm_M_157 : Cond.methodLink R_M 157 y_M_takeCopy ∈ z_T := z_inT (z_intb (i := 582) (by decide +kernel)) rfl
theorem wi_M_takeCopy : Cond.instanceMethod y_M_takeCopy ∈ z_T := z_inT (z_intb (i := 584) (by decide +kernel)) rfl
set_option maxRecDepth 20000 in
theorem wc_M_takeCopy : Cond.code y_M_takeCopy b_M_takeCopy 4 none ∈ z_T := z_inT (z_intb (i := 585) rfl) rfl
theorem ws_M_takeCopy : Cond.selects R_M y_M_takeCopy y_M_takeCopy ∈ z_T := z_inT (z_insel (i := 26) (by decide +kernel)) rfl
theorem wm_M_153 : Cond.methodLink R_M 153 y_M_takeSum ∈ z_T := z_inT (z_intb (i := 570) (by decide +kernel)) rfl
theorem wi_M_takeSum : Cond.instanceMethod y_M_takeSum ∈ z_T := z_inT (z_intb (i := 572) (by decide +kernel)) rfl
set_option maxRecDepth 20000 in
theorem wc_M_takeSum : Cond.code y_M_takeSum b_M_takeSum 6 none ∈ z_T := z_inT (z_intb (i := 573) rfl) rfl
theorem ws_M_takeSum : Cond.selects R_M y_M_takeSum y_M_takeSum ∈ z_T := z_inT (z_insel (i := 23) (by decide +kernel)) rfl
