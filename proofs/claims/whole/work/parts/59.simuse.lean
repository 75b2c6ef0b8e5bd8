theorem so_deposit {n : Nat} {S : z_S} (h : Rl n S) (x0 : Int32) (x1 : Int32) (x2 : Int32) : z_Om (g_X_deposit S x0 x1 x2) := (h.2.congr z_eX.rf (fX_deposit (S := S))).om
theorem si_deposit {n : Nat} {S : z_S} (h : Rl n S) (hn : n < 512) (x0 : Int32) (x1 : Int32) (x2 : Int32) : (f_X_deposit S x0 x1) = (f_M_deposit (g_X_deposit S x0 x1 x2) x0 x1) ∧ Rl (n + 1) (g_M_deposit (g_X_deposit S x0 x1 x2) x0 x1 x2) :=
  have h2 := sm_deposit (h.2.congr z_eX.rf (fX_deposit (S := S))) hn x0 x1 x2
  ⟨h2.1, by omega, h2.2.congr (fM_deposit (S := (g_X_deposit S x0 x1 x2))) z_eM.rf⟩
theorem so_blocks {n : Nat} {S : z_S} (h : Rl n S) (x0 : Int32) : z_Om S := (h.2.congr z_eX.rf z_eM.rf).om
theorem si_blocks {n : Nat} {S : z_S} (h : Rl n S) (hn : n < 512) (x0 : Int32) : (f_X_blocks S x0) = (f_M_blocks S x0) ∧ Rl (n + 1) S :=
  have h2 := sm_blocks (h.2.congr z_eX.rf z_eM.rf) hn x0
  ⟨h2.1, by omega, h2.2.congr z_eX.rf z_eM.rf⟩
theorem so_at {n : Nat} {S : z_S} (h : Rl n S) (x0 : Int32) (x1 : Int32) (x2 : Int32) : z_Om S := (h.2.congr z_eX.rf z_eM.rf).om
theorem si_at {n : Nat} {S : z_S} (h : Rl n S) (hn : n < 512) (x0 : Int32) (x1 : Int32) (x2 : Int32) : (f_X_at S x0 x1 x2) = (f_M_at S x0 x1 x2) ∧ Rl (n + 1) S :=
  have h2 := sm_at (h.2.congr z_eX.rf z_eM.rf) hn x0 x1 x2
  ⟨h2.1, by omega, h2.2.congr z_eX.rf z_eM.rf⟩
theorem so_damage {n : Nat} {S : z_S} (h : Rl n S) (x0 : Int32) (x1 : Int32) (x2 : Int32) (x3 : Int32) : z_Om (g_X_damage S x0 x1 x2 x3) := (h.2.congr z_eX.rf (fX_damage (S := S))).om
theorem si_damage {n : Nat} {S : z_S} (h : Rl n S) (hn : n < 512) (x0 : Int32) (x1 : Int32) (x2 : Int32) (x3 : Int32) : (f_X_damage S x0 x1 x2 x3) = (f_M_damage (g_X_damage S x0 x1 x2 x3) x0 x1 x2 x3) ∧ Rl (n + 1) (g_M_damage (g_X_damage S x0 x1 x2 x3) x0 x1 x2 x3) :=
  have h2 := sm_damage (h.2.congr z_eX.rf (fX_damage (S := S))) hn x0 x1 x2 x3
  ⟨h2.1, by omega, h2.2.congr (fM_damage (S := (g_X_damage S x0 x1 x2 x3))) z_eM.rf⟩
theorem so_sum {n : Nat} {S : z_S} (h : Rl n S) (x0 : Int32) (x1 : Int32) (x2 : Int32) (x3 : Int64) : z_Om S := (h.2.congr z_eX.rf z_eM.rf).om
theorem si_sum {n : Nat} {S : z_S} (h : Rl n S) (hn : n < 512) (x0 : Int32) (x1 : Int32) (x2 : Int32) (x3 : Int64) : (f_X_sum S x0 x1 x2 x3) = (f_M_sum S x0 x1 x2 x3) ∧ Rl (n + 1) S :=
  have h2 := sm_sum (h.2.congr z_eX.rf z_eM.rf) hn x0 x1 x2 x3
  ⟨h2.1, by omega, h2.2.congr z_eX.rf z_eM.rf⟩
theorem so_poll {n : Nat} {S : z_S} (h : Rl n S) (x0 : Int32) (x1 : Int32) (x2 : Int64) : z_Om (g_X_poll S x0 x1 x2) := (h.2.congr z_eX.rf (fX_poll (S := S))).om
theorem si_poll {n : Nat} {S : z_S} (h : Rl n S) (hn : n < 512) (x0 : Int32) (x1 : Int32) (x2 : Int64) : (f_X_poll S x0 x1 x2) = (f_M_poll (g_X_poll S x0 x1 x2) x0 x1 x2) ∧ Rl (n + 1) (g_M_poll (g_X_poll S x0 x1 x2) x0 x1 x2) :=
  have h2 := sm_poll (h.2.congr z_eX.rf (fX_poll (S := S))) hn x0 x1 x2
  ⟨h2.1, by omega, h2.2.congr (fM_poll (S := (g_X_poll S x0 x1 x2))) z_eM.rf⟩
theorem so_again {n : Nat} {S : z_S} (h : Rl n S) (x0 : Int32) : z_Om (g_X_again S x0) := (h.2.congr z_eX.rf (fX_again (S := S))).om
theorem si_again {n : Nat} {S : z_S} (h : Rl n S) (hn : n < 512) (x0 : Int32) : (f_X_again S x0) = (f_M_again (g_X_again S x0) x0) ∧ Rl (n + 1) (g_M_again (g_X_again S x0) x0) :=
  have h2 := sm_again (h.2.congr z_eX.rf (fX_again (S := S))) hn x0
  ⟨h2.1, by omega, h2.2.congr (fM_again (S := (g_X_again S x0))) z_eM.rf⟩
theorem so_step {n : Nat} {S : z_S} (h : Rl n S)  : z_Om (g_X_step S) := (h.2.congr z_eX.rf (fX_step (S := S))).om
theorem si_step {n : Nat} {S : z_S} (h : Rl n S) (hn : n < 512)  : (f_X_step S) = (f_M_step (g_X_step S)) ∧ Rl (n + 1) (g_M_step (g_X_step S)) :=
  have h2 := sm_step (h.2.congr z_eX.rf (fX_step (S := S))) hn 
  ⟨h2.1, by omega, h2.2.congr (fM_step (S := (g_X_step S))) z_eM.rf⟩
theorem so_lose {n : Nat} {S : z_S} (h : Rl n S) (x0 : Int32) : z_Om (g_X_lose S x0) := (h.2.congr z_eX.rf (fX_lose (S := S))).om
theorem si_lose {n : Nat} {S : z_S} (h : Rl n S) (hn : n < 512) (x0 : Int32) : (f_X_lose S x0) = (f_M_lose (g_X_lose S x0) x0) ∧ Rl (n + 1) (g_M_lose (g_X_lose S x0) x0) :=
  have h2 := sm_lose (h.2.congr z_eX.rf (fX_lose (S := S))) hn x0
  ⟨h2.1, by omega, h2.2.congr (fM_lose (S := (g_X_lose S x0))) z_eM.rf⟩
theorem so_twice {n : Nat} {S : z_S} (h : Rl n S) (x0 : Int32) : z_Om (g_X_twice S x0) := (h.2.congr z_eX.rf (fX_twice (S := S))).om
theorem si_twice {n : Nat} {S : z_S} (h : Rl n S) (hn : n < 512) (x0 : Int32) : (f_X_twice S x0) = (f_M_twice (g_X_twice S x0) x0) ∧ Rl (n + 1) (g_M_twice (g_X_twice S x0) x0) :=
  have h2 := sm_twice (h.2.congr z_eX.rf (fX_twice (S := S))) hn x0
  ⟨h2.1, by omega, h2.2.congr (fM_twice (S := (g_X_twice S x0))) z_eM.rf⟩
theorem so_letters {n : Nat} {S : z_S} (h : Rl n S)  : z_Om S := (h.2.congr z_eX.rf z_eM.rf).om
theorem si_letters {n : Nat} {S : z_S} (h : Rl n S) (hn : n < 512)  : (f_X_letters S) = (f_M_letters S) ∧ Rl (n + 1) S :=
  have h2 := sm_letters (h.2.congr z_eX.rf z_eM.rf) hn 
  ⟨h2.1, by omega, h2.2.congr z_eX.rf z_eM.rf⟩
theorem so_letter {n : Nat} {S : z_S} (h : Rl n S) (x0 : Int32) (x1 : Int32) : z_Om S := (h.2.congr z_eX.rf z_eM.rf).om
theorem si_letter {n : Nat} {S : z_S} (h : Rl n S) (hn : n < 512) (x0 : Int32) (x1 : Int32) : (f_X_letter S x0 x1) = (f_M_letter S x0 x1) ∧ Rl (n + 1) S :=
  have h2 := sm_letter (h.2.congr z_eX.rf z_eM.rf) hn x0 x1
  ⟨h2.1, by omega, h2.2.congr z_eX.rf z_eM.rf⟩
theorem so_giveUp {n : Nat} {S : z_S} (h : Rl n S) (x0 : Int32) : z_Om (g_X_giveUp S x0) := (h.2.congr z_eX.rf (fX_giveUp (S := S))).om
theorem si_giveUp {n : Nat} {S : z_S} (h : Rl n S) (hn : n < 512) (x0 : Int32) : (f_X_giveUp S x0) = (f_M_giveUp (g_X_giveUp S x0) x0) ∧ Rl (n + 1) (g_M_giveUp (g_X_giveUp S x0) x0) :=
  have h2 := sm_giveUp (h.2.congr z_eX.rf (fX_giveUp (S := S))) hn x0
  ⟨h2.1, by omega, h2.2.congr (fM_giveUp (S := (g_X_giveUp S x0))) z_eM.rf⟩
theorem so_result {n : Nat} {S : z_S} (h : Rl n S) (x0 : Int32) : z_Om S := (h.2.congr z_eX.rf z_eM.rf).om
theorem si_result {n : Nat} {S : z_S} (h : Rl n S) (hn : n < 512) (x0 : Int32) : (f_X_result S x0) = (f_M_result S x0) ∧ Rl (n + 1) S :=
  have h2 := sm_result (h.2.congr z_eX.rf z_eM.rf) hn x0
  ⟨h2.1, by omega, h2.2.congr z_eX.rf z_eM.rf⟩
theorem so_close {n : Nat} {S : z_S} (h : Rl n S) (x0 : Int32) : z_Om (g_X_close S x0) := (h.2.congr z_eX.rf (fX_close (S := S))).om
theorem si_close {n : Nat} {S : z_S} (h : Rl n S) (hn : n < 512) (x0 : Int32) : (f_X_close S x0) = (f_M_close (g_X_close S x0) x0) ∧ Rl (n + 1) (g_M_close (g_X_close S x0) x0) :=
  have h2 := sm_close (h.2.congr z_eX.rf (fX_close (S := S))) hn x0
  ⟨h2.1, by omega, h2.2.congr (fM_close (S := (g_X_close S x0))) z_eM.rf⟩
theorem so_open {n : Nat} {S : z_S} (h : Rl n S) (x0 : Int32) : z_Om (g_X_open S x0) := (h.2.congr z_eX.rf (fX_open (S := S))).om
theorem si_open {n : Nat} {S : z_S} (h : Rl n S) (hn : n < 512) (x0 : Int32) : (f_X_open S x0) = (f_M_open (g_X_open S x0) x0) ∧ Rl (n + 1) (g_M_open (g_X_open S x0) x0) :=
  have h2 := sm_open (h.2.congr z_eX.rf (fX_open (S := S))) hn x0
  ⟨h2.1, by omega, h2.2.congr (fM_open (S := (g_X_open S x0))) z_eM.rf⟩
theorem so_round {n : Nat} {S : z_S} (h : Rl n S)  : z_Om S := (h.2.congr z_eX.rf z_eM.rf).om
theorem si_round {n : Nat} {S : z_S} (h : Rl n S) (hn : n < 512)  : (f_X_round S) = (f_M_round S) ∧ Rl (n + 1) S :=
  have h2 := sm_round (h.2.congr z_eX.rf z_eM.rf) hn 
  ⟨h2.1, by omega, h2.2.congr z_eX.rf z_eM.rf⟩
theorem so_done {n : Nat} {S : z_S} (h : Rl n S)  : z_Om S := (h.2.congr z_eX.rf z_eM.rf).om
theorem si_done {n : Nat} {S : z_S} (h : Rl n S) (hn : n < 512)  : (f_X_done S) = (f_M_done S) ∧ Rl (n + 1) S :=
  have h2 := sm_done (h.2.congr z_eX.rf z_eM.rf) hn 
  ⟨h2.1, by omega, h2.2.congr z_eX.rf z_eM.rf⟩
theorem so_parts {n : Nat} {S : z_S} (h : Rl n S)  : z_Om S := (h.2.congr z_eX.rf z_eM.rf).om
theorem si_parts {n : Nat} {S : z_S} (h : Rl n S) (hn : n < 512)  : (f_X_parts S) = (f_M_parts S) ∧ Rl (n + 1) S :=
  have h2 := sm_parts (h.2.congr z_eX.rf z_eM.rf) hn 
  ⟨h2.1, by omega, h2.2.congr z_eX.rf z_eM.rf⟩
theorem so_mends {n : Nat} {S : z_S} (h : Rl n S) (x0 : Int32) : z_Om S := (h.2.congr z_eX.rf z_eM.rf).om
theorem si_mends {n : Nat} {S : z_S} (h : Rl n S) (hn : n < 512) (x0 : Int32) : (f_X_mends S x0) = (f_M_mends S x0) ∧ Rl (n + 1) S :=
  have h2 := sm_mends (h.2.congr z_eX.rf z_eM.rf) hn x0
  ⟨h2.1, by omega, h2.2.congr z_eX.rf z_eM.rf⟩
theorem so_disputes {n : Nat} {S : z_S} (h : Rl n S)  : z_Om S := (h.2.congr z_eX.rf z_eM.rf).om
theorem si_disputes {n : Nat} {S : z_S} (h : Rl n S) (hn : n < 512)  : (f_X_disputes S) = (f_M_disputes S) ∧ Rl (n + 1) S :=
  have h2 := sm_disputes (h.2.congr z_eX.rf z_eM.rf) hn 
  ⟨h2.1, by omega, h2.2.congr z_eX.rf z_eM.rf⟩
