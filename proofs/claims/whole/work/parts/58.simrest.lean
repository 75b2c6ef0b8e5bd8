theorem fX_deposit {S : z_S} {x0 : Int32} {x1 : Int32} {x2 : Int32} : z_eM S (g_X_deposit S x0 x1 x2) := sorry
theorem fM_deposit {S : z_S} {x0 : Int32} {x1 : Int32} {x2 : Int32} : z_eX S (g_M_deposit S x0 x1 x2) := sorry
theorem fX_damage {S : z_S} {x0 : Int32} {x1 : Int32} {x2 : Int32} {x3 : Int32} : z_eM S (g_X_damage S x0 x1 x2 x3) := sorry
theorem fM_damage {S : z_S} {x0 : Int32} {x1 : Int32} {x2 : Int32} {x3 : Int32} : z_eX S (g_M_damage S x0 x1 x2 x3) := sorry
theorem fX_poll {S : z_S} {x0 : Int32} {x1 : Int32} {x2 : Int64} : z_eM S (g_X_poll S x0 x1 x2) := sorry
theorem fM_poll {S : z_S} {x0 : Int32} {x1 : Int32} {x2 : Int64} : z_eX S (g_M_poll S x0 x1 x2) := sorry
theorem fX_again {S : z_S} {x0 : Int32} : z_eM S (g_X_again S x0) := sorry
theorem fM_again {S : z_S} {x0 : Int32} : z_eX S (g_M_again S x0) := sorry
theorem fX_step {S : z_S}  : z_eM S (g_X_step S) := sorry
theorem fM_step {S : z_S}  : z_eX S (g_M_step S) := sorry
theorem fX_lose {S : z_S} {x0 : Int32} : z_eM S (g_X_lose S x0) := sorry
theorem fM_lose {S : z_S} {x0 : Int32} : z_eX S (g_M_lose S x0) := sorry
theorem fX_twice {S : z_S} {x0 : Int32} : z_eM S (g_X_twice S x0) := sorry
theorem fM_twice {S : z_S} {x0 : Int32} : z_eX S (g_M_twice S x0) := sorry
theorem fX_giveUp {S : z_S} {x0 : Int32} : z_eM S (g_X_giveUp S x0) := sorry
theorem fM_giveUp {S : z_S} {x0 : Int32} : z_eX S (g_M_giveUp S x0) := sorry
theorem fX_close {S : z_S} {x0 : Int32} : z_eM S (g_X_close S x0) := sorry
theorem fM_close {S : z_S} {x0 : Int32} : z_eX S (g_M_close S x0) := sorry
theorem fX_open {S : z_S} {x0 : Int32} : z_eM S (g_X_open S x0) := sorry
theorem fM_open {S : z_S} {x0 : Int32} : z_eX S (g_M_open S x0) := sorry
theorem sm_deposit {n : Nat} {S T : z_S} (h : Rr n S T) (hn : n < 512) (x0 : Int32) (x1 : Int32) (x2 : Int32) : (f_X_deposit S x0 x1) = (f_M_deposit T x0 x1) ∧ Rr (n + 1) (g_X_deposit S x0 x1 x2) (g_M_deposit T x0 x1 x2) := sorry
theorem sm_blocks {n : Nat} {S T : z_S} (h : Rr n S T) (hn : n < 512) (x0 : Int32) : (f_X_blocks S x0) = (f_M_blocks T x0) ∧ Rr (n + 1) S T := sorry
theorem sm_at {n : Nat} {S T : z_S} (h : Rr n S T) (hn : n < 512) (x0 : Int32) (x1 : Int32) (x2 : Int32) : (f_X_at S x0 x1 x2) = (f_M_at T x0 x1 x2) ∧ Rr (n + 1) S T := sorry
theorem sm_damage {n : Nat} {S T : z_S} (h : Rr n S T) (hn : n < 512) (x0 : Int32) (x1 : Int32) (x2 : Int32) (x3 : Int32) : (f_X_damage S x0 x1 x2 x3) = (f_M_damage T x0 x1 x2 x3) ∧ Rr (n + 1) (g_X_damage S x0 x1 x2 x3) (g_M_damage T x0 x1 x2 x3) := sorry
theorem sm_sum {n : Nat} {S T : z_S} (h : Rr n S T) (hn : n < 512) (x0 : Int32) (x1 : Int32) (x2 : Int32) (x3 : Int64) : (f_X_sum S x0 x1 x2 x3) = (f_M_sum T x0 x1 x2 x3) ∧ Rr (n + 1) S T := sorry
theorem sm_poll {n : Nat} {S T : z_S} (h : Rr n S T) (hn : n < 512) (x0 : Int32) (x1 : Int32) (x2 : Int64) : (f_X_poll S x0 x1 x2) = (f_M_poll T x0 x1 x2) ∧ Rr (n + 1) (g_X_poll S x0 x1 x2) (g_M_poll T x0 x1 x2) := sorry
theorem sm_again {n : Nat} {S T : z_S} (h : Rr n S T) (hn : n < 512) (x0 : Int32) : (f_X_again S x0) = (f_M_again T x0) ∧ Rr (n + 1) (g_X_again S x0) (g_M_again T x0) := sorry
theorem sm_step {n : Nat} {S T : z_S} (h : Rr n S T) (hn : n < 512)  : (f_X_step S) = (f_M_step T) ∧ Rr (n + 1) (g_X_step S) (g_M_step T) := sorry
theorem sm_lose {n : Nat} {S T : z_S} (h : Rr n S T) (hn : n < 512) (x0 : Int32) : (f_X_lose S x0) = (f_M_lose T x0) ∧ Rr (n + 1) (g_X_lose S x0) (g_M_lose T x0) := sorry
theorem sm_twice {n : Nat} {S T : z_S} (h : Rr n S T) (hn : n < 512) (x0 : Int32) : (f_X_twice S x0) = (f_M_twice T x0) ∧ Rr (n + 1) (g_X_twice S x0) (g_M_twice T x0) := sorry
theorem sm_letters {n : Nat} {S T : z_S} (h : Rr n S T) (hn : n < 512)  : (f_X_letters S) = (f_M_letters T) ∧ Rr (n + 1) S T := sorry
theorem sm_letter {n : Nat} {S T : z_S} (h : Rr n S T) (hn : n < 512) (x0 : Int32) (x1 : Int32) : (f_X_letter S x0 x1) = (f_M_letter T x0 x1) ∧ Rr (n + 1) S T := sorry
theorem sm_giveUp {n : Nat} {S T : z_S} (h : Rr n S T) (hn : n < 512) (x0 : Int32) : (f_X_giveUp S x0) = (f_M_giveUp T x0) ∧ Rr (n + 1) (g_X_giveUp S x0) (g_M_giveUp T x0) := sorry
theorem sm_result {n : Nat} {S T : z_S} (h : Rr n S T) (hn : n < 512) (x0 : Int32) : (f_X_result S x0) = (f_M_result T x0) ∧ Rr (n + 1) S T := sorry
theorem sm_close {n : Nat} {S T : z_S} (h : Rr n S T) (hn : n < 512) (x0 : Int32) : (f_X_close S x0) = (f_M_close T x0) ∧ Rr (n + 1) (g_X_close S x0) (g_M_close T x0) := sorry
theorem sm_open {n : Nat} {S T : z_S} (h : Rr n S T) (hn : n < 512) (x0 : Int32) : (f_X_open S x0) = (f_M_open T x0) ∧ Rr (n + 1) (g_X_open S x0) (g_M_open T x0) := sorry
theorem sm_round {n : Nat} {S T : z_S} (h : Rr n S T) (hn : n < 512)  : (f_X_round S) = (f_M_round T) ∧ Rr (n + 1) S T := sorry
theorem sm_done {n : Nat} {S T : z_S} (h : Rr n S T) (hn : n < 512)  : (f_X_done S) = (f_M_done T) ∧ Rr (n + 1) S T := sorry
theorem sm_parts {n : Nat} {S T : z_S} (h : Rr n S T) (hn : n < 512)  : (f_X_parts S) = (f_M_parts T) ∧ Rr (n + 1) S T := sorry
theorem sm_mends {n : Nat} {S T : z_S} (h : Rr n S T) (hn : n < 512) (x0 : Int32) : (f_X_mends S x0) = (f_M_mends T x0) ∧ Rr (n + 1) S T := sorry
theorem sm_disputes {n : Nat} {S T : z_S} (h : Rr n S T) (hn : n < 512)  : (f_X_disputes S) = (f_M_disputes T) ∧ Rr (n + 1) S T := sorry
