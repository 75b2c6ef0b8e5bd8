/-- the cells behind the constructors -/
def z_S0 : z_S := (fun a _ => cond (Nat.beq a 12) (fun j => cond (Nat.beq j 0) 1 0) (cond (Nat.beq a 10) (fun j => cond (Nat.beq j 0) 1 0) (cond (Nat.beq a 24) (upd (upd (upd (fun _ => 0) 0 1) 1 1) 2 1) (cond (Nat.beq a 21) (fun j => cond (Nat.beq j 20) 1 0) (fun _ => 0)))), fun _ _ _ => 0)
theorem z_R0 : Rr 0 z_S0 z_S0 := by
  refine ⟨fun d _ => ⟨rfl, (by decide : (0 : Int) ≤ (0 : Int32).toInt), (by decide : (0 : Int32).toInt ≤ 16)⟩, fun h hh => ⟨?_, Or.inr rfl⟩, fun h _ => rfl, fun h w j _ _ hj => (z_byte0 hj).symm, fun _ _ _ _ _ _ _ => rfl, ⟨0, by decide, by decide, ⟨rfl, rfl, fun _ _ => rfl, fun p _ => ⟨⟨0, 0, 0, by decide, by decide, by decide, rfl, rfl, rfl, fun w => absurd rfl w⟩, rfl, rfl, rfl, rfl, rfl, fun _ _ _ => Or.inl rfl⟩⟩, ⟨0, by decide, rfl, rfl, fun _ _ => vp_in_nI (N := 3) (n := 0) (by decide) (by decide), fun _ _ => vp_in_nI (N := 3) (n := 0) (by decide) (by decide), fun k hk => absurd hk (by omega)⟩⟩, fun p _ => ⟨fun _ _ => Or.inl rfl, rfl, rfl, fun _ _ w => ?_⟩, fun p _ => ⟨fun _ _ => Or.inl rfl, rfl, rfl, Or.inr rfl, fun w => absurd rfl w⟩, ⟨1, by decide, rfl, rfl, fun k _ => ⟨Or.inl rfl, ⟨0, by decide, rfl⟩, ?_, fun w => ?_⟩, rfl, Or.inl (fun _ _ => rfl), by decide⟩, rfl⟩
  · rcases (show h = 0 ∨ h = 1 ∨ h = 2 by omega) with rfl | rfl | rfl <;> rfl
  · exact absurd (show (0 : Int32) = 1 from w) (by decide)
  · exact ⟨fun w => absurd (show (0 : Int32) = nI 1 from w) (by decide), fun w => absurd (show (0 : Int32) = 1 from w) (by decide)⟩
  · exact absurd (show (0 : Int32) = 1 from w) (by decide)
