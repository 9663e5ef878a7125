/-! the start -/
theorem rel_start : Rel folk0 mod0 := by
  refine ⟨⟨b0, ?_, page0 (fun q _ => rfl), b0_hi, by decide⟩, fun k hk => ?_, ⟨0, by decide, rfl, rfl, fun j hj => absurd hj (Nat.not_lt_zero _)⟩, rfl, ⟨0, by decide, rfl, rfl, fun j hj => absurd hj (Nat.not_lt_zero _)⟩, fun k hk => ?_, rfl, rfl, rfl⟩
  · exact ⟨fun j hj => absurd hj (Nat.not_lt_zero _), fun j hj => absurd hj (Nat.not_lt_zero _), fun j _ => rfl, fun j hj => absurd hj (Nat.not_lt_zero _), fun j hj => absurd hj (Nat.not_lt_zero _), rfl, rfl, rfl, rfl, rfl, rfl, rfl, rfl⟩
  · rcases (show k = 0 ∨ k = 1 by omega) with rfl | rfl
    · exact ⟨0, by decide, rfl, rfl, fun h => absurd h (by decide)⟩
    · exact ⟨0, by decide, rfl, rfl, fun h => absurd h (by decide)⟩
  · rcases (show k = 0 ∨ k = 1 ∨ k = 2 ∨ k = 3 by omega) with rfl | rfl | rfl | rfl
    all_goals exact ⟨rfl, Or.inl rfl, 0, by decide, rfl, rfl, fun j hj => absurd hj (Nat.not_lt_zero _)⟩
