/-! What holds at first. -/
theorem iv_init {M : pm_M} (h1 : M 2 0 = nI 0) (h2 : M 2 1 = nI 0) (h3 : M 4 0 = nI 0) (h4 : ∀ k, k < 4 → M 11 k = -1) (h5 : M 23 5 = nI 0) (h6 : M 23 6 = nI 0) (h7 : M 23 26 = nI 0) (h8 : M 23 25 = nI 0) (h9 : M 23 1 = M 0 5) (h10 : M 23 0 = M 0 6) (h11 : ∀ k, k < 4 → M 24 k = -9) : iv M := by
  refine ⟨fun _ _ => 0, fun _ j => if j = 0 then M 0 5 else M 0 6, ⟨⟨Or.inl ⟨rfl, rfl⟩, fun _ => Nat.zero_le _, fun _ => Nat.zero_le _, fun _ => Nat.zero_le _, fun _ => Nat.zero_le _, fun _ => Nat.zero_le _⟩, Nat.zero_le _, fun q hq => absurd hq (Nat.not_lt_zero q), fun _ => ⟨Nat.zero_le _, Nat.zero_le _⟩⟩, ⟨⟨h1, h2, fun f hf => absurd hf (Nat.not_lt_zero f), fun f hf => absurd hf (Nat.not_lt_zero f), fun f hf => absurd hf (Nat.not_lt_zero _), fun f hf => absurd hf (Nat.not_lt_zero _), fun f hf => absurd hf (Nat.not_lt_zero f)⟩, ⟨h3, fun q hq => absurd hq (Nat.not_lt_zero q)⟩, ⟨rfl, rfl⟩, fun k hk => ⟨?_, fun h => absurd rfl h⟩⟩, ⟨h5, h6, fun f hf => absurd hf (Nat.not_lt_zero f), fun f hf => absurd hf (Nat.not_lt_zero f), fun f hf => absurd hf (Nat.not_lt_zero _), fun f hf => absurd hf (Nat.not_lt_zero _), fun f hf => absurd hf (Nat.not_lt_zero f)⟩, ⟨h7, fun q hq => absurd hq (Nat.not_lt_zero q)⟩, ⟨h9, h10, h8⟩, fun k hk => ⟨?_, fun h => absurd rfl h⟩⟩
  · rw [h4 k hk]
    show (-1 : Int32) = nI 0 - nI 1
    decide
  · rw [h11 k hk]
    exact (if_pos rfl).symm
