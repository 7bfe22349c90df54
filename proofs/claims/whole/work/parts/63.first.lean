/-! The two first states belong together. -/
theorem rl0 : Rl 0 0 0 σ0 τ0 := by
  have z : (0 : Int32) = nI (Int32.toNatClampNeg 0) := by decide
  refine ⟨rfl, ⟨rfl, rfl, rfl, rfl, rfl⟩, fun i _ => ⟨rfl, fun _ t _ => rfl⟩, fun i _ j _ => ⟨fun h => absurd rfl h, fun _ => rfl⟩, fun i _ => ⟨fun h => absurd rfl h, fun _ => rfl⟩, fun i _ t _ => ⟨rfl, rfl, fun k hk => absurd hk (Nat.not_lt_zero _)⟩, fun i hi t ht => ⟨?_, Or.inl rfl, fun h => absurd rfl h⟩, fun t _ => ⟨rfl, rfl, rfl, fun h => absurd rfl h⟩, fun s hs => ⟨?_, fun h => absurd rfl h⟩, fun s _ h => absurd rfl h, ⟨rfl, fun j hj => absurd hj (Nat.not_lt_zero _), by decide +kernel, fun h => absurd (by decide +kernel) h⟩, fun f hf => ⟨?_, rfl, fun k hk => absurd hk (Nat.not_lt_zero _)⟩, ⟨fun i _ => ⟨z, (show Int32.toNatClampNeg 0 ≤ 4 by decide), fun k hk => absurd hk (Nat.not_lt_zero _)⟩, fun i _ => Or.inl rfl, fun f _ k hk => absurd hk (Nat.not_lt_zero _), ⟨fun _ => 0, fun f p _ hp h => ?_⟩, rfl⟩, rfl, ⟨fun i t _ _ => ⟨z, z, (show Int32.toNatClampNeg 0 ≤ Int32.toNatClampNeg 0 by decide), (show Int32.toNatClampNeg 0 ≤ 4 by decide)⟩, ⟨z, by decide +kernel⟩, fun j _ h => absurd rfl h, fun i t _ _ => ?_, fun i _ => ⟨z, (show Int32.toNatClampNeg 0 < 6 by decide)⟩, ⟨z, z, by decide +kernel, by decide +kernel, fun h => absurd h (by decide +kernel), by decide +kernel, fun j hj => absurd hj (Nat.not_lt_zero _)⟩⟩⟩
  · show rowM 36 (6 * i + t) = -1
    exact rowM_lt (by omega) (by omega)
  · show rowM 4 s = -1
    exact rowM_lt (by omega) hs
  · show rowM 6 f = -1
    exact rowM_lt (by omega) hf
  · have h1 : (-1 : Int32) = nI p := h
    exact absurd h1.symm (nI_m1 hp)
  · have e : σ0.1 36 i t 0 = -1 := rfl
    rw [e]
    exact ⟨fun h => absurd h (by decide), fun h => absurd h (by decide), fun h => absurd h (by decide), fun h => absurd h (by decide)⟩
