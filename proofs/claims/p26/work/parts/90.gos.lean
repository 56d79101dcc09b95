/-! the calls of the law, on both sides -/
theorem Inv.f5 {m : Nat → Int} (h : Inv m) : m 5 ≠ -9 → 0 < m 7 ∧ 0 ≤ m (226 + 5 * (m 7 - 1).toNat) ∧ m (226 + 5 * (m 7 - 1).toNat) < m 1 := fun c => by
  rcases h.2.2.2.2.2.2.2 with q | ⟨k1, k2, k3, y, y1, y2, -⟩
  · exact absurd q c
  · rw [show (m 7 - 1).toNat = (m 7).toNat - 1 by omega, y1]
    omega
theorem Inv.f5m {m : Nat → Int} (h : Inv m) : m 5 ≠ -9 → 0 < m 7 ∧ 0 ≤ m (221 + 5 * (m 7).toNat) ∧ m (221 + 5 * (m 7).toNat) < m 1 := fun c => by
  have q := h.f5 c
  have e : 221 + 5 * (m 7).toNat = 226 + 5 * (m 7 - 1).toNat := by omega
  rw [e]
  exact q
