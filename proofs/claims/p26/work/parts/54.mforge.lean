theorem MS_37 {s : Nat → Int} {k : Nat} {x : Int} (h : MS s) (hk : k < 5) (hx : 0 ≤ x ∧ x < 12) : MS (up s (37 + k) x) := by
  have h2 := h
  obtain ⟨hb, k0, k1, k2, k3, k4, k5, k6, k7, k8, k9, k10, k11, ho, hn⟩ := h2
  refine MS_ex h (bd_up hb (by omega)) (Or.inl (up_ne (by omega))) (by rw [up_ne (by omega)]; omega) (Or.inl (up_ne (by omega))) (Or.inl (up_ne (by omega))) (by rw [up_ne (by omega)]; omega) (Or.inl (up_ne (by omega))) (fun i hi => by rw [up_ne (by omega)]; exact ho i hi) (fun i hi => ?_)
  by_cases q : i = k
  · rw [up_at (by omega)]
    exact hx
  · rw [up_ne (by omega)]
    exact hn i hi
