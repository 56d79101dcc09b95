theorem mgStep_4 {s : Nat → Int} (hs : 0 ≤ s 1 ∧ s 1 ≤ 5) : mgStep s 4 = s 4 + 1 ∧ mgStep s 3 = s 3 := by
  have q3 : up s 4 (s 4 + 1) 3 = s 3 := up_ne (by omega)
  have q4 : up s 4 (s 4 + 1) 4 = s 4 + 1 := up_at rfl
  have q1 : up s 4 (s 4 + 1) 1 = s 1 := up_ne (by omega)
  unfold mgStep
  split
  · rw [endM_ne (by omega) (by omega), endM_ne (by omega) (by omega)]; exact ⟨q4, q3⟩
  · exact ⟨q4, q3⟩
theorem mg_MS : ∀ (n : Nat) {s : Nat → Int}, MS s → s 2 ≤ s 4 → MS (mgS n s) ∧ mgS n s 2 ≤ mgS n s 4 ∧ s 4 ≤ mgS n s 4 ∧ mgS n s 3 = s 3
  | 0, s, hM, h2 => ⟨hM, h2, Int.le_refl _, rfl⟩
  | n + 1, s, hM, h2 => by
    simp only [mgS]
    by_cases hc : s 4 < s 3 ∧ s 1 < 2 * sm (fun i => b2i ((s 4) < s (20 + (s (32 + i)).toNat))) (s 1).toNat ∧ s 1 < 2 * sm (fun i => b2i ((s 4) < s (20 + (s ((if s 5 ≠ -9 then (37 : Int) else 32).toNat + i)).toNat))) (s 1).toNat
    · rw [if_pos hc]
      have h := (mg_inv (X := mgS (s 3 - s 4).toNat s) hM h2 rfl hc rfl).1
      have hq := mgStep_4 (s := s) ⟨hM.2.2.2.1, hM.2.2.2.2.1⟩
      have r := mg_MS n h.1 h.2.1
      exact ⟨r.1, r.2.1, by omega, by omega⟩
    · rw [if_neg hc]
      exact ⟨hM, h2, Int.le_refl _, rfl⟩
theorem mg_rg {s : Nat → Int} (hM : MS s) (h2 : s 2 ≤ s 4) (n : Nat) : 0 ≤ s 4 ∧ s 4 ≤ mgS n s 4 ∧ mgS n s 4 ≤ 60 := by
  have r := mg_MS n hM h2
  have q := r.1.2
  have q2 := hM.2
  omega
