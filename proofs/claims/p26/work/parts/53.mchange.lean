theorem MS_6 {s : Nat → Int} {x : Int} (h : MS s) (hx : 0 ≤ x ∧ x < 65536) : MS (up s 6 x) := by
  have h2 := h
  obtain ⟨hb, k0, k1, k2, k3, k4, k5, k6, k7, k8, k9, k10, k11, ho, hn⟩ := h2
  exact MS_ex h (bd_up hb (by omega)) (Or.inl (up_ne (by omega))) (by rw [up_ne (by omega)]; omega) (Or.inl (up_ne (by omega))) (Or.inl (up_ne (by omega))) (by rw [up_at rfl]; omega) (Or.inl (up_ne (by omega))) (fun i hi => by rw [up_ne (by omega)]; exact ho i hi) (fun i hi => by rw [up_ne (by omega)]; exact hn i hi)
theorem MS_7 {s : Nat → Int} (h : MS s) (h7 : s 7 < 60) : MS (up s 7 (s 7 + 1)) := by
  have h2 := h
  obtain ⟨hb, k0, k1, k2, k3, k4, k5, k6, k7, k8, k9, k10, k11, ho, hn⟩ := h2
  exact MS_ex h (bd_up hb (by omega)) (Or.inl (up_ne (by omega))) (by rw [up_ne (by omega)]; omega) (Or.inl (up_ne (by omega))) (Or.inl (up_ne (by omega))) (by rw [up_ne (by omega)]; omega) (Or.inr ⟨up_at rfl, h7⟩) (fun i hi => by rw [up_ne (by omega)]; exact ho i hi) (fun i hi => by rw [up_ne (by omega)]; exact hn i hi)
theorem MS_nw {s v : Nat → Int} {k : Nat} (h : MS s) (hk : k ≤ 5) (hv : ∀ i, i < 5 → 0 ≤ v i ∧ v i < 12) : MS (blk s 37 v k) := by
  have h2 := h
  obtain ⟨hb, k0, k1, k2, k3, k4, k5, k6, k7, k8, k9, k10, k11, ho, hn⟩ := h2
  refine MS_ex h (fun j => ?_) (Or.inl (blk_out (by omega))) (by rw [blk_out (by omega)]; omega) (Or.inl (blk_out (by omega))) (Or.inl (blk_out (by omega))) (by rw [blk_out (by omega)]; omega) (Or.inl (blk_out (by omega))) (fun i hi => by rw [blk_out (by omega)]; exact ho i hi) (fun i hi => ?_)
  · unfold blk
    split
    · have := hv (j - 37) (by omega)
      omega
    · exact hb j
  · by_cases q : i < k
    · rw [blk_in q]
      exact hv i hi
    · rw [blk_out (by omega)]
      exact hn i hi
theorem pickL_ok {f : Nat → Int} {p : Int} (hf : ∀ k, 0 ≤ f k ∧ f k ≤ 1) (hp : 0 ≤ p) : ∀ n, p < sm f n → 0 ≤ pickL f p n
  | 0, h => by
    simp only [sm] at h
    omega
  | n + 1, h => by
    simp only [sm] at h
    simp only [pickL]
    have h1 := hf n
    by_cases q : f n = 1 ∧ sm f n = p
    · rw [if_pos q]
      omega
    · rw [if_neg q]
      refine pickL_ok hf hp n ?_
      omega
def chA (s : Nat → Int) (n : Int) : Nat → Int := up (up (up s (222 + 5 * (s 7).toNat) (s 6)) (223 + 5 * (s 7).toNat) n) 6 ((s 6 * 25173 + 13849) % 65536)
theorem chA_ne {s : Nat → Int} {n : Int} {j : Nat} (h : j ≠ 6 ∧ j < 222) : chA s n j = s j := by
  unfold chA
  rw [up_ne (by omega), up_ne (by omega), up_ne (by omega)]
theorem chA_6 {s : Nat → Int} {n : Int} : chA s n 6 = (s 6 * 25173 + 13849) % 65536 := up_at rfl
theorem MS_chA {s : Nat → Int} {n : Int} (h : MS s) (hn : bd n) : MS (chA s n) := by
  unfold chA
  exact MS_6 (MS_up (MS_up h (by omega) (h.1 6)) (by omega) hn) (by omega)
def chB (c : Nat → Int) (d : Nat) (v y : Int) : Nat → Int := up (up (up (up c (224 + 5 * d) v) (225 + 5 * d) v) (226 + 5 * d) y) 7 (c 7 + 1)
theorem chB_ne {c : Nat → Int} {d : Nat} {v y : Int} {j : Nat} (h : j ≠ 7 ∧ j < 222) : chB c d v y j = c j := by
  unfold chB
  rw [up_ne (by omega), up_ne (by omega), up_ne (by omega), up_ne (by omega)]
theorem MS_chB {c : Nat → Int} {d : Nat} {v y : Int} (h : MS c) (hv : bd v) (hy : bd y) (h7 : c 7 < 60) : MS (chB c d v y) := by
  unfold chB
  have h1 := MS_up (k := 226 + 5 * d) (MS_up (k := 225 + 5 * d) (MS_up (k := 224 + 5 * d) h (by omega) hv) (by omega) hv) (by omega) hy
  have e : up (up (up c (224 + 5 * d) v) (225 + 5 * d) v) (226 + 5 * d) y 7 = c 7 := by rw [up_ne (by omega), up_ne (by omega), up_ne (by omega)]
  have h2 := MS_7 h1 (by omega)
  rw [e] at h2
  exact h2
