theorem MS_ex {s t : Nat → Int} (h : MS s) (hb : ∀ k, bd (t k)) (h0 : t 0 = s 0 ∨ t 0 = s 0 + 1 ∧ s 0 < 12) (h1 : 0 ≤ t 1 ∧ t 1 ≤ 5) (h3 : t 3 = s 3 ∨ t 3 = s 3 + 1 ∧ s 3 < 60) (h4 : t 4 = s 4 ∨ t 4 = s 4 + 1 ∧ s 4 < s 3) (h6 : 0 ≤ t 6 ∧ t 6 < 65536) (h7 : t 7 = s 7 ∨ t 7 = s 7 + 1 ∧ s 7 < 60) (ho : ∀ i, i < 5 → 0 ≤ t (32 + i) ∧ t (32 + i) < 12) (hn : ∀ i, i < 5 → 0 ≤ t (37 + i) ∧ t (37 + i) < 12) : MS t := by
  obtain ⟨-, k0, k1, k2, k3, k4, k5, k6, k7, k8, k9, k10, k11, -, -⟩ := h
  exact ⟨hb, by omega, by omega, by omega, by omega, by omega, by omega, by omega, by omega, by omega, by omega, by omega, by omega, ho, hn⟩
theorem MS_up {s : Nat → Int} {k : Nat} {x : Int} (h : MS s) (hk : k ≠ 0 ∧ k ≠ 1 ∧ k ≠ 3 ∧ k ≠ 4 ∧ k ≠ 6 ∧ k ≠ 7 ∧ ¬ (32 ≤ k ∧ k < 42)) (hx : bd x) : MS (up s k x) := by
  have h2 := h
  obtain ⟨hb, k0, k1, k2, k3, k4, k5, k6, k7, k8, k9, k10, k11, ho, hn⟩ := h2
  exact MS_ex h (bd_up hb hx) (Or.inl (up_ne (by omega))) (by rw [up_ne (by omega)]; omega) (Or.inl (up_ne (by omega))) (Or.inl (up_ne (by omega))) (by rw [up_ne (by omega)]; omega) (Or.inl (up_ne (by omega))) (fun i hi => by rw [up_ne (by omega)]; exact ho i hi) (fun i hi => by rw [up_ne (by omega)]; exact hn i hi)
theorem MS_4 {s : Nat → Int} (h : MS s) (h4 : s 4 < s 3) : MS (up s 4 (s 4 + 1)) := by
  have h2 := h
  obtain ⟨hb, k0, k1, k2, k3, k4, k5, k6, k7, k8, k9, k10, k11, ho, hn⟩ := h2
  exact MS_ex h (bd_up hb (by omega)) (Or.inl (up_ne (by omega))) (by rw [up_ne (by omega)]; omega) (Or.inl (up_ne (by omega))) (Or.inr ⟨up_at rfl, h4⟩) (by rw [up_ne (by omega)]; omega) (Or.inl (up_ne (by omega))) (fun i hi => by rw [up_ne (by omega)]; exact ho i hi) (fun i hi => by rw [up_ne (by omega)]; exact hn i hi)
theorem endM_ne {s : Nat → Int} {j : Nat} (hs : 0 ≤ s 1 ∧ s 1 ≤ 5) (h : j ≠ 2 ∧ j ≠ 5 ∧ ¬ (32 ≤ j ∧ j < 37)) : endM s j = s j := by
  unfold endM
  rw [up_ne (by omega), up_ne (by omega), blk_out (by omega)]
theorem endM_2 {s : Nat → Int} : endM s 2 = s 2 + 1 := by
  unfold endM
  rw [up_at rfl, blk_out (by omega)]
theorem MS_end {s : Nat → Int} (h : MS s) (h2 : s 2 ≤ s 4) : MS (endM s) := by
  have hh := h
  obtain ⟨hb, k0, k1, k2, k3, k4, k5, k6, k7, k8, k9, k10, k11, ho, hn⟩ := hh
  have b2 := hb 2
  have e : ∀ i, i < 5 → endM s (32 + i) = if (i : Int) < s 1 then s (37 + i) else s (32 + i) := by
    intro i hi
    unfold endM
    rw [up_ne (by omega), up_ne (by omega)]
    by_cases q : (i : Int) < s 1
    · rw [if_pos q, blk_in (by omega)]
    · rw [if_neg q, blk_out (by omega)]
  refine MS_ex h (fun k => ?_) (Or.inl (endM_ne ⟨k2, k3⟩ (by omega))) (by rw [endM_ne ⟨k2, k3⟩ (by omega)]; omega) (Or.inl (endM_ne ⟨k2, k3⟩ (by omega))) (Or.inl (endM_ne ⟨k2, k3⟩ (by omega))) (by rw [endM_ne ⟨k2, k3⟩ (by omega)]; omega) (Or.inl (endM_ne ⟨k2, k3⟩ (by omega))) (fun i hi => ?_) (fun i hi => ?_)
  · unfold endM
    have hbl : ∀ j, bd (blk s 32 (fun i => s (37 + i)) (s 1).toNat j) := fun j => by
      unfold blk
      split
      · exact hb _
      · exact hb _
    refine bd_up (bd_up hbl (by omega)) ?_ k
    rw [blk_out (by omega)]
    omega
  · rw [e i hi]
    have a1 := ho i hi
    have a2 := hn i hi
    split <;> omega
  · rw [endM_ne ⟨k2, k3⟩ (by omega)]
    exact hn i hi
def mgStep (s : Nat → Int) : Nat → Int := if s 4 = s 5 then endM (up s 4 (s 4 + 1)) else up s 4 (s 4 + 1)
def mgS : Nat → (Nat → Int) → (Nat → Int)
  | 0, s => s
  | n + 1, s => if s 4 < s 3 ∧ s 1 < 2 * sm (fun i => b2i ((s 4) < s (20 + (s (32 + i)).toNat))) (s 1).toNat ∧ s 1 < 2 * sm (fun i => b2i ((s 4) < s (20 + (s ((if s 5 ≠ -9 then (37 : Int) else 32).toNat + i)).toNat))) (s 1).toNat then mgS n (mgStep s) else s
theorem mg_inv {X s s2 : Nat → Int} (hM : MS s) (h2 : s 2 ≤ s 4) (hag : X = mgS (s 3 - s 4).toNat s) (hc : s 4 < s 3 ∧ s 1 < 2 * sm (fun i => b2i ((s 4) < s (20 + (s (32 + i)).toNat))) (s 1).toNat ∧ s 1 < 2 * sm (fun i => b2i ((s 4) < s (20 + (s ((if s 5 ≠ -9 then (37 : Int) else 32).toNat + i)).toNat))) (s 1).toNat) (e : s2 = mgStep s) : (MS s2 ∧ s2 2 ≤ s2 4 ∧ X = mgS (s2 3 - s2 4).toNat s2) ∧ (s2 3 - s2 4).toNat < (s 3 - s 4).toNat := by
  have hlt := hc.1
  have hw := hM.2.2.2
  have q3 : up s 4 (s 4 + 1) 3 = s 3 := up_ne (by omega)
  have q4 : up s 4 (s 4 + 1) 4 = s 4 + 1 := up_at rfl
  have q2 : up s 4 (s 4 + 1) 2 = s 2 := up_ne (by omega)
  have q1 : up s 4 (s 4 + 1) 1 = s 1 := up_ne (by omega)
  have hM1 := MS_4 hM hlt
  have f3 : s2 3 = s 3 := by
    rw [e]
    unfold mgStep
    split
    · rw [endM_ne (by omega) (by omega)]; exact q3
    · exact q3
  have f4 : s2 4 = s 4 + 1 := by
    rw [e]
    unfold mgStep
    split
    · rw [endM_ne (by omega) (by omega)]; exact q4
    · exact q4
  have f2 : s2 2 ≤ s 2 + 1 := by
    rw [e]
    unfold mgStep
    split
    · rw [endM_2]; omega
    · omega
  refine ⟨⟨?_, by omega, ?_⟩, by omega⟩
  · rw [e]
    unfold mgStep
    split
    · exact MS_end hM1 (by omega)
    · exact hM1
  · rw [hag, show (s 3 - s 4).toNat = (s2 3 - s2 4).toNat + 1 from by omega]
    simp only [mgS]
    rw [if_pos hc, e]
def wtS (s : Nat → Int) (x y : Int) : Nat → Int := up (up (up (up (up s (42 + 3 * (s 3).toNat) y) (43 + 3 * (s 3).toNat) (s 2)) (44 + 3 * (s 3).toNat) x) 3 (s 3 + 1)) (20 + x.toNat) (s (20 + x.toNat) + 1)
theorem wtS_ne {s : Nat → Int} {x y : Int} {j : Nat} (h : j ≠ 3 ∧ (j < 20 ∨ 32 ≤ j ∧ j < 42)) (hx : 0 ≤ x ∧ x < 12) : wtS s x y j = s j := by
  unfold wtS
  rw [up_ne (by omega), up_ne (by omega), up_ne (by omega), up_ne (by omega), up_ne (by omega)]
theorem wtS_3 {s : Nat → Int} {x y : Int} : wtS s x y 3 = s 3 + 1 := by
  unfold wtS
  rw [up_ne (by omega), up_at rfl]
theorem MS_wt {s : Nat → Int} {x y : Int} (h : MS s) (h3 : s 3 < 60) (hx : 0 ≤ x ∧ x < 12) (hy : bd y) (hc : bd (s (20 + x.toNat) + 1)) : MS (wtS s x y) := by
  have hh := h
  obtain ⟨hb, k0, k1, k2, k3, k4, k5, k6, k7, k8, k9, k10, k11, ho, hn⟩ := hh
  refine MS_ex h ?_ (Or.inl (wtS_ne (by omega) hx)) (by rw [wtS_ne (by omega) hx]; omega) (Or.inr ⟨wtS_3, h3⟩) (Or.inl (wtS_ne (by omega) hx)) (by rw [wtS_ne (by omega) hx]; omega) (Or.inl (wtS_ne (by omega) hx)) (fun i hi => by rw [wtS_ne (by omega) hx]; exact ho i hi) (fun i hi => by rw [wtS_ne (by omega) hx]; exact hn i hi)
  unfold wtS
  exact bd_up (bd_up (bd_up (bd_up (bd_up hb hy) (hb 2)) (by omega)) (by omega)) hc
