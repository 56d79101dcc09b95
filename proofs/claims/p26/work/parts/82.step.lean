/-! one more agreed, on both sides -/
theorem endS_1 {s nw : Nat → Int} {nz : Int} : endS nz nw s 1 = nz := by
  unfold endS
  rw [up_ne (by omega), up_ne (by omega)]
  rfl
theorem endS_2 {s nw : Nat → Int} {nz : Int} : endS nz nw s 2 = s 2 + 1 := by
  unfold endS
  rw [up_at rfl, setOld_ne (by omega)]
theorem endS_5 {s nw : Nat → Int} {nz : Int} : endS nz nw s 5 = -9 := by
  unfold endS
  rw [up_ne (by omega), up_at rfl]
theorem endS_el {s nw : Nat → Int} {nz : Int} {i : Nat} (h : i < 5) : endS nz nw s (32 + i) = nw i := by
  unfold endS
  rw [up_ne (by omega), up_ne (by omega), setOld_el h]
theorem endM_5 {s : Nat → Int} : endM s 5 = -9 := by
  unfold endM
  rw [up_ne (by omega), up_at rfl]
theorem endM_el {s : Nat → Int} {i : Nat} (h : i < 5) (hs : 0 ≤ s 1) : endM s (32 + i) = if (i : Int) < s 1 then s (37 + i) else s (32 + i) := by
  unfold endM
  rw [up_ne (by omega), up_ne (by omega)]
  by_cases hi : (i : Int) < s 1
  · rw [if_pos hi, blk_in (by omega)]
  · rw [if_neg hi, blk_out (by omega)]
theorem ag_step {s m nw : Nat → Int} {nz : Int} (h : EQ s m) (hI : Inv m) (hz : nz = m 1) (hn : ∀ i, i < 5 → nw i = nwO m i) : EQ (up (endIf nz nw s) 4 (endIf nz nw s 4 + 1)) (mgStep m) := by
  have k1 := hI.1.2.2.2.1
  have k2 := hI.1.2.2.2.2.1
  have k4 := hI.1.2.2.2.2.2.2.2.1
  have e4 := h 4 (by omega)
  have e5 := h 5 (by omega)
  have a4 := (agStep_4 (s := s) (nw := nw) (nz := nz)).1
  have q1 : up m 4 (m 4 + 1) 1 = m 1 := up_ne (by omega)
  intro j hj
  rw [a4]
  unfold endIf mgStep
  by_cases he : s 4 = s 5
  · rw [if_pos he, if_pos (show m 4 = m 5 by omega)]
    by_cases j4 : j = 4
    · subst j4
      rw [up_at rfl, endM_ne (by omega) (by omega), up_at rfl, e4]
    rw [up_ne j4]
    by_cases j1 : j = 1
    · subst j1
      rw [endS_1, endM_ne (by omega) (by omega), q1, hz]
    by_cases j2 : j = 2
    · subst j2
      rw [endS_2, endM_2, up_ne (by omega), h 2 (by omega)]
    by_cases j5 : j = 5
    · subst j5
      rw [endS_5, endM_5]
    by_cases jo : 32 ≤ j ∧ j < 37
    · obtain ⟨i, rfl⟩ : ∃ i, j = 32 + i := ⟨j - 32, by omega⟩
      rw [endS_el (by omega), endM_el (by omega) (by omega), hn i (by omega), q1, up_ne (by omega), up_ne (by omega)]
      unfold nwO
      rw [if_pos (by omega)]
      by_cases hi : (i : Int) < m 1
      · rw [if_pos ⟨by omega, hi⟩, if_pos hi]
      · rw [if_neg (fun q => hi q.2), if_neg hi]
    · rw [endS_ne (by omega), endM_ne (by omega) (by omega), up_ne j4]
      exact h j hj
  · rw [if_neg he, if_neg (show ¬ m 4 = m 5 by omega)]
    unfold up
    by_cases j4 : j = 4
    · rw [if_pos j4, if_pos j4, e4]
    · rw [if_neg j4, if_neg j4]
      exact h j hj
theorem nwO_step {m : Nat → Int} (hI : Inv m) {i : Nat} (hi : i < 5) : nwO (mgStep m) i = nwO m i := by
  have k1 := hI.1.2.2.2.1
  have k2 := hI.1.2.2.2.2.1
  have k4 := hI.1.2.2.2.2.2.2.2.1
  have q1 : up m 4 (m 4 + 1) 1 = m 1 := up_ne (by omega)
  unfold nwO
  rw [if_pos hi, if_pos hi]
  unfold mgStep
  by_cases he : m 4 = m 5
  · rw [if_pos he, endM_5, if_neg (fun q => q.1 rfl), endM_el hi (by omega), q1, up_ne (by omega), up_ne (by omega)]
    by_cases hl : (i : Int) < m 1
    · rw [if_pos hl, if_pos ⟨by omega, hl⟩]
    · rw [if_neg hl, if_neg (fun q => hl q.2)]
  · rw [if_neg he, up_ne (show 5 ≠ 4 by omega), q1, up_ne (show 37 + i ≠ 4 by omega), up_ne (show 32 + i ≠ 4 by omega)]
theorem Inv_mk {m m' : Nat → Int} (h : Inv m) (hM : MS m') (h24 : m' 2 ≤ m' 4) (e : ∀ j, (j = 1 ∨ j = 5 ∨ j = 7 ∨ (32 ≤ j ∧ j < 42) ∨ 222 ≤ j) → m' j = m j) (h0 : m 0 ≤ m' 0) (h3 : m 3 ≤ m' 3) (h4 : m 5 = -9 ∨ m' 4 ≤ m 5) (hp : ∀ i, i < 12 → m' (8 + i) = 0 ∨ m' (8 + i) = 1) (hc : ∀ i, i < 12 → 0 ≤ m' (20 + i) ∧ m' (20 + i) ≤ m' 3) : Inv m' := by
  have k2 := h.1.2.2.2.2.1
  have k4 := h.1.2.2.2.2.2.2.2.1
  obtain ⟨hMS, h24m, h73, -, -, hom, hdm, hch⟩ := h
  have e1 := e 1 (by omega)
  have e5 := e 5 (by omega)
  have e7 := e 7 (by omega)
  refine ⟨hM, h24, by omega, hp, hc, fun i hi => ?_, ?_, ?_⟩
  · have := hom i (by omega)
    rw [e (32 + i) (by omega)]
    omega
  · intro i j hi hj he
    have he : m' (32 + i) = m' (32 + j) := he
    rw [e1] at hi hj
    rw [e (32 + i) (by omega), e (32 + j) (by omega)] at he
    exact hdm i j hi hj he
  · rcases hch with q | ⟨a, b, c, y, y1, y2, y3, y4, y5, y6⟩
    · exact Or.inl (e5.trans q)
    · refine Or.inr ⟨by omega, by omega, by omega, y, ?_, by omega, ?_, fun i hi hy => ?_, ?_, fun i hi => ?_⟩
      · rw [e7, e (226 + 5 * ((m 7).toNat - 1)) (by omega)]
        exact y1
      · rw [e7, e (224 + 5 * ((m 7).toNat - 1)) (by omega), e (37 + y) (by omega)]
        exact y3
      · rw [e (37 + i) (by omega), e (32 + i) (by omega)]
        exact y4 i (by omega) hy
      · rw [e (37 + y) (by omega)]
        omega
      · rw [e (37 + y) (by omega), e (32 + i) (by omega)]
        exact y6 i (by omega)
theorem Inv_step {m : Nat → Int} (h : Inv m) (hc : cnM m) : Inv (mgStep m) := by
  have k1 := h.1.2.2.2.1
  have k2 := h.1.2.2.2.2.1
  have k4 := h.1.2.2.2.2.2.2.2.1
  have q1 : up m 4 (m 4 + 1) 1 = m 1 := up_ne (by omega)
  have hM := (mg_inv (X := mgS (m 3 - m 4).toNat m) h.1 h.2.1 rfl hc rfl).1
  have h34 := mgStep_4 (s := m) ⟨k1, k2⟩
  have hlt : m 4 < m 3 := hc.1
  by_cases he : m 4 = m 5
  · have es : mgStep m = endM (up m 4 (m 4 + 1)) := if_pos he
    have hN : ∀ i : Nat, (i : Int) < m 1 → mgStep m (32 + i) = m (37 + i) := fun i hi => by
      rw [es, endM_el (by omega) (by omega), q1, if_pos hi, up_ne (by omega)]
    have hx : ∀ j, (j = 0 ∨ j = 1 ∨ j = 7 ∨ 8 ≤ j ∧ j < 32) → mgStep m j = m j := fun j hj => by
      rw [es, endM_ne (by omega) (by omega), up_ne (by omega)]
    have e1 := hx 1 (by omega)
    have e0 := hx 0 (by omega)
    have e7 := hx 7 (by omega)
    have hc5 : m 5 ≠ -9 := by omega
    refine ⟨hM.1, hM.2.1, by have := h.2.2.1; omega, fun i hi => ?_, fun i hi => ?_, fun i hi => ?_, ?_, ?_⟩
    · rw [hx (8 + i) (by omega)]
      exact h.2.2.2.1 i hi
    · rw [hx (20 + i) (by omega), h34.2]
      exact h.2.2.2.2.1 i hi
    · have hn := h.new (i := i) (by omega)
      rw [if_pos hc5] at hn
      rw [hN i (by omega), e0]
      exact hn.2
    · intro i j hi hj hij
      have hij : mgStep m (32 + i) = mgStep m (32 + j) := hij
      rw [e1] at hi hj
      rw [hN i (by omega), hN j (by omega)] at hij
      have hd := h.disN
      rw [if_pos hc5] at hd
      exact hd i j hi hj hij
    · refine Or.inl ?_
      rw [es]
      exact endM_5
  · have es : mgStep m = up m 4 (m 4 + 1) := if_neg he
    have h5 : m 5 = -9 ∨ m 4 ≤ m 5 := by
      rcases h.2.2.2.2.2.2.2 with q | q
      · exact Or.inl q
      · exact Or.inr q.1
    refine Inv_mk h hM.1 hM.2.1 (fun j hj => by rw [es]; exact up_ne (by omega)) (by rw [es, up_ne (by omega)]; exact Int.le_refl _) (by omega) (by omega) (fun i hi => ?_) (fun i hi => ?_)
    · rw [es, up_ne (by omega)]
      exact h.2.2.2.1 i hi
    · rw [h34.2, es, up_ne (by omega)]
      exact h.2.2.2.2.1 i hi
theorem mg_all {m : Nat → Int} : ∀ n : Nat, Inv m → Inv (mgS n m) ∧ (∀ i, i < 5 → nwO (mgS n m) i = nwO m i) ∧ mgS n m 1 = m 1 ∧ mgS n m 0 = m 0
  | 0, h => ⟨h, fun _ _ => rfl, rfl, rfl⟩
  | n + 1, h => by
    have k1 := h.1.2.2.2.1
    have k2 := h.1.2.2.2.2.1
    have q1 : up m 4 (m 4 + 1) 1 = m 1 := up_ne (by omega)
    by_cases hc : cnM m
    · rw [mgS_pos hc]
      have r := mg_all n (Inv_step h hc)
      have es : ∀ j, (j = 0 ∨ j = 1) → mgStep m j = m j := fun j hj => by
        unfold mgStep
        split
        · rw [endM_ne (by omega) (by omega), up_ne (by omega)]
        · rw [up_ne (by omega)]
      exact ⟨r.1, fun i hi => (r.2.1 i hi).trans (nwO_step h hi), r.2.2.1.trans (es 1 (by omega)), r.2.2.2.trans (es 0 (by omega))⟩
    · rw [mgS_neg hc]
      exact ⟨h, fun _ _ => rfl, rfl, rfl⟩
theorem ag_eq {nz : Int} {nw : Nat → Int} : ∀ (n : Nat) {s m : Nat → Int}, EQ s m → Inv m → nz = m 1 → (∀ i, i < 5 → nw i = nwO m i) → EQ (agS nz nw n s) (mgS n m)
  | 0, s, m, h, _, _, _ => h
  | n + 1, s, m, h, hI, hz, hn => by
    have k1 := hI.1.2.2.2.1
    have k2 := hI.1.2.2.2.2.1
    have q1 : up m 4 (m 4 + 1) 1 = m 1 := up_ne (by omega)
    by_cases hc : cnM m
    · rw [mgS_pos hc, agS_pos ((ag_cond h hI hz hn).mpr hc)]
      have e1 : mgStep m 1 = m 1 := by
        unfold mgStep
        split
        · rw [endM_ne (by omega) (by omega), q1]
        · exact q1
      exact ag_eq n (ag_step h hI hz hn) (Inv_step hI hc) (hz.trans e1.symm) (fun i hi => (hn i hi).trans (nwO_step hI hi).symm)
    · rw [mgS_neg hc, agS_neg (fun q => hc ((ag_cond h hI hz hn).mp q))]
      exact h
theorem ag_37 {nz : Int} {nw : Nat → Int} {j : Nat} (hj : 37 ≤ j ∧ j < 42) : ∀ (n : Nat) {s : Nat → Int}, agS nz nw n s j = s j
  | 0, s => rfl
  | n + 1, s => by
    by_cases hc : cnA nz nw s
    · rw [agS_pos hc, ag_37 hj n, up_ne (by omega)]
      unfold endIf
      split
      · exact endS_ne (by omega)
      · rfl
    · rw [agS_neg hc]
theorem mg_37 {j : Nat} (hj : 37 ≤ j ∧ j < 42) : ∀ (n : Nat) {m : Nat → Int}, Inv m → mgS n m j = m j
  | 0, m, _ => rfl
  | n + 1, m, h => by
    have k1 := h.1.2.2.2.1
    have k2 := h.1.2.2.2.2.1
    have q1 : up m 4 (m 4 + 1) 1 = m 1 := up_ne (by omega)
    by_cases hc : cnM m
    · rw [mgS_pos hc, mg_37 hj n (Inv_step h hc)]
      unfold mgStep
      split
      · rw [endM_ne (by omega) (by omega), up_ne (by omega)]
      · rw [up_ne (by omega)]
    · rw [mgS_neg hc]
theorem ag_same {m : Nat → Int} (n : Nat) (h : Inv m) : agS (m 1) (nwO m) n m = mgS n m := by
  funext j
  by_cases hj : 37 ≤ j ∧ j < 42
  · rw [ag_37 hj, mg_37 hj n h]
  · exact ag_eq n EQ.refl h rfl (fun _ _ => rfl) j hj
