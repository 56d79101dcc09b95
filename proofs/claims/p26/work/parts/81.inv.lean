/-! the invariant of a state, the class's new council as a function of it -/
def Chg (m : Nat → Int) : Prop := m 5 = -9 ∨ (m 4 ≤ m 5 ∧ m 5 < m 3 ∧ 0 < m 7 ∧ ∃ y : Nat, m (226 + 5 * ((m 7).toNat - 1)) = (y : Int) ∧ (y : Int) < m 1 ∧ m (224 + 5 * ((m 7).toNat - 1)) = m (37 + y) ∧ (∀ i : Nat, (i : Int) < m 1 → i ≠ y → m (37 + i) = m (32 + i)) ∧ m (37 + y) < m 0 ∧ ∀ i : Nat, (i : Int) < m 1 → m (32 + i) ≠ m (37 + y))
def Inv (m : Nat → Int) : Prop := MS m ∧ m 2 ≤ m 4 ∧ m 7 ≤ m 3 ∧ (∀ i, i < 12 → m (8 + i) = 0 ∨ m (8 + i) = 1) ∧ (∀ i, i < 12 → 0 ≤ m (20 + i) ∧ m (20 + i) ≤ m 3) ∧ (∀ i : Nat, (i : Int) < m 1 → m (32 + i) < m 0) ∧ Dis (fun i => m (32 + i)) (m 1).toNat ∧ Chg m
def nwO (m : Nat → Int) : Nat → Int := fun i => if i < 5 then (if m 5 ≠ -9 ∧ (i : Int) < m 1 then m (37 + i) else m (32 + i)) else 0
/-- the same but for the reference's new council -/
def EQ (s m : Nat → Int) : Prop := ∀ j, ¬ (37 ≤ j ∧ j < 42) → s j = m j
theorem EQ.refl {m : Nat → Int} : EQ m m := fun _ _ => rfl
theorem nwO_at {m : Nat → Int} {i : Nat} (h1 : m 1 ≤ 5) (hi : (i : Int) < m 1) : nwO m i = m ((if m 5 ≠ -9 then (37 : Int) else 32).toNat + i) := by
  unfold nwO
  rw [if_pos (by omega)]
  by_cases h : m 5 ≠ -9
  · rw [if_pos ⟨h, hi⟩, if_pos h]
    rfl
  · rw [if_neg (fun q => h q.1), if_neg h]
    rfl
/-- the members of both councils are villagers -/
theorem Inv.old {m : Nat → Int} (h : Inv m) {i : Nat} (hi : (i : Int) < m 1) : 0 ≤ m (32 + i) ∧ m (32 + i) < m 0 := by
  have h5 := h.1.2.2.2.2.1
  exact ⟨(h.1.2.2.2.2.2.2.2.2.2.2.2.2.2.1 i (by omega)).1, h.2.2.2.2.2.1 i hi⟩
theorem Inv.new {m : Nat → Int} (h : Inv m) {i : Nat} (hi : (i : Int) < m 1) : 0 ≤ m ((if m 5 ≠ -9 then (37 : Int) else 32).toNat + i) ∧ m ((if m 5 ≠ -9 then (37 : Int) else 32).toNat + i) < m 0 := by
  have h5 := h.1.2.2.2.2.1
  have ho := h.old hi
  by_cases hc : m 5 ≠ -9
  · rw [if_pos hc]
    show 0 ≤ m (37 + i) ∧ m (37 + i) < m 0
    have hn := h.1.2.2.2.2.2.2.2.2.2.2.2.2.2.2 i (by omega)
    rcases h.2.2.2.2.2.2.2 with q | ⟨-, -, -, y, -, -, -, e, l, -⟩
    · exact absurd q hc
    · by_cases hy : i = y
      · subst hy
        exact ⟨hn.1, l⟩
      · rw [e i hi hy]
        exact ho
  · rw [if_neg hc]
    exact ho
theorem Inv.disN {m : Nat → Int} (h : Inv m) : Dis (fun i => m ((if m 5 ≠ -9 then (37 : Int) else 32).toNat + i)) (m 1).toNat := by
  have hd := h.2.2.2.2.2.2.1
  by_cases hc : m 5 ≠ -9
  · rw [if_pos hc]
    show Dis (fun i => m (37 + i)) (m 1).toNat
    rcases h.2.2.2.2.2.2.2 with q | ⟨-, -, -, y, -, -, -, e, -, l⟩
    · exact absurd q hc
    · intro i j hi hj he
      have he : m (37 + i) = m (37 + j) := he
      by_cases h1 : i = y
      · by_cases h2 : j = y
        · omega
        · rw [e j (by omega) h2, h1] at he
          exact absurd he.symm (l j (by omega))
      · by_cases h2 : j = y
        · rw [e i (by omega) h1, h2] at he
          exact absurd he (l i (by omega))
        · rw [e i (by omega) h1, e j (by omega) h2] at he
          exact hd i j hi hj he
  · rw [if_neg hc]
    exact hd
theorem hold_iff {s m : Nat → Int} (h : EQ s m) (h12 : m 0 ≤ 12) {v w y y' : Int} (hv : v = w) (hw : 0 ≤ w ∧ w < m 0) (hy : y = y') : ((((0 ≤ (v) ∧ (v) < s 0) ∧ (y) < s (20 + (v).toNat)) ∨ (((0) : Int) ≠ 0 ∧ ((0 ≤ (v) ∧ (v) < s 0) ∧ s (8 + (v).toNat) = 1)))) ↔ y' < m (20 + w.toNat) := by
  subst hv hy
  rw [h 0 (by omega), h (20 + v.toNat) (by omega)]
  constructor
  · rintro (q | q)
    · exact q.2
    · exact absurd rfl q.1
  · exact fun q => Or.inl ⟨hw, q⟩
theorem hold_new {s m nw : Nat → Int} {nz y y' : Int} (h : EQ s m) (hI : Inv m) (hz : nz = m 1) (hn : ∀ i, i < 5 → nw i = nwO m i) (hy : y = y') : sm (fun i => b2i ((((0 ≤ (nw i) ∧ (nw i) < s 0) ∧ (y) < s (20 + (nw i).toNat)) ∨ (((0) : Int) ≠ 0 ∧ ((0 ≤ (nw i) ∧ (nw i) < s 0) ∧ s (8 + (nw i).toNat) = 1))))) nz.toNat = sm (fun i => b2i (y' < m (20 + (m ((if m 5 ≠ -9 then (37 : Int) else 32).toNat + i)).toNat))) (m 1).toNat := by
  subst hz
  have h5 := hI.1.2.2.2.2.1
  exact sm_b2i (fun i hi => hold_iff h hI.1.2.2.1 ((hn i (by omega)).trans (nwO_at h5 (by omega))) (hI.new (by omega)) hy)
theorem hold_old {s m : Nat → Int} {y y' : Int} (h : EQ s m) (hI : Inv m) (hy : y = y') : sm (fun i => b2i ((((0 ≤ (s (32 + i)) ∧ (s (32 + i)) < s 0) ∧ (y) < s (20 + (s (32 + i)).toNat)) ∨ (((0) : Int) ≠ 0 ∧ ((0 ≤ (s (32 + i)) ∧ (s (32 + i)) < s 0) ∧ s (8 + (s (32 + i)).toNat) = 1))))) (s 1).toNat = sm (fun i => b2i (y' < m (20 + (m (32 + i)).toNat))) (m 1).toNat := by
  have h5 := hI.1.2.2.2.2.1
  rw [h 1 (by omega)]
  exact sm_b2i (fun i hi => hold_iff h hI.1.2.2.1 (h (32 + i) (by omega)) (hI.old (by omega)) hy)
def cnA (nz : Int) (nw s : Nat → Int) : Prop := s 4 < s 3 ∧ (nz / 2 + 1 ≤ sm (fun i => b2i ((((0 ≤ (nw i) ∧ (nw i) < s 0) ∧ (s 4) < s (20 + (nw i).toNat)) ∨ (((0) : Int) ≠ 0 ∧ ((0 ≤ (nw i) ∧ (nw i) < s 0) ∧ s (8 + (nw i).toNat) = 1))))) nz.toNat ∧ (¬ (s 5 ≠ -9 ∧ (s 4) ≤ s 5) ∨ s 1 / 2 + 1 ≤ sm (fun i => b2i ((((0 ≤ (s (32 + i)) ∧ (s (32 + i)) < s 0) ∧ (s 4) < s (20 + (s (32 + i)).toNat)) ∨ (((0) : Int) ≠ 0 ∧ ((0 ≤ (s (32 + i)) ∧ (s (32 + i)) < s 0) ∧ s (8 + (s (32 + i)).toNat) = 1))))) (s 1).toNat))
def cnM (m : Nat → Int) : Prop := m 4 < m 3 ∧ m 1 < 2 * sm (fun i => b2i ((m 4) < m (20 + (m (32 + i)).toNat))) (m 1).toNat ∧ m 1 < 2 * sm (fun i => b2i ((m 4) < m (20 + (m ((if m 5 ≠ -9 then (37 : Int) else 32).toNat + i)).toNat))) (m 1).toNat
theorem ag_cond {s m nw : Nat → Int} {nz : Int} (h : EQ s m) (hI : Inv m) (hz : nz = m 1) (hn : ∀ i, i < 5 → nw i = nwO m i) : cnA nz nw s ↔ cnM m := by
  unfold cnA cnM
  have e4 := h 4 (by omega)
  have e5 := h 5 (by omega)
  have e3 := h 3 (by omega)
  have e1 := h 1 (by omega)
  have h1 := hI.1.2.2.2.1
  rw [hold_new h hI hz hn e4, hold_old h hI e4]
  have hc : m 5 = -9 ∨ m 4 ≤ m 5 := by
    rcases hI.2.2.2.2.2.2.2 with q | q
    · exact Or.inl q
    · exact Or.inr q.1
  by_cases hc5 : m 5 = -9
  · rw [if_neg (show ¬ m 5 ≠ -9 by omega)]
    show _ ↔ m 4 < m 3 ∧ m 1 < 2 * sm (fun i => b2i ((m 4) < m (20 + (m (32 + i)).toNat))) (m 1).toNat ∧ m 1 < 2 * sm (fun i => b2i ((m 4) < m (20 + (m (32 + i)).toNat))) (m 1).toNat
    show s 4 < s 3 ∧ (nz / 2 + 1 ≤ sm (fun i => b2i ((m 4) < m (20 + (m (32 + i)).toNat))) (m 1).toNat ∧ _) ↔ _
    generalize sm (fun i => b2i ((m 4) < m (20 + (m (32 + i)).toNat))) (m 1).toNat = A
    omega
  · generalize sm (fun i => b2i ((m 4) < m (20 + (m ((if m 5 ≠ -9 then (37 : Int) else 32).toNat + i)).toNat))) (m 1).toNat = B
    generalize sm (fun i => b2i ((m 4) < m (20 + (m (32 + i)).toNat))) (m 1).toNat = A
    omega
theorem agS_pos {nz : Int} {nw s : Nat → Int} (h : cnA nz nw s) (n : Nat) : agS nz nw (n + 1) s = agS nz nw n (up (endIf nz nw s) 4 (endIf nz nw s 4 + 1)) := by
  unfold cnA at h
  conv => lhs; simp only [agS]
  rw [if_pos h]
theorem agS_neg {nz : Int} {nw s : Nat → Int} (h : ¬ cnA nz nw s) (n : Nat) : agS nz nw (n + 1) s = s := by
  unfold cnA at h
  conv => lhs; simp only [agS]
  rw [if_neg h]
theorem mgS_pos {m : Nat → Int} (h : cnM m) (n : Nat) : mgS (n + 1) m = mgS n (mgStep m) := by
  unfold cnM at h
  conv => lhs; simp only [mgS]
  rw [if_pos h]
theorem mgS_neg {m : Nat → Int} (h : ¬ cnM m) (n : Nat) : mgS (n + 1) m = m := by
  unfold cnM at h
  conv => lhs; simp only [mgS]
  rw [if_neg h]
