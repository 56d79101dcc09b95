/-! the pure part: sums, seats, picks -/
theorem b2i_congr {P Q : Prop} [Decidable P] [Decidable Q] (h : P ↔ Q) : b2i P = b2i Q := by
  by_cases hp : P
  · rw [b2i_t hp, b2i_t (h.mp hp)]
  · rw [b2i_f hp, b2i_f (fun q => hp (h.mpr q))]
theorem sm_congr {f g : Nat → Int} : ∀ n : Nat, (∀ i, i < n → f i = g i) → sm f n = sm g n
  | 0, _ => rfl
  | n + 1, h => by
    simp only [sm]
    rw [sm_congr n (fun i hi => h i (by omega)), h n (by omega)]
theorem sm_b2i {P Q : Nat → Prop} [∀ i, Decidable (P i)] [∀ i, Decidable (Q i)] {n : Nat} (h : ∀ i, i < n → (P i ↔ Q i)) : sm (fun i => b2i (P i)) n = sm (fun i => b2i (Q i)) n := sm_congr n (fun i hi => b2i_congr (h i hi))
theorem sm_mono {f : Nat → Int} (h : ∀ k, 0 ≤ f k) {i : Nat} : ∀ d : Nat, sm f i ≤ sm f (i + d)
  | 0 => Int.le_refl _
  | d + 1 => by
    have := sm_mono h (i := i) d
    have := h (i + d)
    show sm f i ≤ sm f (i + d) + f (i + d)
    omega
theorem seatF_none {el : Nat → Int} {v : Int} : ∀ n : Nat, seatF el v n = -9 ↔ ∀ i, i < n → el i ≠ v
  | 0 => ⟨fun _ i hi => by omega, fun _ => rfl⟩
  | n + 1 => by
    have ih := seatF_none (el := el) (v := v) n
    simp only [seatF]
    constructor
    · intro h i hi
      by_cases h1 : seatF el v n ≠ -9
      · rw [if_pos h1] at h
        exact absurd h h1
      · rw [if_neg h1] at h
        by_cases h2 : el n = v
        · rw [if_pos h2] at h
          omega
        · by_cases h3 : i = n
          · rw [h3]
            exact h2
          · exact ih.mp (by omega) i (by omega)
    · intro h
      have h1 : seatF el v n = -9 := ih.mpr (fun i hi => h i (by omega))
      rw [if_neg (by omega), if_neg (h n (by omega))]
theorem seatL_none {el : Nat → Int} {v : Int} : ∀ n : Nat, seatL el v n = -9 ↔ ∀ i, i < n → el i ≠ v
  | 0 => ⟨fun _ i hi => by omega, fun _ => rfl⟩
  | n + 1 => by
    have ih := seatL_none (el := el) (v := v) n
    simp only [seatL]
    by_cases h2 : el n = v
    · rw [if_pos h2]
      exact ⟨fun h => by omega, fun h => absurd h2 (h n (by omega))⟩
    · rw [if_neg h2, ih]
      refine ⟨fun h i hi => ?_, fun h i hi => h i (by omega)⟩
      by_cases h3 : i = n
      · rw [h3]
        exact h2
      · exact h i (by omega)
theorem seat_iff {el : Nat → Int} {v : Int} {n : Nat} : seatF el v n = -9 ↔ seatL el v n = -9 := (seatF_none n).trans (seatL_none n).symm
/-- no two are the same -/
def Dis (el : Nat → Int) (n : Nat) : Prop := ∀ i j : Nat, i < n → j < n → el i = el j → i = j
theorem seat_eq {el : Nat → Int} {v : Int} : ∀ n : Nat, Dis el n → seatF el v n = seatL el v n
  | 0, _ => rfl
  | n + 1, h => by
    have ih := seat_eq (v := v) n (fun i j hi hj => h i j (by omega) (by omega))
    simp only [seatF, seatL]
    by_cases h2 : el n = v
    · have h1 : seatF el v n = -9 := (seatF_none n).mpr (fun i hi he => by
        have := h i n (by omega) (by omega) (he.trans h2.symm)
        omega)
      rw [if_neg (by omega), if_pos h2, if_pos h2]
    · rw [if_neg h2, if_neg h2, ← ih]
      split <;> omega
theorem seatF_congr {el el' : Nat → Int} {v : Int} : ∀ n : Nat, (∀ i, i < n → el i = el' i) → seatF el v n = seatF el' v n
  | 0, _ => rfl
  | n + 1, h => by
    simp only [seatF]
    rw [seatF_congr n (fun i hi => h i (by omega)), h n (by omega)]
theorem seatL_congr {el el' : Nat → Int} {v : Int} : ∀ n : Nat, (∀ i, i < n → el i = el' i) → seatL el v n = seatL el' v n
  | 0, _ => rfl
  | n + 1, h => by
    simp only [seatL]
    rw [seatL_congr n (fun i hi => h i (by omega)), h n (by omega)]
theorem pick_none {f : Nat → Int} {p : Int} : ∀ n : Nat, pick f p n = -9 ↔ ∀ i, i < n → ¬ (f i = 1 ∧ sm f i = p)
  | 0 => ⟨fun _ i hi => by omega, fun _ => rfl⟩
  | n + 1 => by
    have ih := pick_none (f := f) (p := p) n
    simp only [pick]
    constructor
    · intro h i hi
      by_cases h1 : pick f p n ≠ -9
      · rw [if_pos h1] at h
        exact absurd h h1
      · rw [if_neg h1] at h
        by_cases h2 : f n = 1 ∧ sm f n = p
        · rw [if_pos h2] at h
          omega
        · by_cases h3 : i = n
          · rw [h3]
            exact h2
          · exact ih.mp (by omega) i (by omega)
    · intro h
      have h1 : pick f p n = -9 := ih.mpr (fun i hi => h i (by omega))
      rw [if_neg (by omega), if_neg (h n (by omega))]
theorem pick_one {f : Nat → Int} (h0 : ∀ k, 0 ≤ f k) {p : Int} {i n : Nat} (hi : i < n) (h : f i = 1 ∧ sm f i = p) : ¬ (f n = 1 ∧ sm f n = p) := by
  have a := sm_mono h0 (i := i + 1) (n - (i + 1))
  rw [show i + 1 + (n - (i + 1)) = n by omega] at a
  have b : sm f (i + 1) = sm f i + f i := rfl
  omega
theorem pick_eq {f : Nat → Int} {p : Int} (h0 : ∀ k, 0 ≤ f k) : ∀ n : Nat, pick f p n = pickL f p n
  | 0 => rfl
  | n + 1 => by
    have ih := pick_eq (p := p) h0 n
    simp only [pick, pickL]
    by_cases h2 : f n = 1 ∧ sm f n = p
    · have h1 : pick f p n = -9 := (pick_none n).mpr (fun i hi he => pick_one h0 hi he h2)
      rw [if_neg (by omega), if_pos h2, if_pos h2]
    · rw [if_neg h2, if_neg h2, ← ih]
      split <;> omega
theorem pickL_sound {f : Nat → Int} {p : Int} {i : Nat} : ∀ n : Nat, pickL f p n = (i : Int) → i < n ∧ f i = 1 ∧ sm f i = p
  | 0, h => by
    simp only [pickL] at h
    omega
  | n + 1, h => by
    simp only [pickL] at h
    by_cases h2 : f n = 1 ∧ sm f n = p
    · rw [if_pos h2] at h
      have e : n = i := by omega
      subst e
      exact ⟨by omega, h2⟩
    · rw [if_neg h2] at h
      have := pickL_sound n h
      exact ⟨by omega, this.2⟩
