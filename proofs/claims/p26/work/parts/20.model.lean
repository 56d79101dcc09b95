/-- what is known of the reference's row -/
def MS (s : Nat → Int) : Prop := (∀ k, bd (s k)) ∧ 0 ≤ s 0 ∧ s 0 ≤ 12 ∧ 0 ≤ s 1 ∧ s 1 ≤ 5 ∧ 0 ≤ s 3 ∧ s 3 ≤ 60 ∧ 0 ≤ s 4 ∧ s 4 ≤ s 3 ∧ 0 ≤ s 7 ∧ s 7 ≤ 60 ∧ 0 ≤ s 6 ∧ s 6 < 65536 ∧ (∀ i, i < 5 → 0 ≤ s (32 + i) ∧ s (32 + i) < 12) ∧ (∀ i, i < 5 → 0 ≤ s (37 + i) ∧ s (37 + i) < 12)
/-- the last place of v, or -9 -/
def seatL (el : Nat → Int) (v : Int) : Nat → Int
  | 0 => -9
  | n + 1 => if el n = v then (n : Int) else seatL el v n
def pickL (f : Nat → Int) (p : Int) : Nat → Int
  | 0 => -9
  | n + 1 => if f n = 1 ∧ sm f n = p then (n : Int) else pickL f p n
