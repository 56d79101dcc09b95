/-- a block of a row set anew from o on, k cells -/
def blk (f : Nat → Int) (o : Nat) (v : Nat → Int) (k : Nat) : Nat → Int := fun j => if o ≤ j ∧ j < o + k then v (j - o) else f j
theorem blk_out {f v : Nat → Int} {o k j : Nat} (h : j < o ∨ o + k ≤ j) : blk f o v k j = f j := by
  unfold blk
  rw [if_neg (by omega)]
theorem blk_in {f v : Nat → Int} {o k i : Nat} (h : i < k) : blk f o v k (o + i) = v i := by
  unfold blk
  rw [if_pos (by omega), Nat.add_sub_cancel_left]
def actB (pa : Nat → Int) (np : Int) : Nat → Int := if np = 5 then blk pa 0 (fun j => pa (j + 522)) 2088 else pa
def actN (np : Int) : Int := if np = 5 then 4 else np
def actP (s pa : Nat → Int) (np : Int) : Nat → Int := blk (actB pa np) (522 * (actN np).toNat) s 522
def endM (s : Nat → Int) : Nat → Int := up (up (blk s 32 (fun i => s (37 + i)) (s 1).toNat) 5 (-9)) 2 ((blk s 32 (fun i => s (37 + i)) (s 1).toNat) 2 + 1)
