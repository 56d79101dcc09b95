/-! what the reading calls answer, on both sides -/
theorem hn_ {m : Nat → Int} (h : Inv m) {y : Int} : sm (fun i => b2i ((((0 ≤ (nwO m i) ∧ (nwO m i) < m 0) ∧ (y) < m (20 + (nwO m i).toNat)) ∨ (((0) : Int) ≠ 0 ∧ ((0 ≤ (nwO m i) ∧ (nwO m i) < m 0) ∧ m (8 + (nwO m i).toNat) = 1))))) (m 1).toNat = sm (fun i => b2i (y < m (20 + (m ((if m 5 ≠ -9 then (37 : Int) else 32).toNat + i)).toNat))) (m 1).toNat := hold_new EQ.refl h rfl (fun _ _ => rfl) rfl
theorem ho_ {m : Nat → Int} (h : Inv m) {y : Int} : sm (fun i => b2i ((((0 ≤ (m (32 + i)) ∧ (m (32 + i)) < m 0) ∧ (y) < m (20 + (m (32 + i)).toNat)) ∨ (((0) : Int) ≠ 0 ∧ ((0 ≤ (m (32 + i)) ∧ (m (32 + i)) < m 0) ∧ m (8 + (m (32 + i)).toNat) = 1))))) (m 1).toNat = sm (fun i => b2i (y < m (20 + (m (32 + i)).toNat))) (m 1).toNat := hold_old EQ.refl h rfl
theorem cand_eq {m : Nat → Int} : (fun i : Nat => b2i (¬ (seatF (fun i => m (32 + i)) ((i : Int)) (m 1).toNat ≠ -9))) = fun i : Nat => b2i (seatL (fun i => m (32 + i)) (i : Int) (m 1).toNat = -9) := funext fun i => b2i_congr ⟨fun q => seat_iff.mp (Classical.not_not.mp q), fun q => not_not_intro (seat_iff.mpr q)⟩
theorem re_count {m : Nat → Int} {x np n : Int} : (if x = 10 then (np) else (if x = 11 then (n) else (if x = 0 then (m 0) else (if x = 1 then (sm (fun i => m (8 + i)) (m 0).toNat) else (if x = 2 then (m 1) else (if x = 3 then (m 2) else (if x = 4 then (m 3) else (if x = 5 then (m 4) else (if x = 6 then (if m 5 ≠ -9 then 1 else 0) else (if x = 7 then (m 6) else (if x = 8 then (m 7) else (if x = 9 then (sm (fun i => b2i ((0 ≤ (i : Int) ∧ (i : Int) < m 7) ∧ m (224 + 5 * (i : Int).toNat) ≠ m (225 + 5 * (i : Int).toNat))) (m 7).toNat) else (-1))))))))))))) = (if x = 0 then (m 0) else (if x = 1 then (sm (fun i => m (8 + i)) (m 0).toNat) else (if x = 2 then (m 1) else (if x = 3 then (m 2) else (if x = 4 then (m 3) else (if x = 5 then (m 4) else (if x = 6 then (if m 5 ≠ -9 then 1 else 0) else (if x = 7 then (m 6) else (if x = 8 then (m 7) else (if x = 9 then (sm (fun i => b2i (m (224 + 5 * i) ≠ m (225 + 5 * i))) (m 7).toNat) else (if x = 10 then (np) else (if x = 11 then (n) else (-1))))))))))))) := by
  have e9 : sm (fun i => b2i ((0 ≤ (i : Int) ∧ (i : Int) < m 7) ∧ m (224 + 5 * (i : Int).toNat) ≠ m (225 + 5 * (i : Int).toNat))) (m 7).toNat = sm (fun i => b2i (m (224 + 5 * i) ≠ m (225 + 5 * i))) (m 7).toNat := sm_b2i (fun i hi => by
    rw [Int.toNat_natCast]
    exact ⟨fun q => q.2, fun q => ⟨by omega, q⟩⟩)
  rw [e9]
  by_cases q10 : x = 10
  · subst q10
    rfl
  by_cases q11 : x = 11
  · subst q11
    rfl
  rw [if_neg q10, if_neg q11, if_neg q10, if_neg q11]
theorem re_elder {m : Nat → Int} {x y : Int} (h : Inv m) : (if (0 ≤ x ∧ x ≤ 1) ∧ (0 ≤ y ∧ y < m 1) then (if x = 0 then m (32 + y.toNat) else if m 5 ≠ -9 then (nwO m) y.toNat else -9) else -1) = (if (0 ≤ x ∧ x ≤ 1) ∧ (0 ≤ y ∧ y < m 1) then (if x = 0 then (m (32 + y.toNat)) else (if m 5 ≠ -9 then (m (37 + y.toNat)) else (-9))) else (-1)) := by
  have k5 := h.1.2.2.2.2.1
  by_cases c : (0 ≤ x ∧ x ≤ 1) ∧ (0 ≤ y ∧ y < m 1)
  · rw [if_pos c, if_pos c]
    by_cases c0 : x = 0
    · rw [if_pos c0, if_pos c0]
    · rw [if_neg c0, if_neg c0]
      by_cases c5 : m 5 ≠ -9
      · rw [if_pos c5, if_pos c5, nwO_at k5 (by omega), if_pos c5]
        rfl
      · rw [if_neg c5, if_neg c5]
  · rw [if_neg c, if_neg c]
theorem re_villager {m : Nat → Int} {x q : Int} (h : Inv m) : (if 0 ≤ x ∧ x < m 0 then (if q = 0 then m (8 + x.toNat) else if q = 1 then m (20 + x.toNat) else if q = 2 then seatF (fun i => m (32 + i)) x (m 1).toNat else if q = 3 then seatF (nwO m) x (m 1).toNat else if q = 4 then sm (fun i => b2i (m (224 + 5 * i) = x)) (m 7).toNat else -1) else -1) = (if (0 ≤ x ∧ x < m 0) ∧ (0 ≤ q ∧ q ≤ 4) then (if q = 0 then (m (8 + x.toNat)) else (if q = 1 then (m (20 + x.toNat)) else (if q = 2 then (seatL (fun i => m (32 + i)) (x) (m 1).toNat) else (if q = 3 then (seatL (fun i => m ((if m 5 ≠ -9 then (37 : Int) else 32).toNat + i)) (x) (m 1).toNat) else (sm (fun i => b2i (m (224 + 5 * i) = x)) (m 7).toNat))))) else (-1)) := by
  rw [seat_old h, seat_new h]
  by_cases c : 0 ≤ x ∧ x < m 0
  · rw [if_pos c]
    by_cases cq : 0 ≤ q ∧ q ≤ 4
    · rw [if_pos (show (0 ≤ x ∧ x < m 0) ∧ (0 ≤ q ∧ q ≤ 4) from ⟨c, cq⟩)]
      rcases (show q = 0 ∨ q = 1 ∨ q = 2 ∨ q = 3 ∨ q = 4 by omega) with e | e | e | e | e <;> subst e <;> rfl
    · rw [if_neg (show ¬ ((0 ≤ x ∧ x < m 0) ∧ (0 ≤ q ∧ q ≤ 4)) from fun r => cq r.2), if_neg (by omega), if_neg (by omega), if_neg (by omega), if_neg (by omega), if_neg (by omega)]
  · rw [if_neg c, if_neg (fun r => c r.1)]
theorem re_entry {m : Nat → Int} {y q : Int} (h : Inv m) : (if 0 ≤ y ∧ y < m 3 then (if q = 0 then m (42 + 3 * y.toNat) else if q = 1 then m (43 + 3 * y.toNat) else if q = 2 then (if y < m 4 then 1 else 0) else if q = 3 then sm (fun i => b2i ((0 ≤ ((i : Int)) ∧ ((i : Int)) < m 0) ∧ (y) < m (20 + ((i : Int)).toNat))) (m 0).toNat else if q = 4 then m (44 + 3 * y.toNat) else if q = 5 then sm (fun i => b2i (((0 ≤ (m (32 + i)) ∧ (m (32 + i)) < m 0) ∧ (y) < m (20 + (m (32 + i)).toNat)) ∨ (((0) : Int) ≠ 0 ∧ ((0 ≤ (m (32 + i)) ∧ (m (32 + i)) < m 0) ∧ m (8 + (m (32 + i)).toNat) = 1)))) (m 1).toNat else if q = 6 then sm (fun i => b2i (((0 ≤ ((nwO m) i) ∧ ((nwO m) i) < m 0) ∧ (y) < m (20 + ((nwO m) i).toNat)) ∨ (((0) : Int) ≠ 0 ∧ ((0 ≤ ((nwO m) i) ∧ ((nwO m) i) < m 0) ∧ m (8 + ((nwO m) i).toNat) = 1)))) (m 1).toNat else -1) else -1) = (if (0 ≤ y ∧ y < m 3) ∧ (0 ≤ q ∧ q ≤ 6) then (if q = 2 then (if y < m 4 then (1) else (0)) else (if q = 3 then (sm (fun i => b2i (y < m (20 + i))) (m 0).toNat) else (if q = 4 then (m (44 + 3 * y.toNat)) else (if q = 5 then (sm (fun i => b2i ((y) < m (20 + (m (32 + i)).toNat))) (m 1).toNat) else (if q = 6 then (sm (fun i => b2i ((y) < m (20 + (m ((if m 5 ≠ -9 then (37 : Int) else 32).toNat + i)).toNat))) (m 1).toNat) else (m (42 + 3 * y.toNat + q.toNat))))))) else (-1)) := by
  rw [hn_ h, ho_ h]
  have ec : sm (fun i => b2i ((0 ≤ ((i : Int)) ∧ ((i : Int)) < m 0) ∧ (y) < m (20 + ((i : Int)).toNat))) (m 0).toNat = sm (fun i => b2i (y < m (20 + i))) (m 0).toNat := sm_b2i (fun i hi => by
    rw [Int.toNat_natCast]
    exact ⟨fun q => q.2, fun q => ⟨by omega, q⟩⟩)
  rw [ec]
  by_cases c : 0 ≤ y ∧ y < m 3
  · rw [if_pos c]
    by_cases cq : 0 ≤ q ∧ q ≤ 6
    · rw [if_pos (show (0 ≤ y ∧ y < m 3) ∧ (0 ≤ q ∧ q ≤ 6) from ⟨c, cq⟩)]
      rcases (show q = 0 ∨ q = 1 ∨ q = 2 ∨ q = 3 ∨ q = 4 ∨ q = 5 ∨ q = 6 by omega) with e | e | e | e | e | e | e <;> subst e
      · rfl
      · show m (43 + 3 * y.toNat) = m (42 + 3 * y.toNat + 1)
        congr 1
        omega
      · rfl
      · rfl
      · rfl
      · rfl
      · rfl
    · rw [if_neg (show ¬ ((0 ≤ y ∧ y < m 3) ∧ (0 ≤ q ∧ q ≤ 6)) from fun r => cq r.2), if_neg (by omega), if_neg (by omega), if_neg (by omega), if_neg (by omega), if_neg (by omega), if_neg (by omega), if_neg (by omega)]
  · rw [if_neg c, if_neg (fun r => c r.1)]
theorem re_draw {m : Nat → Int} {x q : Int} (h : Inv m) : (if 0 ≤ x ∧ x < m 7 then (if q = 0 then m (222 + 5 * x.toNat) else if q = 1 then m (223 + 5 * x.toNat) else if q = 2 then m (224 + 5 * x.toNat) else if q = 3 then b2i ((0 ≤ x ∧ x < m 7) ∧ m (224 + 5 * x.toNat) ≠ m (225 + 5 * x.toNat)) else if q = 4 then m (226 + 5 * x.toNat) else -1) else -1) = (if (0 ≤ x ∧ x < m 7) ∧ (0 ≤ q ∧ q ≤ 4) then (if q = 3 then (b2i (m (224 + 5 * x.toNat) ≠ m (225 + 5 * x.toNat))) else (m (222 + 5 * x.toNat + q.toNat))) else (-1)) := by
  by_cases c : 0 ≤ x ∧ x < m 7
  · rw [if_pos c]
    by_cases cq : 0 ≤ q ∧ q ≤ 4
    · rw [if_pos (show (0 ≤ x ∧ x < m 7) ∧ (0 ≤ q ∧ q ≤ 4) from ⟨c, cq⟩)]
      have e3 : b2i ((0 ≤ x ∧ x < m 7) ∧ m (224 + 5 * x.toNat) ≠ m (225 + 5 * x.toNat)) = b2i (m (224 + 5 * x.toNat) ≠ m (225 + 5 * x.toNat)) := b2i_congr ⟨fun r => r.2, fun r => ⟨c, r⟩⟩
      rw [e3]
      rcases (show q = 0 ∨ q = 1 ∨ q = 2 ∨ q = 3 ∨ q = 4 by omega) with e | e | e | e | e <;> subst e
      · rfl
      · show m (223 + 5 * x.toNat) = m (222 + 5 * x.toNat + 1)
        congr 1
        omega
      · show m (224 + 5 * x.toNat) = m (222 + 5 * x.toNat + 2)
        congr 1
        omega
      · rfl
      · show m (226 + 5 * x.toNat) = m (222 + 5 * x.toNat + 4)
        congr 1
        omega
    · rw [if_neg (show ¬ ((0 ≤ x ∧ x < m 7) ∧ (0 ≤ q ∧ q ≤ 4)) from fun r => cq r.2), if_neg (by omega), if_neg (by omega), if_neg (by omega), if_neg (by omega), if_neg (by omega)]
  · rw [if_neg c, if_neg (fun r => c r.1)]
