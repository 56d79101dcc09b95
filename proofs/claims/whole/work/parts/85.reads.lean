/-! what the reading calls answer, on both sides -/
theorem hn_ {m : Nat → Int} (h : Inv m) {y : Int} : sm (fun i => b2i ((((0 ≤ (nwO m i) ∧ (nwO m i) < m 0) ∧ (y) < m (20 + (nwO m i).toNat)) ∨ (((0) : Int) ≠ 0 ∧ ((0 ≤ (nwO m i) ∧ (nwO m i) < m 0) ∧ m (8 + (nwO m i).toNat) = 1))))) (m 1).toNat = sm (fun i => b2i (y < m (20 + (m ((if m 5 ≠ -9 then (37 : Int) else 32).toNat + i)).toNat))) (m 1).toNat := hold_new EQ.refl h rfl (fun _ _ => rfl) rfl
theorem ho_ {m : Nat → Int} (h : Inv m) {y : Int} : sm (fun i => b2i ((((0 ≤ (m (32 + i)) ∧ (m (32 + i)) < m 0) ∧ (y) < m (20 + (m (32 + i)).toNat)) ∨ (((0) : Int) ≠ 0 ∧ ((0 ≤ (m (32 + i)) ∧ (m (32 + i)) < m 0) ∧ m (8 + (m (32 + i)).toNat) = 1))))) (m 1).toNat = sm (fun i => b2i (y < m (20 + (m (32 + i)).toNat))) (m 1).toNat := hold_old EQ.refl h rfl
theorem cand_eq {m : Nat → Int} : (fun i : Nat => b2i (¬ (seatF (fun i => m (32 + i)) ((i : Int)) (m 1).toNat ≠ -9))) = fun i : Nat => b2i (seatL (fun i => m (32 + i)) (i : Int) (m 1).toNat = -9) := funext fun i => b2i_congr ⟨fun q => seat_iff.mp (Classical.not_not.mp q), fun q => not_not_intro (seat_iff.mpr q)⟩
theorem common_iff {m : Nat → Int} (h : Inv m) (h5 : m 5 ≠ -9) {i : Nat} (hi : (i : Int) < m 1) : seatF (nwO m) (m (32 + i)) (m 1).toNat ≠ -9 ↔ m (32 + i) = m (37 + i) := by
  have k5 := h.1.2.2.2.2.1
  have hN : ∀ k : Nat, (k : Int) < m 1 → nwO m k = m (37 + k) := fun k hk => by
    rw [nwO_at k5 hk, if_pos h5]
    rfl
  have e := seatF_none (el := nwO m) (v := m (32 + i)) (m 1).toNat
  rcases h.2.2.2.2.2.2.2 with q | ⟨-, -, -, y, -, -, -, y4, -, y6⟩
  · exact absurd q h5
  constructor
  · intro hs
    by_cases hd : m (32 + i) = m (37 + i)
    · exact hd
    · refine absurd (e.mpr (fun k hk hq => ?_)) hs
      rw [hN k (by omega)] at hq
      by_cases hy : k = y
      · subst hy
        exact y6 i hi hq.symm
      · rw [y4 k (by omega) hy] at hq
        have := h.2.2.2.2.2.2.1 k i hk (by omega) hq
        subst this
        exact hd (y4 k hi hy).symm
  · intro hd hs
    exact e.mp hs i (by omega) ((hN i hi).trans hd.symm)
theorem re_count {m : Nat → Int} {x np n : Int} : (if x = 10 then (np) else (if x = 11 then (n) else (if x = 0 then (m 0) else (if x = 1 then (sm (fun i => m (8 + i)) (m 0).toNat) else (if x = 2 then (m 1) else (if x = 3 then (m 2) else (if x = 4 then (m 3) else (if x = 5 then (m 4) else (if x = 6 then (if m 5 ≠ -9 then 1 else 0) else (if x = 7 then (m 6) else (if x = 8 then (m 7) else (if x = 9 then (sm (fun i => b2i ((0 ≤ (i : Int) ∧ (i : Int) < m 7) ∧ m (224 + 5 * (i : Int).toNat) ≠ m (225 + 5 * (i : Int).toNat))) (m 7).toNat) else (-1))))))))))))) = (if x = 0 then (m 0) else (if x = 1 then (sm (fun i => m (8 + i)) (m 0).toNat) else (if x = 2 then (m 1) else (if x = 3 then (m 2) else (if x = 4 then (m 3) else (if x = 5 then (m 4) else (if x = 6 then (if m 5 ≠ -9 then 1 else 0) else (if x = 7 then (m 6) else (if x = 8 then (m 7) else (if x = 9 then (sm (fun i => b2i (m (224 + 5 * i) ≠ m (225 + 5 * i))) (m 7).toNat) else (if x = 10 then (np) else (if x = 11 then (n) else (-1))))))))))))) := by
  have e9 : sm (fun i => b2i ((0 ≤ (i : Int) ∧ (i : Int) < m 7) ∧ m (224 + 5 * (i : Int).toNat) ≠ m (225 + 5 * (i : Int).toNat))) (m 7).toNat = sm (fun i => b2i (m (224 + 5 * i) ≠ m (225 + 5 * i))) (m 7).toNat := sm_b2i (fun i hi => by
    rw [Int.toNat_natCast]
    exact ⟨fun q => q.2, fun q => ⟨by omega, q⟩⟩)
  rw [e9]
  by_cases q10 : x = 10
  · subst q10
    rfl
  by_cases q11 : x = 11
  · subst q11
    rfl
  rw [if_neg q10, if_neg q11, if_neg q10, if_neg q11]
theorem re_elder {m : Nat → Int} {x y : Int} (h : Inv m) : (if (0 ≤ x ∧ x ≤ 1) ∧ (0 ≤ y ∧ y < m 1) then (if x = 0 then m (32 + y.toNat) else if m 5 ≠ -9 then (nwO m) y.toNat else -9) else -1) = (if (0 ≤ x ∧ x ≤ 1) ∧ (0 ≤ y ∧ y < m 1) then (if x = 0 then (m (32 + y.toNat)) else (if m 5 ≠ -9 then (m (37 + y.toNat)) else (-9))) else (-1)) := by
  have k5 := h.1.2.2.2.2.1
  by_cases c : (0 ≤ x ∧ x ≤ 1) ∧ (0 ≤ y ∧ y < m 1)
  · rw [if_pos c, if_pos c]
    by_cases c0 : x = 0
    · rw [if_pos c0, if_pos c0]
    · rw [if_neg c0, if_neg c0]
      by_cases c5 : m 5 ≠ -9
      · rw [if_pos c5, if_pos c5, nwO_at k5 (by omega), if_pos c5]
        rfl
      · rw [if_neg c5, if_neg c5]
  · rw [if_neg c, if_neg c]
theorem re_villager {m : Nat → Int} {x q : Int} (h : Inv m) : (if 0 ≤ x ∧ x < m 0 then (if q = 0 then m (8 + x.toNat) else if q = 1 then m (20 + x.toNat) else if q = 2 then seatF (fun i => m (32 + i)) x (m 1).toNat else if q = 3 then seatF (nwO m) x (m 1).toNat else if q = 4 then sm (fun i => b2i (m (224 + 5 * i) = x)) (m 7).toNat else -1) else -1) = (if (0 ≤ x ∧ x < m 0) ∧ (0 ≤ q ∧ q ≤ 4) then (if q = 0 then (m (8 + x.toNat)) else (if q = 1 then (m (20 + x.toNat)) else (if q = 2 then (seatL (fun i => m (32 + i)) (x) (m 1).toNat) else (if q = 3 then (seatL (fun i => m ((if m 5 ≠ -9 then (37 : Int) else 32).toNat + i)) (x) (m 1).toNat) else (sm (fun i => b2i (m (224 + 5 * i) = x)) (m 7).toNat))))) else (-1)) := by
  rw [seat_old h, seat_new h]
  by_cases c : 0 ≤ x ∧ x < m 0
  · rw [if_pos c]
    by_cases cq : 0 ≤ q ∧ q ≤ 4
    · rw [if_pos (show (0 ≤ x ∧ x < m 0) ∧ (0 ≤ q ∧ q ≤ 4) from ⟨c, cq⟩)]
      rcases (show q = 0 ∨ q = 1 ∨ q = 2 ∨ q = 3 ∨ q = 4 by omega) with e | e | e | e | e <;> subst e <;> rfl
    · rw [if_neg (show ¬ ((0 ≤ x ∧ x < m 0) ∧ (0 ≤ q ∧ q ≤ 4)) from fun r => cq r.2), if_neg (by omega), if_neg (by omega), if_neg (by omega), if_neg (by omega), if_neg (by omega)]
  · rw [if_neg c, if_neg (fun r => c r.1)]
theorem re_entry {m : Nat → Int} {y q : Int} (h : Inv m) : (if 0 ≤ y ∧ y < m 3 then (if q = 0 then m (42 + 3 * y.toNat) else if q = 1 then m (43 + 3 * y.toNat) else if q = 2 then (if y < m 4 then 1 else 0) else if q = 3 then sm (fun i => b2i ((0 ≤ ((i : Int)) ∧ ((i : Int)) < m 0) ∧ (y) < m (20 + ((i : Int)).toNat))) (m 0).toNat else if q = 4 then m (44 + 3 * y.toNat) else if q = 5 then sm (fun i => b2i (((0 ≤ (m (32 + i)) ∧ (m (32 + i)) < m 0) ∧ (y) < m (20 + (m (32 + i)).toNat)) ∨ (((0) : Int) ≠ 0 ∧ ((0 ≤ (m (32 + i)) ∧ (m (32 + i)) < m 0) ∧ m (8 + (m (32 + i)).toNat) = 1)))) (m 1).toNat else if q = 6 then sm (fun i => b2i (((0 ≤ ((nwO m) i) ∧ ((nwO m) i) < m 0) ∧ (y) < m (20 + ((nwO m) i).toNat)) ∨ (((0) : Int) ≠ 0 ∧ ((0 ≤ ((nwO m) i) ∧ ((nwO m) i) < m 0) ∧ m (8 + ((nwO m) i).toNat) = 1)))) (m 1).toNat else -1) else -1) = (if (0 ≤ y ∧ y < m 3) ∧ (0 ≤ q ∧ q ≤ 6) then (if q = 2 then (if y < m 4 then (1) else (0)) else (if q = 3 then (sm (fun i => b2i (y < m (20 + i))) (m 0).toNat) else (if q = 4 then (m (44 + 3 * y.toNat)) else (if q = 5 then (sm (fun i => b2i ((y) < m (20 + (m (32 + i)).toNat))) (m 1).toNat) else (if q = 6 then (sm (fun i => b2i ((y) < m (20 + (m ((if m 5 ≠ -9 then (37 : Int) else 32).toNat + i)).toNat))) (m 1).toNat) else (m (42 + 3 * y.toNat + q.toNat))))))) else (-1)) := by
  rw [hn_ h, ho_ h]
  have ec : sm (fun i => b2i ((0 ≤ ((i : Int)) ∧ ((i : Int)) < m 0) ∧ (y) < m (20 + ((i : Int)).toNat))) (m 0).toNat = sm (fun i => b2i (y < m (20 + i))) (m 0).toNat := sm_b2i (fun i hi => by
    rw [Int.toNat_natCast]
    exact ⟨fun q => q.2, fun q => ⟨by omega, q⟩⟩)
  rw [ec]
  by_cases c : 0 ≤ y ∧ y < m 3
  · rw [if_pos c]
    by_cases cq : 0 ≤ q ∧ q ≤ 6
    · rw [if_pos (show (0 ≤ y ∧ y < m 3) ∧ (0 ≤ q ∧ q ≤ 6) from ⟨c, cq⟩)]
      rcases (show q = 0 ∨ q = 1 ∨ q = 2 ∨ q = 3 ∨ q = 4 ∨ q = 5 ∨ q = 6 by omega) with e | e | e | e | e | e | e <;> subst e
      · rfl
      · show m (43 + 3 * y.toNat) = m (42 + 3 * y.toNat + 1)
        congr 1
        omega
      · rfl
      · rfl
      · rfl
      · rfl
      · rfl
    · rw [if_neg (show ¬ ((0 ≤ y ∧ y < m 3) ∧ (0 ≤ q ∧ q ≤ 6)) from fun r => cq r.2), if_neg (by omega), if_neg (by omega), if_neg (by omega), if_neg (by omega), if_neg (by omega), if_neg (by omega), if_neg (by omega)]
  · rw [if_neg c, if_neg (fun r => c r.1)]
theorem re_draw {m : Nat → Int} {x q : Int} (h : Inv m) : (if 0 ≤ x ∧ x < m 7 then (if q = 0 then m (222 + 5 * x.toNat) else if q = 1 then m (223 + 5 * x.toNat) else if q = 2 then m (224 + 5 * x.toNat) else if q = 3 then b2i ((0 ≤ x ∧ x < m 7) ∧ m (224 + 5 * x.toNat) ≠ m (225 + 5 * x.toNat)) else if q = 4 then m (226 + 5 * x.toNat) else -1) else -1) = (if (0 ≤ x ∧ x < m 7) ∧ (0 ≤ q ∧ q ≤ 4) then (if q = 3 then (b2i (m (224 + 5 * x.toNat) ≠ m (225 + 5 * x.toNat))) else (m (222 + 5 * x.toNat + q.toNat))) else (-1)) := by
  by_cases c : 0 ≤ x ∧ x < m 7
  · rw [if_pos c]
    by_cases cq : 0 ≤ q ∧ q ≤ 4
    · rw [if_pos (show (0 ≤ x ∧ x < m 7) ∧ (0 ≤ q ∧ q ≤ 4) from ⟨c, cq⟩)]
      have e3 : b2i ((0 ≤ x ∧ x < m 7) ∧ m (224 + 5 * x.toNat) ≠ m (225 + 5 * x.toNat)) = b2i (m (224 + 5 * x.toNat) ≠ m (225 + 5 * x.toNat)) := b2i_congr ⟨fun r => r.2, fun r => ⟨c, r⟩⟩
      rw [e3]
      rcases (show q = 0 ∨ q = 1 ∨ q = 2 ∨ q = 3 ∨ q = 4 by omega) with e | e | e | e | e <;> subst e
      · rfl
      · show m (223 + 5 * x.toNat) = m (222 + 5 * x.toNat + 1)
        congr 1
        omega
      · show m (224 + 5 * x.toNat) = m (222 + 5 * x.toNat + 2)
        congr 1
        omega
      · rfl
      · show m (226 + 5 * x.toNat) = m (222 + 5 * x.toNat + 4)
        congr 1
        omega
    · rw [if_neg (show ¬ ((0 ≤ x ∧ x < m 7) ∧ (0 ≤ q ∧ q ≤ 4)) from fun r => cq r.2), if_neg (by omega), if_neg (by omega), if_neg (by omega), if_neg (by omega), if_neg (by omega)]
  · rw [if_neg c, if_neg (fun r => c r.1)]
theorem re_nextDrawn {m : Nat → Int} {y : Int} (h : Inv m) : (if 0 ≤ y ∧ y < m 1 then (if m 5 ≠ -9 then -2 else (if sm (fun i => b2i (¬ (seatF (fun i => m (32 + i)) ((i : Int)) (m 1).toNat ≠ -9))) (m 0).toNat ≤ 0 then -9 else pick (fun i => b2i (¬ (seatF (fun i => m (32 + i)) ((i : Int)) (m 1).toNat ≠ -9))) (((m 6) * 25173 + 13849) % 65536 % sm (fun i => b2i (¬ (seatF (fun i => m (32 + i)) ((i : Int)) (m 1).toNat ≠ -9))) (m 0).toNat) (m 0).toNat)) else -1) = (if 0 ≤ y ∧ y < m 1 then (if m 5 ≠ -9 then (-2) else (if sm (fun i => b2i (seatL (fun i => m (32 + i)) (i : Int) (m 1).toNat = -9)) (m 0).toNat = 0 then (-9) else (pickL (fun i => b2i (seatL (fun i => m (32 + i)) (i : Int) (m 1).toNat = -9)) (((m 6) * 25173 + 13849) % 65536 % sm (fun i => b2i (seatL (fun i => m (32 + i)) (i : Int) (m 1).toNat = -9)) (m 0).toNat) (m 0).toNat))) else (-1)) := by
  rw [cand_eq]
  by_cases c : 0 ≤ y ∧ y < m 1
  · rw [if_pos c, if_pos c]
    by_cases c5 : m 5 ≠ -9
    · rw [if_pos c5, if_pos c5]
    · rw [if_neg c5, if_neg c5]
      have r := sm_rg (f := fun i : Nat => b2i (seatL (fun i => m (32 + i)) (i : Int) (m 1).toNat = -9)) (fun k => b2i_rg) (m 0).toNat
      by_cases c0 : sm (fun i : Nat => b2i (seatL (fun i => m (32 + i)) (i : Int) (m 1).toNat = -9)) (m 0).toNat = 0
      · rw [if_pos c0, if_pos (by omega)]
      · rw [if_neg c0, if_neg (by omega)]
        exact pick_eq (fun k => b2i_rg.1) _
  · rw [if_neg c, if_neg c]
theorem re_missing {m : Nat → Int} {y : Int} (h : Inv m) : (if 0 ≤ y ∧ y < m 3 then (if y < m 4 then 0 else (if ((b2i (m 5 ≠ -9 ∧ (y) ≤ m 5)) : Int) = 0 then max 0 ((m 1) / 2 + 1 - sm (fun i => b2i (((0 ≤ ((nwO m) i) ∧ ((nwO m) i) < m 0) ∧ (y) < m (20 + ((nwO m) i).toNat)) ∨ (((0) : Int) ≠ 0 ∧ ((0 ≤ ((nwO m) i) ∧ ((nwO m) i) < m 0) ∧ m (8 + ((nwO m) i).toNat) = 1)))) (m 1).toNat) else max 0 (m 1 / 2 + 1 - sm (fun i => b2i (((0 ≤ (m (32 + i)) ∧ (m (32 + i)) < m 0) ∧ (y) < m (20 + (m (32 + i)).toNat)) ∨ (((0) : Int) ≠ 0 ∧ ((0 ≤ (m (32 + i)) ∧ (m (32 + i)) < m 0) ∧ m (8 + (m (32 + i)).toNat) = 1)))) (m 1).toNat) + max 0 ((m 1) / 2 + 1 - sm (fun i => b2i (((0 ≤ ((nwO m) i) ∧ ((nwO m) i) < m 0) ∧ (y) < m (20 + ((nwO m) i).toNat)) ∨ (((0) : Int) ≠ 0 ∧ ((0 ≤ ((nwO m) i) ∧ ((nwO m) i) < m 0) ∧ m (8 + ((nwO m) i).toNat) = 1)))) (m 1).toNat) - min (min (max 0 (m 1 / 2 + 1 - sm (fun i => b2i (((0 ≤ (m (32 + i)) ∧ (m (32 + i)) < m 0) ∧ (y) < m (20 + (m (32 + i)).toNat)) ∨ (((0) : Int) ≠ 0 ∧ ((0 ≤ (m (32 + i)) ∧ (m (32 + i)) < m 0) ∧ m (8 + (m (32 + i)).toNat) = 1)))) (m 1).toNat)) (max 0 ((m 1) / 2 + 1 - sm (fun i => b2i (((0 ≤ ((nwO m) i) ∧ ((nwO m) i) < m 0) ∧ (y) < m (20 + ((nwO m) i).toNat)) ∨ (((0) : Int) ≠ 0 ∧ ((0 ≤ ((nwO m) i) ∧ ((nwO m) i) < m 0) ∧ m (8 + ((nwO m) i).toNat) = 1)))) (m 1).toNat))) (sm (fun i => b2i ((seatF (nwO m) (m (32 + i)) (m 1).toNat ≠ -9) ∧ ¬ ((0 ≤ (m (32 + i)) ∧ (m (32 + i)) < m 0) ∧ (y) < m (20 + (m (32 + i)).toNat)))) (m 1).toNat))) else -1) = (if 0 ≤ y ∧ y < m 3 then (if y < m 4 then (0) else (if m 5 = -9 ∨ m 5 < y then (max 0 (m 1 / 2 + 1 - sm (fun i => b2i ((y) < m (20 + (m ((if m 5 ≠ -9 then (37 : Int) else 32).toNat + i)).toNat))) (m 1).toNat)) else (fewM (m 1 / 2 + 1 - sm (fun i => b2i ((y) < m (20 + (m (32 + i)).toNat))) (m 1).toNat) (m 1 / 2 + 1 - sm (fun i => b2i ((y) < m (20 + (m ((if m 5 ≠ -9 then (37 : Int) else 32).toNat + i)).toNat))) (m 1).toNat) (sm (fun i => b2i (m (32 + i) = m (37 + i) ∧ m (20 + (m (32 + i)).toNat) ≤ y)) (m 1).toNat)))) else (-1)) := by
  rw [hn_ h, ho_ h]
  by_cases c : 0 ≤ y ∧ y < m 3
  · rw [if_pos c, if_pos c]
    by_cases c4 : y < m 4
    · rw [if_pos c4, if_pos c4]
    · rw [if_neg c4, if_neg c4]
      by_cases c5 : m 5 = -9 ∨ m 5 < y
      · rw [if_pos c5, if_pos (b2i_f (by omega))]
      · rw [if_neg c5, if_neg (by rw [b2i_t (show m 5 ≠ -9 ∧ y ≤ m 5 by omega)]; omega)]
        have ec : sm (fun i => b2i ((seatF (nwO m) (m (32 + i)) (m 1).toNat ≠ -9) ∧ ¬ ((0 ≤ (m (32 + i)) ∧ (m (32 + i)) < m 0) ∧ (y) < m (20 + (m (32 + i)).toNat)))) (m 1).toNat = sm (fun i => b2i (m (32 + i) = m (37 + i) ∧ m (20 + (m (32 + i)).toNat) ≤ y)) (m 1).toNat := sm_b2i (fun i hi => by
          have k := common_iff h (by omega) (i := i) (by omega)
          have o := h.old (i := i) (by omega)
          rw [k]
          exact ⟨fun r => ⟨r.1, by have r2 := r.2; omega⟩, fun r => ⟨r.1, by have r2 := r.2; omega⟩⟩)
        rw [ec]
        exact few_eq (sm_rg (fun k => b2i_rg) _).1
  · rw [if_neg c, if_neg c]
theorem re_spare {m : Nat → Int} (h : Inv m) : (if m 1 = 0 then -9 else m 0 - (if ((b2i (m 5 ≠ -9)) : Int) = 0 then max 0 ((m 1) / 2 + 1 - sm (fun i => b2i (((0 ≤ ((nwO m) i) ∧ ((nwO m) i) < m 0) ∧ (m 3) < m (20 + ((nwO m) i).toNat)) ∨ (((0) : Int) ≠ 0 ∧ ((0 ≤ ((nwO m) i) ∧ ((nwO m) i) < m 0) ∧ m (8 + ((nwO m) i).toNat) = 1)))) (m 1).toNat) else max 0 (m 1 / 2 + 1 - sm (fun i => b2i (((0 ≤ (m (32 + i)) ∧ (m (32 + i)) < m 0) ∧ (m 3) < m (20 + (m (32 + i)).toNat)) ∨ (((0) : Int) ≠ 0 ∧ ((0 ≤ (m (32 + i)) ∧ (m (32 + i)) < m 0) ∧ m (8 + (m (32 + i)).toNat) = 1)))) (m 1).toNat) + max 0 ((m 1) / 2 + 1 - sm (fun i => b2i (((0 ≤ ((nwO m) i) ∧ ((nwO m) i) < m 0) ∧ (m 3) < m (20 + ((nwO m) i).toNat)) ∨ (((0) : Int) ≠ 0 ∧ ((0 ≤ ((nwO m) i) ∧ ((nwO m) i) < m 0) ∧ m (8 + ((nwO m) i).toNat) = 1)))) (m 1).toNat) - min (min (max 0 (m 1 / 2 + 1 - sm (fun i => b2i (((0 ≤ (m (32 + i)) ∧ (m (32 + i)) < m 0) ∧ (m 3) < m (20 + (m (32 + i)).toNat)) ∨ (((0) : Int) ≠ 0 ∧ ((0 ≤ (m (32 + i)) ∧ (m (32 + i)) < m 0) ∧ m (8 + (m (32 + i)).toNat) = 1)))) (m 1).toNat)) (max 0 ((m 1) / 2 + 1 - sm (fun i => b2i (((0 ≤ ((nwO m) i) ∧ ((nwO m) i) < m 0) ∧ (m 3) < m (20 + ((nwO m) i).toNat)) ∨ (((0) : Int) ≠ 0 ∧ ((0 ≤ ((nwO m) i) ∧ ((nwO m) i) < m 0) ∧ m (8 + ((nwO m) i).toNat) = 1)))) (m 1).toNat))) (sm (fun i => b2i ((seatF (nwO m) (m (32 + i)) (m 1).toNat ≠ -9) ∧ ¬ ((0 ≤ (m (32 + i)) ∧ (m (32 + i)) < m 0) ∧ (m 3) < m (20 + (m (32 + i)).toNat)))) (m 1).toNat))) = (if m 1 = 0 then (-9) else (if m 5 ≠ -9 then (m 0 - fewM (m 1 / 2 + 1) (m 1 / 2 + 1) (m 1 - 1)) else (m 0 - (m 1 / 2 + 1)))) := by
  have k5 := h.1.2.2.2.2.1
  have k1 := h.1.2.2.2.1
  have k12 := h.1.2.2.1
  rw [hn_ h, ho_ h]
  by_cases c1 : m 1 = 0
  · rw [if_pos c1, if_pos c1]
  · rw [if_neg c1, if_neg c1]
    have zo : sm (fun i => b2i (m 3 < m (20 + (m (32 + i)).toNat))) (m 1).toNat = 0 := sm_zero _ (fun i hi => b2i_f (by
      have o := h.old (i := i) (by omega)
      have := h.2.2.2.2.1 (m (32 + i)).toNat (by omega)
      omega))
    have zn : sm (fun i => b2i (m 3 < m (20 + (m ((if m 5 ≠ -9 then (37 : Int) else 32).toNat + i)).toNat))) (m 1).toNat = 0 := sm_zero _ (fun i hi => b2i_f (by
      have o := h.new (i := i) (by omega)
      have := h.2.2.2.2.1 (m ((if m 5 ≠ -9 then (37 : Int) else 32).toNat + i)).toNat (by omega)
      omega))
    rw [zo, zn]
    by_cases c5 : m 5 ≠ -9
    · rw [if_pos c5, if_neg (by rw [b2i_t c5]; omega)]
      rcases h.2.2.2.2.2.2.2 with q | ⟨-, -, -, y, -, y2, -, y4, -, y6⟩
      · exact absurd q c5
      have ec : sm (fun i => b2i ((seatF (nwO m) (m (32 + i)) (m 1).toNat ≠ -9) ∧ ¬ ((0 ≤ (m (32 + i)) ∧ (m (32 + i)) < m 0) ∧ (m 3) < m (20 + (m (32 + i)).toNat)))) (m 1).toNat = m 1 - 1 := by
        rw [sm_one (y := y) (m 1).toNat (fun i hi => ?_), if_pos (by omega)]
        · omega
        · have k := common_iff h c5 (i := i) (by omega)
          have o := h.old (i := i) (by omega)
          have b := h.2.2.2.2.1 (m (32 + i)).toNat (by omega)
          by_cases hy : i = y
          · rw [if_pos hy]
            refine b2i_f (fun r => ?_)
            have r1 := k.mp r.1
            subst hy
            exact y6 i (by omega) r1
          · rw [if_neg hy]
            exact b2i_t ⟨k.mpr (y4 i (by omega) hy).symm, fun r => by omega⟩
      rw [ec]
      have := few_eq (x := m 1 / 2 + 1 - 0) (y := m 1 / 2 + 1 - 0) (z := m 1 - 1) (by omega)
      rw [show m 1 / 2 + 1 - 0 = m 1 / 2 + 1 by omega] at *
      omega
    · rw [if_neg c5, if_pos (b2i_f c5)]
      omega
theorem re_lotFor {m : Nat → Int} {x y : Int} (h : Inv m) : (if (0 ≤ x ∧ x < m 0) ∧ (0 ≤ y ∧ y < m 1) then (if m 5 ≠ -9 then -2 else if (seatF (fun i => m (32 + i)) (x) (m 1).toNat ≠ -9) ∨ sm (fun i => b2i (¬ (seatF (fun i => m (32 + i)) ((i : Int)) (m 1).toNat ≠ -9))) (m 0).toNat ≤ 0 then -9 else seatF (fun i => (((i : Int)) * 25173 + 13849) % 65536 % sm (fun i => b2i (¬ (seatF (fun i => m (32 + i)) ((i : Int)) (m 1).toNat ≠ -9))) (m 0).toNat) (sm (fun i => b2i (¬ (seatF (fun i => m (32 + i)) ((i : Int)) (m 1).toNat ≠ -9))) x.toNat) 65536) else -1) = (if (0 ≤ x ∧ x < m 0) ∧ (0 ≤ y ∧ y < m 1) then (if m 5 ≠ -9 then (-2) else (if seatL (fun i => m (32 + i)) (x) (m 1).toNat ≠ -9 then (-9) else (seatF (fun i => pickL (fun i => b2i (seatL (fun i => m (32 + i)) (i : Int) (m 1).toNat = -9)) ((((i : Int)) * 25173 + 13849) % 65536 % sm (fun i => b2i (seatL (fun i => m (32 + i)) (i : Int) (m 1).toNat = -9)) (m 0).toNat) (m 0).toNat) x 65536))) else (-1)) := by
  have k0 := h.1.2.1
  rw [cand_eq, seat_old h]
  by_cases c : (0 ≤ x ∧ x < m 0) ∧ (0 ≤ y ∧ y < m 1)
  · rw [if_pos c, if_pos c]
    by_cases c5 : m 5 ≠ -9
    · rw [if_pos c5, if_pos c5]
    · rw [if_neg c5, if_neg c5]
      by_cases cx : seatL (fun i => m (32 + i)) (x) (m 1).toNat ≠ -9
      · rw [if_pos cx, if_pos (Or.inl cx)]
      · have hf : ∀ k : Nat, 0 ≤ (fun i : Nat => b2i (seatL (fun i => m (32 + i)) (i : Int) (m 1).toNat = -9)) k ∧ (fun i : Nat => b2i (seatL (fun i => m (32 + i)) (i : Int) (m 1).toNat = -9)) k ≤ 1 := fun k => b2i_rg
        have f1 : (fun i : Nat => b2i (seatL (fun i => m (32 + i)) (i : Int) (m 1).toNat = -9)) x.toNat = 1 := b2i_t (by
          rw [Int.toNat_of_nonneg c.1.1]
          exact Classical.not_not.mp cx)
        generalize (fun i : Nat => b2i (seatL (fun i => m (32 + i)) (i : Int) (m 1).toNat = -9)) = f at *
        have l := sm_lt1 hf (i := x.toNat) (n := (m 0).toNat) (by omega) f1
        rw [if_neg cx, if_neg (by omega)]
        refine seatF_iff 65536 (fun i hi => ⟨fun e => ?_, fun e => ?_⟩)
        · have := pickL_at (fun k => (hf k).1) (i := x.toNat) (n := (m 0).toNat) (by omega) ⟨f1, e.symm⟩
          rw [this, Int.toNat_of_nonneg c.1.1]
        · have := pickL_sound (i := x.toNat) (m 0).toNat (e.trans (Int.toNat_of_nonneg c.1.1).symm)
          exact this.2.2.symm
  · rw [if_neg c, if_neg c]
