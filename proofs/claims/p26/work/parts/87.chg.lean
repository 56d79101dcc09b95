/-! change and forge, on both sides -/
/-- the state behind a change's call, but for the new council -/
def chgG (m : Nat → Int) (x y n v : Int) : Nat → Int := (fun j : Nat => if j = 20 + x.toNat then m 3 + 1 else if j = 3 then m 3 + 1 else if j = 44 + 3 * (m 3).toNat then x else if j = 43 + 3 * (m 3).toNat then m 2 else if j = 42 + 3 * (m 3).toNat then -9 else if j = 5 then m 3 else if j = 6 then (m 6 * 25173 + 13849) % 65536 else if j = 7 then m 7 + 1 else if j = 226 + 5 * (m 7).toNat then y else if j = 224 + 5 * (m 7).toNat then v else if j = 225 + 5 * (m 7).toNat then v else if j = 223 + 5 * (m 7).toNat then n else if j = 222 + 5 * (m 7).toNat then m 6 else m j)
theorem chgG_m {m : Nat → Int} {x y n v : Int} {j : Nat} (h : j ≠ 3 ∧ j ≠ 5 ∧ j ≠ 6 ∧ j ≠ 7 ∧ j < 42 ∧ j ≠ 20 + x.toNat) : chgG m x y n v j = m j := by
  unfold chgG
  rw [if_neg (by omega), if_neg (by omega), if_neg (by omega), if_neg (by omega), if_neg (by omega), if_neg (by omega), if_neg (by omega), if_neg (by omega), if_neg (by omega), if_neg (by omega), if_neg (by omega), if_neg (by omega), if_neg (by omega)]
theorem chgG_x {m : Nat → Int} {x y n v : Int} : chgG m x y n v (20 + x.toNat) = m 3 + 1 := by
  unfold chgG
  rw [if_pos rfl]
theorem chgG_3 {m : Nat → Int} {x y n v : Int} : chgG m x y n v 3 = m 3 + 1 := by
  unfold chgG
  rw [if_neg (by omega), if_pos rfl]
theorem chgG_5 {m : Nat → Int} {x y n v : Int} : chgG m x y n v 5 = m 3 := by
  unfold chgG
  rw [if_neg (by omega), if_neg (by omega), if_neg (by omega), if_neg (by omega), if_neg (by omega), if_pos rfl]
theorem chgG_7 {m : Nat → Int} {x y n v : Int} : chgG m x y n v 7 = m 7 + 1 := by
  unfold chgG
  rw [if_neg (by omega), if_neg (by omega), if_neg (by omega), if_neg (by omega), if_neg (by omega), if_neg (by omega), if_neg (by omega), if_pos rfl]
theorem chgG_226 {m : Nat → Int} {x y n v : Int} (hx : x < 12) (h3 : m 3 < 60) : chgG m x y n v (226 + 5 * (m 7).toNat) = y := by
  unfold chgG
  rw [if_neg (by omega), if_neg (by omega), if_neg (by omega), if_neg (by omega), if_neg (by omega), if_neg (by omega), if_neg (by omega), if_neg (by omega), if_pos rfl]
theorem chgG_224 {m : Nat → Int} {x y n v : Int} (hx : x < 12) (h3 : m 3 < 60) : chgG m x y n v (224 + 5 * (m 7).toNat) = v := by
  unfold chgG
  rw [if_neg (by omega), if_neg (by omega), if_neg (by omega), if_neg (by omega), if_neg (by omega), if_neg (by omega), if_neg (by omega), if_neg (by omega), if_neg (by omega), if_pos rfl]
theorem chg_A {m : Nat → Int} {x y n v : Int} (h3 : 0 ≤ m 3) : addS (up (wrS m n v y) 5 ((wrS m n v y) 3)) x (-9) = chgG m x y n v := by
  have e : ∀ j, j < 222 → j ≠ 6 → j ≠ 7 → wrS m n v y j = m j := fun j a b c => by
    unfold wrS
    rw [up_ne b, up_ne c, up_ne (by omega), up_ne (by omega), up_ne (by omega), up_ne (by omega), up_ne (by omega)]
  rw [e 3 (by omega) (by omega) (by omega)]
  have q3 : up (wrS m n v y) 5 (m 3) 3 = m 3 := by rw [up_ne (by omega), e 3 (by omega) (by omega) (by omega)]
  have q2 : up (wrS m n v y) 5 (m 3) 2 = m 2 := by rw [up_ne (by omega), e 2 (by omega) (by omega) (by omega)]
  funext j
  unfold addS
  rw [q3, q2]
  rfl
theorem chg_C {m cA cB cC : Nat → Int} {nn vi y : Int} (h1 : m 1 ≤ 5) (e_cA : cA = chA m nn) (e_cB : cB = chB cA (m 7).toNat vi y) (e_cC : cC = blk cB 37 (fun i => if (i : Int) = y then vi else cB (32 + i)) (m 1).toNat) {j : Nat} (hj : ¬ (37 ≤ j ∧ j < 42)) : cC j = if j = 6 then (m 6 * 25173 + 13849) % 65536 else if j = 7 then m 7 + 1 else if j = 226 + 5 * (m 7).toNat then y else if j = 224 + 5 * (m 7).toNat then vi else if j = 225 + 5 * (m 7).toNat then vi else if j = 223 + 5 * (m 7).toNat then nn else if j = 222 + 5 * (m 7).toNat then m 6 else m j := by
  rw [e_cC, blk_out (by omega), e_cB]
  have a7 : cA 7 = m 7 := by
    rw [e_cA, chA_ne (by omega)]
  have hA : ∀ j, cA j = if j = 6 then (m 6 * 25173 + 13849) % 65536 else if j = 223 + 5 * (m 7).toNat then nn else if j = 222 + 5 * (m 7).toNat then m 6 else m j := fun j => by
    rw [e_cA]
    rfl
  show (if j = 7 then cA 7 + 1 else if j = 226 + 5 * (m 7).toNat then y else if j = 225 + 5 * (m 7).toNat then vi else if j = 224 + 5 * (m 7).toNat then vi else cA j) = _
  rw [a7, hA j]
  by_cases j6 : j = 6
  · rw [if_pos j6, if_pos j6, if_neg (by omega), if_neg (by omega), if_neg (by omega), if_neg (by omega)]
  rw [if_neg j6, if_neg j6]
  by_cases j7 : j = 7
  · rw [if_pos j7, if_pos j7]
  rw [if_neg j7, if_neg j7]
  by_cases ja : j = 226 + 5 * (m 7).toNat
  · rw [if_pos ja, if_pos ja]
  rw [if_neg ja, if_neg ja]
  by_cases jb : j = 225 + 5 * (m 7).toNat
  · rw [if_pos jb, if_neg (by omega), if_pos jb]
  rw [if_neg jb, if_neg jb]
theorem chg_W {m cC : Nat → Int} {x y n v : Int} (h3 : 0 ≤ m 3 ∧ m 3 < 60) (hx : 0 ≤ x ∧ x < 12) (hc : m (20 + x.toNat) = m 3) (h : ∀ j, ¬ (37 ≤ j ∧ j < 42) → cC j = if j = 6 then (m 6 * 25173 + 13849) % 65536 else if j = 7 then m 7 + 1 else if j = 226 + 5 * (m 7).toNat then y else if j = 224 + 5 * (m 7).toNat then v else if j = 225 + 5 * (m 7).toNat then v else if j = 223 + 5 * (m 7).toNat then n else if j = 222 + 5 * (m 7).toNat then m 6 else m j) {j : Nat} (hj : ¬ (37 ≤ j ∧ j < 42)) : up (wtS cC x (-9)) 5 (cC 3) j = chgG m x y n v j := by
  have e : ∀ j, j < 37 → j ≠ 6 → j ≠ 7 → cC j = m j := fun j a b c => by
    rw [h j (by omega), if_neg (by omega), if_neg (by omega), if_neg (by omega), if_neg (by omega), if_neg (by omega), if_neg (by omega), if_neg (by omega)]
  have c3 := e 3 (by omega) (by omega) (by omega)
  have c2 := e 2 (by omega) (by omega) (by omega)
  have cx := e (20 + x.toNat) (by omega) (by omega) (by omega)
  by_cases j5 : j = 5
  · subst j5
    rw [up_at rfl, c3, chgG_5]
  rw [up_ne j5, wtS_at (by omega) hx, c3, c2, cx, hc, h j hj]
  unfold chgG
  rw [if_neg j5]
theorem change_act {m pa cA cB cC : Nat → Int} {np x y dr nn vi : Int} (h : Inv m) (edr : dr = if sm (fun i => b2i (¬ (seatF (fun i => m (32 + i)) ((i : Int)) (m 1).toNat ≠ -9))) (m 0).toNat ≤ 0 then -9 else pick (fun i => b2i (¬ (seatF (fun i => m (32 + i)) ((i : Int)) (m 1).toNat ≠ -9))) (((m 6) * 25173 + 13849) % 65536 % sm (fun i => b2i (¬ (seatF (fun i => m (32 + i)) ((i : Int)) (m 1).toNat ≠ -9))) (m 0).toNat) (m 0).toNat) (e_nn : nn = sm (fun i => b2i (seatL (fun i => m (32 + i)) (i : Int) (m 1).toNat = -9)) (m 0).toNat) (e_cA : cA = chA m nn) (evi : vi = pickL (fun i => b2i (seatL (fun i => cA (32 + i)) (i : Int) (cA 1).toNat = -9)) (cA 6 % nn) (cA 0).toNat) (e_cB : cB = chB cA (m 7).toNat vi y) (e_cC : cC = blk cB 37 (fun i => if (i : Int) = y then vi else cB (32 + i)) (m 1).toNat) : nn = sm (fun i => b2i (seatL (fun i => cA (32 + i)) (i : Int) (cA 1).toNat = -9)) (cA 0).toNat ∧ ActP m pa np (if ¬ (0 ≤ x ∧ x < m 0) ∨ ¬ (0 ≤ y ∧ y < m 1) then (m) else (if m 5 ≠ -9 ∨ ¬ (((seatF (fun i => m (32 + i)) (x) (m 1).toNat ≠ -9) ∨ (seatF (nwO m) (x) (m 1).toNat ≠ -9)) ∧ ((0 ≤ (x) ∧ (x) < m 0) ∧ m (8 + (x).toNat) = 1)) ∨ m (20 + x.toNat) < m 3 ∨ dr = -9 then (m) else (if 60 ≤ m 3 then (m) else (agS (m 1) (up (nwO m) y.toNat dr) ((addS (up (wrS m (sm (fun i => b2i (¬ (seatF (fun i => m (32 + i)) ((i : Int)) (m 1).toNat ≠ -9))) (m 0).toNat) dr y) 5 ((wrS m (sm (fun i => b2i (¬ (seatF (fun i => m (32 + i)) ((i : Int)) (m 1).toNat ≠ -9))) (m 0).toNat) dr y) 3)) x (-9)) 3 - (addS (up (wrS m (sm (fun i => b2i (¬ (seatF (fun i => m (32 + i)) ((i : Int)) (m 1).toNat ≠ -9))) (m 0).toNat) dr y) 5 ((wrS m (sm (fun i => b2i (¬ (seatF (fun i => m (32 + i)) ((i : Int)) (m 1).toNat ≠ -9))) (m 0).toNat) dr y) 3)) x (-9)) 4).toNat (addS (up (wrS m (sm (fun i => b2i (¬ (seatF (fun i => m (32 + i)) ((i : Int)) (m 1).toNat ≠ -9))) (m 0).toNat) dr y) 5 ((wrS m (sm (fun i => b2i (¬ (seatF (fun i => m (32 + i)) ((i : Int)) (m 1).toNat ≠ -9))) (m 0).toNat) dr y) 3)) x (-9)))))) ((m 1)) (if ¬ (0 ≤ x ∧ x < m 0) ∨ ¬ (0 ≤ y ∧ y < m 1) then ((nwO m)) else (if m 5 ≠ -9 ∨ ¬ (((seatF (fun i => m (32 + i)) (x) (m 1).toNat ≠ -9) ∨ (seatF (nwO m) (x) (m 1).toNat ≠ -9)) ∧ ((0 ≤ (x) ∧ (x) < m 0) ∧ m (8 + (x).toNat) = 1)) ∨ m (20 + x.toNat) < m 3 ∨ dr = -9 then ((nwO m)) else (if 60 ≤ m 3 then ((nwO m)) else (up (nwO m) y.toNat dr)))) (if ¬ (0 ≤ x ∧ x < m 0) ∨ ¬ (0 ≤ y ∧ y < m 1) then (-1) else (if m 5 ≠ -9 ∨ ¬ (((seatF (fun i => m (32 + i)) (x) (m 1).toNat ≠ -9) ∨ (seatF (nwO m) (x) (m 1).toNat ≠ -9)) ∧ ((0 ≤ (x) ∧ (x) < m 0) ∧ m (8 + (x).toNat) = 1)) ∨ m (20 + x.toNat) < m 3 ∨ dr = -9 then (-2) else (if 60 ≤ m 3 then (-3) else (dr)))) (if ¬ (0 ≤ x ∧ x < m 0) ∨ ¬ (0 ≤ y ∧ y < m 1) then (m) else (if m 5 ≠ -9 ∨ ¬ ((seatL (fun i => m (32 + i)) (x) (m 1).toNat ≠ -9 ∨ seatL (fun i => m ((if m 5 ≠ -9 then (37 : Int) else 32).toNat + i)) (x) (m 1).toNat ≠ -9) ∧ m (8 + x.toNat) = 1 ∧ m (20 + x.toNat) = m 3) ∨ nn = 0 then (m) else (if m 3 = 60 then (m) else (mgS ((up (wtS cC x (-9)) 5 (cC 3)) 3 - (up (wtS cC x (-9)) 5 (cC 3)) 4).toNat (up (wtS cC x (-9)) 5 (cC 3)))))) (if ¬ (0 ≤ x ∧ x < m 0) ∨ ¬ (0 ≤ y ∧ y < m 1) then (pa) else (if m 5 ≠ -9 ∨ ¬ ((seatL (fun i => m (32 + i)) (x) (m 1).toNat ≠ -9 ∨ seatL (fun i => m ((if m 5 ≠ -9 then (37 : Int) else 32).toNat + i)) (x) (m 1).toNat ≠ -9) ∧ m (8 + x.toNat) = 1 ∧ m (20 + x.toNat) = m 3) ∨ nn = 0 then (pa) else (if m 3 = 60 then (pa) else (if (0 : Int) = 0 then actP m pa np else pa)))) (if ¬ (0 ≤ x ∧ x < m 0) ∨ ¬ (0 ≤ y ∧ y < m 1) then (np) else (if m 5 ≠ -9 ∨ ¬ ((seatL (fun i => m (32 + i)) (x) (m 1).toNat ≠ -9 ∨ seatL (fun i => m ((if m 5 ≠ -9 then (37 : Int) else 32).toNat + i)) (x) (m 1).toNat ≠ -9) ∧ m (8 + x.toNat) = 1 ∧ m (20 + x.toNat) = m 3) ∨ nn = 0 then (np) else (if m 3 = 60 then (np) else (if (0 : Int) = 0 then actN np + 1 else np)))) (if ¬ (0 ≤ x ∧ x < m 0) ∨ ¬ (0 ≤ y ∧ y < m 1) then (-1) else (if m 5 ≠ -9 ∨ ¬ ((seatL (fun i => m (32 + i)) (x) (m 1).toNat ≠ -9 ∨ seatL (fun i => m ((if m 5 ≠ -9 then (37 : Int) else 32).toNat + i)) (x) (m 1).toNat ≠ -9) ∧ m (8 + x.toNat) = 1 ∧ m (20 + x.toNat) = m 3) ∨ nn = 0 then (-2) else (if m 3 = 60 then (-3) else (if (mgS ((up (wtS cC x (-9)) 5 (cC 3)) 3 - (up (wtS cC x (-9)) 5 (cC 3)) 4).toNat (up (wtS cC x (-9)) 5 (cC 3))) 4 - (up (wtS cC x (-9)) 5 (cC 3)) 4 < 0 then (-9) else (vi))))) := by
  have h0 := h.1.2.1
  have h12 := h.1.2.2.1
  have h1 := h.1.2.2.2.1
  have h15 := h.1.2.2.2.2.1
  have h3 := h.1.2.2.2.2.2.1
  have h360 := h.1.2.2.2.2.2.2.1
  have h4 := h.1.2.2.2.2.2.2.2.1
  have h43 := h.1.2.2.2.2.2.2.2.2.1
  have h7 := h.1.2.2.2.2.2.2.2.2.2.1
  have h760 := h.1.2.2.2.2.2.2.2.2.2.2.1
  have h73 := h.2.2.1
  have eA : ∀ j, j ≠ 6 ∧ j < 222 → cA j = m j := fun j hj => by
    rw [e_cA]
    exact chA_ne hj
  have eF : (fun i : Nat => b2i (seatL (fun i => cA (32 + i)) (i : Int) (cA 1).toNat = -9)) = (fun i : Nat => b2i (seatL (fun i => m (32 + i)) (i : Int) (m 1).toNat = -9)) := funext fun i => b2i_congr (by
    rw [eA 1 (by omega), seatL_congr (el := fun i => cA (32 + i)) (el' := fun i => m (32 + i)) (m 1).toNat (fun i hi => eA (32 + i) (by omega))])
  have a6 : cA 6 = (m 6 * 25173 + 13849) % 65536 := by
    rw [e_cA]
    exact chA_6
  rw [eF, eA 0 (by omega), a6] at evi
  rw [cand_eq] at edr
  rw [← e_nn] at edr
  refine ⟨by rw [eF, eA 0 (by omega)]; exact e_nn, ?_⟩
  rw [cand_eq, ← e_nn, seat_old h (x := x), seat_new h (x := x)]
  have hF : ∀ k : Nat, 0 ≤ (fun i : Nat => b2i (seatL (fun i => m (32 + i)) (i : Int) (m 1).toNat = -9)) k ∧ (fun i : Nat => b2i (seatL (fun i => m (32 + i)) (i : Int) (m 1).toNat = -9)) k ≤ 1 := fun k => b2i_rg
  have hr := sm_rg hF (m 0).toNat
  rw [← e_nn] at hr
  have ed : dr = if nn ≤ 0 then -9 else vi := by
    rw [edr, evi, pick_eq (fun k => (hF k).1)]
  by_cases c1 : ¬ (0 ≤ x ∧ x < m 0) ∨ ¬ (0 ≤ y ∧ y < m 1)
  · simp only [if_pos c1]
    exact Act.no h (by omega) (by omega)
  have hcp := h.2.2.2.2.1 x.toNat (by omega)
  by_cases c2 : m 5 ≠ -9 ∨ ¬ ((seatL (fun i => m (32 + i)) (x) (m 1).toNat ≠ -9 ∨ seatL (fun i => m ((if m 5 ≠ -9 then (37 : Int) else 32).toNat + i)) (x) (m 1).toNat ≠ -9) ∧ m (8 + x.toNat) = 1 ∧ m (20 + x.toNat) = m 3) ∨ nn = 0
  · have c2' : m 5 ≠ -9 ∨ ¬ (((seatL (fun i => m (32 + i)) (x) (m 1).toNat ≠ -9) ∨ (seatL (fun i => m ((if m 5 ≠ -9 then (37 : Int) else 32).toNat + i)) (x) (m 1).toNat ≠ -9)) ∧ ((0 ≤ (x) ∧ (x) < m 0) ∧ m (8 + (x).toNat) = 1)) ∨ m (20 + x.toNat) < m 3 ∨ dr = -9 := by
      rcases c2 with q | q | q
      · exact Or.inl q
      · by_cases r : m (20 + x.toNat) < m 3
        · exact Or.inr (Or.inr (Or.inl r))
        · exact Or.inr (Or.inl (fun u => q ⟨u.1, u.2.2, by omega⟩))
      · exact Or.inr (Or.inr (Or.inr (by rw [ed, if_pos (by omega)])))
    simp only [if_neg c1, if_pos c2, if_pos c2']
    exact Act.no h (by omega) (by omega)
  have n0 : nn ≠ 0 := fun q => c2 (Or.inr (Or.inr q))
  have h5 : m 5 = -9 := Classical.not_not.mp (fun q => c2 (Or.inl q))
  have hel : (seatL (fun i => m (32 + i)) (x) (m 1).toNat ≠ -9 ∨ seatL (fun i => m ((if m 5 ≠ -9 then (37 : Int) else 32).toNat + i)) (x) (m 1).toNat ≠ -9) ∧ m (8 + x.toNat) = 1 ∧ m (20 + x.toNat) = m 3 := Classical.not_not.mp (fun q => c2 (Or.inr (Or.inl q)))
  have ed2 : dr = vi := by rw [ed, if_neg (by omega)]
  have hp0 := Int.emod_nonneg ((m 6 * 25173 + 13849) % 65536) n0
  have hp1 := Int.emod_lt_of_pos ((m 6 * 25173 + 13849) % 65536) (show 0 < nn by omega)
  have v0 : 0 ≤ vi := by
    rw [evi]
    exact pickL_ok hF hp0 _ (by rw [← e_nn]; exact hp1)
  have hs := pickL_sound (i := vi.toNat) (m 0).toNat ((evi.symm).trans (Int.toNat_of_nonneg v0).symm)
  have vL : seatL (fun i => m (32 + i)) vi (m 1).toNat = -9 := by
    have q := hs.2.1
    by_cases r : seatL (fun i => m (32 + i)) ((vi.toNat : Nat) : Int) (m 1).toNat = -9
    · rw [Int.toNat_of_nonneg v0] at r
      exact r
    · have q : b2i (seatL (fun i => m (32 + i)) ((vi.toNat : Nat) : Int) (m 1).toNat = -9) = 1 := q
      rw [b2i_f r] at q
      omega
  have vN := (seatL_none (m 1).toNat).mp vL
  have c2' : ¬ (m 5 ≠ -9 ∨ ¬ (((seatL (fun i => m (32 + i)) (x) (m 1).toNat ≠ -9) ∨ (seatL (fun i => m ((if m 5 ≠ -9 then (37 : Int) else 32).toNat + i)) (x) (m 1).toNat ≠ -9)) ∧ ((0 ≤ (x) ∧ (x) < m 0) ∧ m (8 + (x).toNat) = 1)) ∨ m (20 + x.toNat) < m 3 ∨ dr = -9) := by
    rintro (q | q | q | q)
    · exact q h5
    · exact q ⟨hel.1, by omega, hel.2.1⟩
    · omega
    · omega
  by_cases c3 : m 3 = 60
  · simp only [if_neg c1, if_neg c2, if_neg c2', if_pos c3, if_pos (show 60 ≤ m 3 by omega)]
    exact Act.no h (by omega) (by omega)
  simp only [if_neg c1, if_neg c2, if_neg c2', if_neg c3, if_neg (show ¬ 60 ≤ m 3 by omega), if_true]
  rw [ed2, chg_A (by omega)]
  have hC : ∀ j, ¬ (37 ≤ j ∧ j < 42) → cC j = _ := fun j hj => chg_C (by omega) e_cA e_cB e_cC hj
  obtain ⟨W, hW⟩ : ∃ W, W = up (wtS cC x (-9)) 5 (cC 3) := ⟨_, rfl⟩
  rw [← hW]
  have hG : ∀ j, ¬ (37 ≤ j ∧ j < 42) → W j = chgG m x y nn vi j := fun j hj => by
    rw [hW]
    exact chg_W (by omega) (by omega) hel.2.2 hC hj
  have hE : EQ (chgG m x y nn vi) W := fun j hj => (hG j hj).symm
  have hm : ∀ j, j ≠ 3 ∧ j ≠ 5 ∧ j ≠ 6 ∧ j ≠ 7 ∧ j < 37 ∧ j ≠ 20 + x.toNat → W j = m j := fun j hj => by
    rw [hG j (by omega), chgG_m (by omega)]
  have w3 : W 3 = m 3 + 1 := (hG 3 (by omega)).trans chgG_3
  have w5 : W 5 = m 3 := (hG 5 (by omega)).trans chgG_5
  have w7 : W 7 = m 7 + 1 := (hG 7 (by omega)).trans chgG_7
  have w1 : W 1 = m 1 := hm 1 (by omega)
  have wo : ∀ i, i < 5 → W (32 + i) = m (32 + i) := fun i hi => hm (32 + i) (by omega)
  have wn : ∀ i : Nat, (i : Int) < m 1 → W (37 + i) = if (i : Int) = y then vi else m (32 + i) := fun i hi => by
    rw [hW, up_ne (by omega), wtS_at (by rw [hC 3 (by omega), if_neg (by omega), if_neg (by omega), if_neg (by omega), if_neg (by omega), if_neg (by omega), if_neg (by omega), if_neg (by omega)]; omega) (by omega), if_neg (by omega), if_neg (by omega), if_neg (by rw [hC 3 (by omega), if_neg (by omega), if_neg (by omega), if_neg (by omega), if_neg (by omega), if_neg (by omega), if_neg (by omega), if_neg (by omega)]; omega), if_neg (by rw [hC 3 (by omega), if_neg (by omega), if_neg (by omega), if_neg (by omega), if_neg (by omega), if_neg (by omega), if_neg (by omega), if_neg (by omega)]; omega), if_neg (by rw [hC 3 (by omega), if_neg (by omega), if_neg (by omega), if_neg (by omega), if_neg (by omega), if_neg (by omega), if_neg (by omega), if_neg (by omega)]; omega), e_cC, blk_in (by omega)]
    show (if (i : Int) = y then vi else cB (32 + i)) = _
    have q := hC (32 + i) (by omega)
    rw [e_cC, blk_out (by omega), if_neg (by omega), if_neg (by omega), if_neg (by omega), if_neg (by omega), if_neg (by omega), if_neg (by omega), if_neg (by omega)] at q
    rw [q]
  have b3 : cC 3 = m 3 := by rw [hC 3 (by omega), if_neg (by omega), if_neg (by omega), if_neg (by omega), if_neg (by omega), if_neg (by omega), if_neg (by omega), if_neg (by omega)]
  have bx : cC (20 + x.toNat) = m 3 := by
    rw [hC (20 + x.toNat) (by omega), if_neg (by omega), if_neg (by omega), if_neg (by omega), if_neg (by omega), if_neg (by omega), if_neg (by omega), if_neg (by omega)]
    exact hel.2.2
  have hB : ∀ i, i < 5 → cB (32 + i) = m (32 + i) := fun i hi => by
    rw [e_cB, chB_ne (by omega), eA (32 + i) (by omega)]
  have hM : MS W := by
    rw [hW]
    have M1 := MS_chA (n := nn) h.1 (by omega)
    rw [← e_cA] at M1
    have M2 := MS_chB (d := (m 7).toNat) (v := vi) (y := y) M1 (by omega) (by omega) (by rw [eA 7 (by omega)]; omega)
    rw [← e_cB] at M2
    have M3 := MS_nw (v := fun i => if (i : Int) = y then vi else cB (32 + i)) (k := (m 1).toNat) M2 (by omega) (fun i hi => by
      show 0 ≤ (if (i : Int) = y then vi else cB (32 + i)) ∧ (if (i : Int) = y then vi else cB (32 + i)) < 12
      split
      · omega
      · rw [hB i hi]
        exact h.1.2.2.2.2.2.2.2.2.2.2.2.2.2.1 i hi)
    rw [← e_cC] at M3
    exact MS_up (MS_wt M3 (by omega) (by omega) (by omega) (by omega)) (by omega) (by omega)
  have hI : Inv W := by
    refine ⟨hM, ?_, by omega, fun i hi => ?_, fun i hi => ?_, fun i hi => ?_, fun i j hi hj he => ?_, Or.inr ⟨?_, by omega, by omega, y.toNat, ?_, by omega, ?_, fun i hi hy => ?_, ?_, fun i hi => ?_⟩⟩
    · rw [hm 2 (by omega), hm 4 (by omega)]
      exact h.2.1
    · rw [hm (8 + i) (by omega)]
      exact h.2.2.2.1 i hi
    · by_cases q : i = x.toNat
      · rw [q, hG (20 + x.toNat) (by omega), chgG_x]
        omega
      · have := h.2.2.2.2.1 i hi
        rw [hm (20 + i) (by omega)]
        omega
    · rw [w1] at hi
      rw [wo i (by omega), hm 0 (by omega)]
      exact h.2.2.2.2.2.1 i hi
    · rw [w1] at hi hj
      have he : W (32 + i) = W (32 + j) := he
      rw [wo i (by omega), wo j (by omega)] at he
      exact h.2.2.2.2.2.2.1 i j hi hj he
    · rw [hm 4 (by omega), w5]
      omega
    · rw [w7, show (m 7 + 1).toNat - 1 = (m 7).toNat by omega, hG _ (by omega), chgG_226 (by omega) (by omega)]
      omega
    · rw [w7, show (m 7 + 1).toNat - 1 = (m 7).toNat by omega, hG _ (by omega), chgG_224 (by omega) (by omega), wn y.toNat (by omega), if_pos (by omega)]
    · rw [wn i (by omega), if_neg (by omega), wo i (by omega)]
    · rw [wn y.toNat (by omega), if_pos (by omega), hm 0 (by omega)]
      omega
    · rw [wn y.toNat (by omega), if_pos (by omega), wo i (by omega)]
      exact vN i (by omega)
  have hn : ∀ i, i < 5 → up (nwO m) y.toNat vi i = nwO W i := fun i hi => by
    unfold nwO
    rw [if_pos hi, w1, w5]
    by_cases q : (i : Int) < m 1
    · rw [if_pos ⟨by omega, q⟩, wn i q]
      by_cases r : i = y.toNat
      · rw [up_at r, if_pos (by omega)]
      · rw [up_ne r, if_pos hi, if_neg (fun u => u.1 h5), if_neg (by omega)]
    · rw [if_neg (fun u => q u.2), up_ne (by omega), if_pos hi, if_neg (fun u => u.1 h5), wo i hi]
  have g := mg_rg hI.1 hI.2.1 (W 3 - W 4).toNat
  have ga := mg_all (W 3 - W 4).toNat hI
  rw [if_neg (show ¬ (mgS (W 3 - W 4).toNat W 4 - W 4 < 0) by omega), show (chgG m x y nn vi 3 - chgG m x y nn vi 4).toNat = (W 3 - W 4).toNat by rw [hG 3 (by omega), hG 4 (by omega)]]
  exact Act.yes ga.1 (by omega) (by omega) rfl (ag_eq _ hE hI w1.symm hn) (w1.symm.trans ga.2.2.1.symm) (fun i hi => (hn i hi).trans (ga.2.1 i hi).symm)
theorem forge_act {m pa : Nat → Int} {np x : Int} (h : Inv m) : ActP m pa np (if ¬ (0 ≤ x ∧ x < m 0) then (m) else (if m 5 = -9 ∨ ((seatF (fun i => m (32 + i)) (x) (m 1).toNat ≠ -9) ∨ (seatF (nwO m) (x) (m 1).toNat ≠ -9)) then (m) else (agS (m 1) (up (nwO m) (m (226 + 5 * (m 7 - 1).toNat)).toNat x) ((up m (224 + 5 * (m 7 - 1).toNat) x) 3 - (up m (224 + 5 * (m 7 - 1).toNat) x) 4).toNat (up m (224 + 5 * (m 7 - 1).toNat) x)))) ((m 1)) (if ¬ (0 ≤ x ∧ x < m 0) then ((nwO m)) else (if m 5 = -9 ∨ ((seatF (fun i => m (32 + i)) (x) (m 1).toNat ≠ -9) ∨ (seatF (nwO m) (x) (m 1).toNat ≠ -9)) then ((nwO m)) else (up (nwO m) (m (226 + 5 * (m 7 - 1).toNat)).toNat x))) (if ¬ (0 ≤ x ∧ x < m 0) then (-1) else (if m 5 = -9 ∨ ((seatF (fun i => m (32 + i)) (x) (m 1).toNat ≠ -9) ∨ (seatF (nwO m) (x) (m 1).toNat ≠ -9)) then (-2) else ((nwO m) (m (226 + 5 * (m 7 - 1).toNat)).toNat))) (if ¬ (0 ≤ x ∧ x < m 0) then (m) else (if m 5 = -9 ∨ (seatL (fun i => m (32 + i)) (x) (m 1).toNat ≠ -9 ∨ seatL (fun i => m ((if m 5 ≠ -9 then (37 : Int) else 32).toNat + i)) (x) (m 1).toNat ≠ -9) then (m) else (mgS ((up (up m (219 + 5 * (m 7).toNat) x) (37 + (m (221 + 5 * (m 7).toNat)).toNat) x) 3 - (up (up m (219 + 5 * (m 7).toNat) x) (37 + (m (221 + 5 * (m 7).toNat)).toNat) x) 4).toNat (up (up m (219 + 5 * (m 7).toNat) x) (37 + (m (221 + 5 * (m 7).toNat)).toNat) x)))) (if ¬ (0 ≤ x ∧ x < m 0) then (pa) else (if m 5 = -9 ∨ (seatL (fun i => m (32 + i)) (x) (m 1).toNat ≠ -9 ∨ seatL (fun i => m ((if m 5 ≠ -9 then (37 : Int) else 32).toNat + i)) (x) (m 1).toNat ≠ -9) then (pa) else (if (0 : Int) = 0 then actP m pa np else pa))) (if ¬ (0 ≤ x ∧ x < m 0) then (np) else (if m 5 = -9 ∨ (seatL (fun i => m (32 + i)) (x) (m 1).toNat ≠ -9 ∨ seatL (fun i => m ((if m 5 ≠ -9 then (37 : Int) else 32).toNat + i)) (x) (m 1).toNat ≠ -9) then (np) else (if (0 : Int) = 0 then actN np + 1 else np))) (if ¬ (0 ≤ x ∧ x < m 0) then (-1) else (if m 5 = -9 ∨ (seatL (fun i => m (32 + i)) (x) (m 1).toNat ≠ -9 ∨ seatL (fun i => m ((if m 5 ≠ -9 then (37 : Int) else 32).toNat + i)) (x) (m 1).toNat ≠ -9) then (-2) else (if (mgS ((up (up m (219 + 5 * (m 7).toNat) x) (37 + (m (221 + 5 * (m 7).toNat)).toNat) x) 3 - (up (up m (219 + 5 * (m 7).toNat) x) (37 + (m (221 + 5 * (m 7).toNat)).toNat) x) 4).toNat (up (up m (219 + 5 * (m 7).toNat) x) (37 + (m (221 + 5 * (m 7).toNat)).toNat) x)) 4 - (up (up m (219 + 5 * (m 7).toNat) x) (37 + (m (221 + 5 * (m 7).toNat)).toNat) x) 4 < 0 then (-9) else (m (219 + 5 * (m 7).toNat))))) := by
  have h0 := h.1.2.1
  have h12 := h.1.2.2.1
  have h1 := h.1.2.2.2.1
  have h15 := h.1.2.2.2.2.1
  have h3 := h.1.2.2.2.2.2.1
  have h360 := h.1.2.2.2.2.2.2.1
  have h43 := h.1.2.2.2.2.2.2.2.2.1
  have h7 := h.1.2.2.2.2.2.2.2.2.2.1
  have h760 := h.1.2.2.2.2.2.2.2.2.2.2.1
  rw [seat_old h (x := x), seat_new h (x := x)]
  by_cases c1 : ¬ (0 ≤ x ∧ x < m 0)
  · simp only [if_pos c1]
    exact Act.no h (by omega) (by omega)
  by_cases c2 : m 5 = -9 ∨ (seatL (fun i => m (32 + i)) (x) (m 1).toNat ≠ -9 ∨ seatL (fun i => m ((if m 5 ≠ -9 then (37 : Int) else 32).toNat + i)) (x) (m 1).toNat ≠ -9)
  · simp only [if_neg c1, if_pos c2]
    exact Act.no h (by omega) (by omega)
  simp only [if_neg c1, if_neg c2, if_true]
  have h5 : m 5 ≠ -9 := fun q => c2 (Or.inl q)
  have sO : seatL (fun i => m (32 + i)) x (m 1).toNat = -9 := Classical.not_not.mp (fun q => c2 (Or.inr (Or.inl q)))
  have sN : seatL (fun i => m ((if m 5 ≠ -9 then (37 : Int) else 32).toNat + i)) x (m 1).toNat = -9 := Classical.not_not.mp (fun q => c2 (Or.inr (Or.inr q)))
  have nO := (seatL_none (m 1).toNat).mp sO
  rcases id h.2.2.2.2.2.2.2 with q | ⟨k45, k53, k7, y, y1, y2, y3, y4, y5, y6⟩
  · exact absurd q h5
  obtain ⟨d, hd⟩ : ∃ d : Nat, m 7 = (d : Int) + 1 := ⟨(m 7 - 1).toNat, by omega⟩
  have e7 : (m 7).toNat = d + 1 := by omega
  have e71 : (m 7 - 1).toNat = d := by omega
  rw [e7] at y1 y3
  rw [Nat.add_sub_cancel] at y1 y3
  rw [e7, e71, show 219 + 5 * (d + 1) = 224 + 5 * d by omega, show 221 + 5 * (d + 1) = 226 + 5 * d by omega, y1, Int.toNat_natCast]
  obtain ⟨W, hW⟩ : ∃ W, W = up (up m (224 + 5 * d) x) (37 + y) x := ⟨_, rfl⟩
  rw [← hW]
  have e : ∀ j, j ≠ 224 + 5 * d → j ≠ 37 + y → W j = m j := fun j a b => by
    rw [hW, up_ne b, up_ne a]
  have hE : EQ (up m (224 + 5 * d) x) W := fun j hj => by
    rw [hW, up_ne (show j ≠ 37 + y by omega)]
  have w1 : W 1 = m 1 := e 1 (by omega) (by omega)
  have w5 : W 5 = m 5 := e 5 (by omega) (by omega)
  have wy : W (37 + y) = x := by rw [hW, up_at rfl]
  have hI : Inv W := by
    refine ⟨by rw [hW]; exact MS_37 (MS_up h.1 (by omega) (by omega)) (by omega) (by omega), ?_, ?_, fun i hi => ?_, fun i hi => ?_, fun i hi => ?_, fun i j hi hj he => ?_, Or.inr ⟨?_, ?_, ?_, y, ?_, by omega, ?_, fun i hi hy => ?_, ?_, fun i hi => ?_⟩⟩
    · rw [e 2 (by omega) (by omega), e 4 (by omega) (by omega)]
      exact h.2.1
    · rw [e 7 (by omega) (by omega), e 3 (by omega) (by omega)]
      exact h.2.2.1
    · rw [e (8 + i) (by omega) (by omega)]
      exact h.2.2.2.1 i hi
    · rw [e (20 + i) (by omega) (by omega), e 3 (by omega) (by omega)]
      exact h.2.2.2.2.1 i hi
    · rw [w1] at hi
      rw [e (32 + i) (by omega) (by omega), e 0 (by omega) (by omega)]
      exact h.2.2.2.2.2.1 i hi
    · rw [w1] at hi hj
      have he : W (32 + i) = W (32 + j) := he
      rw [e (32 + i) (by omega) (by omega), e (32 + j) (by omega) (by omega)] at he
      exact h.2.2.2.2.2.2.1 i j hi hj he
    · rw [e 4 (by omega) (by omega), w5]
      exact k45
    · rw [e 3 (by omega) (by omega), w5]
      exact k53
    · rw [e 7 (by omega) (by omega)]
      exact k7
    · rw [e 7 (by omega) (by omega), e7, Nat.add_sub_cancel, e (226 + 5 * d) (by omega) (by omega)]
      exact y1
    · rw [e 7 (by omega) (by omega), e7, Nat.add_sub_cancel, wy, hW, up_ne (by omega), up_at rfl]
    · rw [e (37 + i) (by omega) (by omega), e (32 + i) (by omega) (by omega)]
      exact y4 i (by omega) hy
    · rw [wy, e 0 (by omega) (by omega)]
      omega
    · rw [wy, e (32 + i) (by omega) (by omega)]
      exact nO i (by omega)
  have hn : ∀ i, i < 5 → up (nwO m) y x i = nwO W i := fun i hi => by
    unfold nwO
    rw [if_pos hi, w1, w5]
    by_cases q : (i : Int) < m 1
    · rw [if_pos ⟨h5, q⟩]
      by_cases r : i = y
      · rw [up_at r, r, wy]
      · rw [up_ne r, if_pos hi, if_pos ⟨h5, q⟩, e (37 + i) (by omega) (by omega)]
    · rw [if_neg (fun u => q u.2), up_ne (by omega), if_pos hi, if_neg (fun u => q u.2), e (32 + i) (by omega) (by omega)]
  have g := mg_rg hI.1 hI.2.1 (W 3 - W 4).toNat
  have ga := mg_all (W 3 - W 4).toNat hI
  have en : nwO m y = m (224 + 5 * d) := by
    unfold nwO
    rw [if_pos (by omega), if_pos ⟨h5, y2⟩, y3]
  have b0 := h.new (i := y) (by omega)
  rw [if_pos h5] at b0
  have b0 : 0 ≤ m (37 + y) ∧ m (37 + y) < m 0 := b0
  rw [if_neg (show ¬ (mgS (W 3 - W 4).toNat W 4 - W 4 < 0) by omega), show (up m (224 + 5 * d) x 3 - up m (224 + 5 * d) x 4).toNat = (W 3 - W 4).toNat by rw [hE 3 (by omega), hE 4 (by omega)]]
  exact Act.yes ga.1 (by rw [en]; omega) (by rw [en]; omega) en (ag_eq _ hE hI w1.symm hn) (w1.symm.trans ga.2.2.1.symm) (fun i hi => (hn i hi).trans (ga.2.1 i hi).symm)
