/-! the class's answers and actions beside the law's village -/
def LW (cI cV : ClassId) (g a : Nat → Nat) (ra : Nat → Nat → Nat) (m : Nat → Int) (wL : va_W) : Prop := ∃ (rS : Nat → Nat → Int) (rZ : Nat → Int) (rN : Nat → Nat → Int) (fr np : Int) (t : Nat → Int) (pl le vr nr : Int), (0 ≤ fr ∧ fr < 6) ∧ (0 ≤ np ∧ np ≤ 5) ∧ wL = logw cI cV g a ra m (m 1) (nwO m) rS rZ rN fr np t 0 pl le vr nr
theorem LW.head {cI cV : ClassId} {g a : Nat → Nat} {ra : Nat → Nat → Nat} {m : Nat → Int} {wL : va_W} (h : LW cI cV g a ra m wL) : wL[0]? = some (g 0, .inr (5, [.ref (a 0), .ref (g 1), .ref (g 3)])) := by
  obtain ⟨rS, rZ, rN, fr, np, t, pl, le, vr, nr, -, -, rfl⟩ := h
  rfl
theorem LW.fst {cI cV : ClassId} {g a : Nat → Nat} {ra : Nat → Nat → Nat} {m m' : Nat → Int} {wL wL' : va_W} (h : LW cI cV g a ra m wL) (h' : LW cI cV g a ra m' wL') : wL'.map Prod.fst = wL.map Prod.fst := by
  obtain ⟨rS, rZ, rN, fr, np, t, pl, le, vr, nr, -, -, rfl⟩ := h
  obtain ⟨rS', rZ', rN', fr', np', t', pl', le', vr', nr', -, -, rfl⟩ := h'
  rfl
theorem act_LW {cI cV : ClassId} {g a : Nat → Nat} {ra : Nat → Nat → Nat} {m pa s1 nw1 m1 pa1 : Nat → Int} {np nz1 an np1 an1 : Int} {rS rN : Nat → Nat → Int} {rZ : Nat → Int} {fr hn : Int} {t : Nat → Int} {pl le vr nr : Int} (hA : ActP m pa np s1 nz1 nw1 an m1 pa1 np1 an1) (hf : 0 ≤ fr ∧ fr < 6) (hh : 0 ≤ hn ∧ hn ≤ 5) : LW cI cV g a ra m1 (logw cI cV g a ra s1 nz1 nw1 rS rZ rN fr hn t 0 pl le vr nr) := by
  rw [logw_eq (m := m1) (fun j _ hj => hA.2.2.1 j hj) hA.2.2.2.1 hA.2.2.2.2.1]
  exact ⟨rS, rZ, rN, fr, hn, t, pl, le, vr, nr, hf, hh, rfl⟩
theorem ac_come_no {cI cV : ClassId} {g a : Nat → Nat} {ra : Nat → Nat → Nat} {m : Nat → Int} {wL : va_W} (l : Launch) (D : va_G) (hL : LW cI cV g a ra m wL) (hI : Inv m)  (c : m 0 = 12) : ∃ wL', LW cI cV g a ra (m) wL' ∧ MM l yX5_come wsX5_come 4 123 [.ref (g 0)] wL wL' D cI cV (some (.int (iI (-3)))) ∧ Inv (m) := by
  obtain ⟨rS, rZ, rN, fr, np, t, pl, le, vr, nr, hfr, hnp, rfl⟩ := hL
  have hA := come_act (m := m) (pa := fun _ => 0) (np := 0)  hI
  have e1 : (if m 0 = 12 then (m) else (comeS m)) = m := by rw [if_pos c]
  have e2 : (if m 0 = 12 then (-3) else (m 0)) = -3 := by rw [if_pos c]
  rw [e1, e2] at hA
  have c5 := kX5_come l D cI cV g a ra m (m 1) (nwO m) rS rZ rN fr np t 0 pl le vr nr _ _ hfr hI.toVI hnp rfl rfl hA.2.1
  rw [hA.1] at c5
  exact ⟨_, act_LW hA (by split <;> omega) (by split <;> omega), c5, hA.2.2.2.2.2.1⟩
theorem ac_come {cI cV : ClassId} {g a : Nat → Nat} {ra : Nat → Nat → Nat} {m : Nat → Int} {wL : va_W} (l : Launch) (D : va_G) (hL : LW cI cV g a ra m wL) (hI : Inv m)  (c : m 0 ≠ 12) : ∃ wL', LW cI cV g a ra (comeS m) wL' ∧ MM l yX5_come wsX5_come 4 123 [.ref (g 0)] wL wL' D cI cV (some (.int (iI (m 0)))) ∧ Inv (comeS m) := by
  obtain ⟨rS, rZ, rN, fr, np, t, pl, le, vr, nr, hfr, hnp, rfl⟩ := hL
  have hA := come_act (m := m) (pa := fun _ => 0) (np := 0)  hI
  have e1 : (if m 0 = 12 then (m) else (comeS m)) = comeS m := by rw [if_neg c]
  have e2 : (if m 0 = 12 then (-3) else (m 0)) = m 0 := by rw [if_neg c]
  rw [e1, e2] at hA
  have c5 := kX5_come l D cI cV g a ra m (m 1) (nwO m) rS rZ rN fr np t 0 pl le vr nr _ _ hfr hI.toVI hnp rfl rfl hA.2.1
  rw [hA.1] at c5
  exact ⟨_, act_LW hA (by split <;> omega) (by split <;> omega), c5, hA.2.2.2.2.2.1⟩
theorem ac_found_no {cI cV : ClassId} {g a : Nat → Nat} {ra : Nat → Nat → Nat} {m : Nat → Int} {wL : va_W} (l : Launch) (D : va_G) (hL : LW cI cV g a ra m wL) (hI : Inv m) {x : Int} (r_x : rg x) (hx : 1 ≤ x ∧ x ≤ 5) (c : 0 < m 1 ∨ m 0 < x) : ∃ wL', LW cI cV g a ra (m) wL' ∧ MM l yX5_found wsX5_found 4 123 [.ref (g 0), .int (iI x)] wL wL' D cI cV (some (.int (iI (-2)))) ∧ Inv (m) := by
  obtain ⟨rS, rZ, rN, fr, np, t, pl, le, vr, nr, hfr, hnp, rfl⟩ := hL
  have hA := found_act (m := m) (pa := fun _ => 0) (np := 0) (x := x) hI
  have e1 : (if ¬ (1 ≤ x ∧ x ≤ 5) then (m) else (if 0 < m 1 ∨ m 0 < x then (m) else (blk (up m 1 x) 32 (fun i => (i : Int)) x.toNat))) = m := by rw [if_neg (not_not_intro hx), if_pos c]
  have e2 : (if ¬ (1 ≤ x ∧ x ≤ 5) then (-1) else (if 0 < m 1 ∨ m 0 < x then (-2) else (x))) = -2 := by rw [if_neg (not_not_intro hx), if_pos c]
  rw [e1, e2] at hA
  have c5 := kX5_found l D cI cV g a ra m (m 1) (nwO m) rS rZ rN fr np t 0 pl le vr nr x _ _ _ _ hfr hI.toVI r_x hnp rfl rfl rfl rfl hA.2.1
  rw [hA.1] at c5
  exact ⟨_, act_LW hA (by split <;> omega) (by split <;> omega), c5, hA.2.2.2.2.2.1⟩
theorem ac_found {cI cV : ClassId} {g a : Nat → Nat} {ra : Nat → Nat → Nat} {m : Nat → Int} {wL : va_W} (l : Launch) (D : va_G) (hL : LW cI cV g a ra m wL) (hI : Inv m) {x : Int} (r_x : rg x) (hx : 1 ≤ x ∧ x ≤ 5) (c : ¬ (0 < m 1 ∨ m 0 < x)) : ∃ wL', LW cI cV g a ra (blk (up m 1 x) 32 (fun i => (i : Int)) x.toNat) wL' ∧ MM l yX5_found wsX5_found 4 123 [.ref (g 0), .int (iI x)] wL wL' D cI cV (some (.int (iI (x)))) ∧ Inv (blk (up m 1 x) 32 (fun i => (i : Int)) x.toNat) := by
  obtain ⟨rS, rZ, rN, fr, np, t, pl, le, vr, nr, hfr, hnp, rfl⟩ := hL
  have hA := found_act (m := m) (pa := fun _ => 0) (np := 0) (x := x) hI
  have e1 : (if ¬ (1 ≤ x ∧ x ≤ 5) then (m) else (if 0 < m 1 ∨ m 0 < x then (m) else (blk (up m 1 x) 32 (fun i => (i : Int)) x.toNat))) = blk (up m 1 x) 32 (fun i => (i : Int)) x.toNat := by rw [if_neg (not_not_intro hx), if_neg c]
  have e2 : (if ¬ (1 ≤ x ∧ x ≤ 5) then (-1) else (if 0 < m 1 ∨ m 0 < x then (-2) else (x))) = x := by rw [if_neg (not_not_intro hx), if_neg c]
  rw [e1, e2] at hA
  have c5 := kX5_found l D cI cV g a ra m (m 1) (nwO m) rS rZ rN fr np t 0 pl le vr nr x _ _ _ _ hfr hI.toVI r_x hnp rfl rfl rfl rfl hA.2.1
  rw [hA.1] at c5
  exact ⟨_, act_LW hA (by split <;> omega) (by split <;> omega), c5, hA.2.2.2.2.2.1⟩
theorem ac_setLot {cI cV : ClassId} {g a : Nat → Nat} {ra : Nat → Nat → Nat} {m : Nat → Int} {wL : va_W} (l : Launch) (D : va_G) (hL : LW cI cV g a ra m wL) (hI : Inv m) {x : Int} (r_x : rg x) (hx : 0 ≤ x ∧ x ≤ 65535) : ∃ wL', LW cI cV g a ra (up m 6 x) wL' ∧ MM l yX5_setLot wsX5_setLot 4 123 [.ref (g 0), .int (iI x)] wL wL' D cI cV (some (.int (iI (m 6)))) ∧ Inv (up m 6 x) := by
  obtain ⟨rS, rZ, rN, fr, np, t, pl, le, vr, nr, hfr, hnp, rfl⟩ := hL
  have hA := setLot_act (m := m) (pa := fun _ => 0) (np := 0) (x := x) hI
  have e1 : (if ¬ (0 ≤ x ∧ x ≤ 65535) then (m) else (up m 6 x)) = up m 6 x := by rw [if_neg (not_not_intro hx)]
  have e2 : (if ¬ (0 ≤ x ∧ x ≤ 65535) then (-1) else (m 6)) = m 6 := by rw [if_neg (not_not_intro hx)]
  rw [e1, e2] at hA
  have c5 := kX5_setLot l D cI cV g a ra m (m 1) (nwO m) rS rZ rN fr np t 0 pl le vr nr x _ _ hfr hI.toVI r_x hnp rfl rfl hA.2.1
  rw [hA.1] at c5
  exact ⟨_, act_LW hA (by split <;> omega) (by split <;> omega), c5, hA.2.2.2.2.2.1⟩
theorem ac_attend_no {cI cV : ClassId} {g a : Nat → Nat} {ra : Nat → Nat → Nat} {m : Nat → Int} {wL : va_W} (l : Launch) (D : va_G) (hL : LW cI cV g a ra m wL) (hI : Inv m) {x y : Int} (r_x : rg x) (r_y : rg y) (hx : 0 ≤ x ∧ x < m 0) (hy : 0 ≤ y ∧ y ≤ 1) (c : m (8 + x.toNat) = y) : ∃ wL', LW cI cV g a ra (m) wL' ∧ MM l yX5_attend wsX5_attend 4 123 [.ref (g 0), .int (iI x), .int (iI y)] wL wL' D cI cV (some (.int (iI (-2)))) ∧ Inv (m) := by
  obtain ⟨rS, rZ, rN, fr, np, t, pl, le, vr, nr, hfr, hnp, rfl⟩ := hL
  have hA := attend_act (m := m) (pa := fun _ => 0) (np := 0) (x := x) (y := y) hI
  have e1 : (if ¬ (0 ≤ x ∧ x < m 0) ∨ ¬ (0 ≤ y ∧ y ≤ 1) then (m) else (if m (8 + x.toNat) = y then (m) else (up m (8 + x.toNat) y))) = m := by rw [if_neg (fun q => by omega), if_pos c]
  have e2 : (if ¬ (0 ≤ x ∧ x < m 0) ∨ ¬ (0 ≤ y ∧ y ≤ 1) then (-1) else (if m (8 + x.toNat) = y then (-2) else (sm (fun i => (up m (8 + x.toNat) y) (8 + i)) ((up m (8 + x.toNat) y) 0).toNat))) = -2 := by rw [if_neg (fun q => by omega), if_pos c]
  rw [e1, e2] at hA
  have c5 := kX5_attend l D cI cV g a ra m (m 1) (nwO m) rS rZ rN fr np t 0 pl le vr nr x y _ _ hfr hI.toVI r_x r_y hnp rfl rfl hA.2.1
  rw [hA.1] at c5
  exact ⟨_, act_LW hA (by split <;> omega) (by split <;> omega), c5, hA.2.2.2.2.2.1⟩
theorem ac_attend {cI cV : ClassId} {g a : Nat → Nat} {ra : Nat → Nat → Nat} {m : Nat → Int} {wL : va_W} (l : Launch) (D : va_G) (hL : LW cI cV g a ra m wL) (hI : Inv m) {x y : Int} (r_x : rg x) (r_y : rg y) (hx : 0 ≤ x ∧ x < m 0) (hy : 0 ≤ y ∧ y ≤ 1) (c : m (8 + x.toNat) ≠ y) : ∃ wL', LW cI cV g a ra (up m (8 + x.toNat) y) wL' ∧ MM l yX5_attend wsX5_attend 4 123 [.ref (g 0), .int (iI x), .int (iI y)] wL wL' D cI cV (some (.int (iI (sm (fun i => (up m (8 + x.toNat) y) (8 + i)) ((up m (8 + x.toNat) y) 0).toNat)))) ∧ Inv (up m (8 + x.toNat) y) := by
  obtain ⟨rS, rZ, rN, fr, np, t, pl, le, vr, nr, hfr, hnp, rfl⟩ := hL
  have hA := attend_act (m := m) (pa := fun _ => 0) (np := 0) (x := x) (y := y) hI
  have e1 : (if ¬ (0 ≤ x ∧ x < m 0) ∨ ¬ (0 ≤ y ∧ y ≤ 1) then (m) else (if m (8 + x.toNat) = y then (m) else (up m (8 + x.toNat) y))) = up m (8 + x.toNat) y := by rw [if_neg (fun q => by omega), if_neg c]
  have e2 : (if ¬ (0 ≤ x ∧ x < m 0) ∨ ¬ (0 ≤ y ∧ y ≤ 1) then (-1) else (if m (8 + x.toNat) = y then (-2) else (sm (fun i => (up m (8 + x.toNat) y) (8 + i)) ((up m (8 + x.toNat) y) 0).toNat))) = sm (fun i => (up m (8 + x.toNat) y) (8 + i)) ((up m (8 + x.toNat) y) 0).toNat := by rw [if_neg (fun q => by omega), if_neg c]
  rw [e1, e2] at hA
  have c5 := kX5_attend l D cI cV g a ra m (m 1) (nwO m) rS rZ rN fr np t 0 pl le vr nr x y _ _ hfr hI.toVI r_x r_y hnp rfl rfl hA.2.1
  rw [hA.1] at c5
  exact ⟨_, act_LW hA (by split <;> omega) (by split <;> omega), c5, hA.2.2.2.2.2.1⟩
theorem ac_learn_no {cI cV : ClassId} {g a : Nat → Nat} {ra : Nat → Nat → Nat} {m : Nat → Int} {wL : va_W} (l : Launch) (D : va_G) (hL : LW cI cV g a ra m wL) (hI : Inv m) {x : Int} (r_x : rg x) (hx : 0 ≤ x ∧ x < m 0) (c : m (8 + x.toNat) ≠ 1) : ∃ wL', LW cI cV g a ra (m) wL' ∧ MM l yX5_learn wsX5_learn 4 123 [.ref (g 0), .int (iI x)] wL wL' D cI cV (some (.int (iI (-2)))) ∧ Inv (m) := by
  obtain ⟨rS, rZ, rN, fr, np, t, pl, le, vr, nr, hfr, hnp, rfl⟩ := hL
  have hA := learn_act (m := m) (pa := fun _ => 0) (np := 0) (x := x) hI
  have e1 : (if ¬ (0 ≤ x ∧ x < m 0) then (m) else (if m (8 + x.toNat) ≠ 1 then (m) else (up m (20 + x.toNat) (m (20 + x.toNat) + max 0 (m 4 - m (20 + x.toNat)))))) = m := by rw [if_neg (not_not_intro hx), if_pos c]
  have e2 : (if ¬ (0 ≤ x ∧ x < m 0) then (-1) else (if m (8 + x.toNat) ≠ 1 then (-2) else (max 0 (m 4 - m (20 + x.toNat))))) = -2 := by rw [if_neg (not_not_intro hx), if_pos c]
  rw [e1, e2] at hA
  have c5 := kX5_learn l D cI cV g a ra m (m 1) (nwO m) rS rZ rN fr np t 0 pl le vr nr x _ _ hfr hI.toVI r_x hnp rfl rfl hA.2.1
  rw [hA.1] at c5
  exact ⟨_, act_LW hA (by split <;> omega) (by split <;> omega), c5, hA.2.2.2.2.2.1⟩
theorem ac_learn {cI cV : ClassId} {g a : Nat → Nat} {ra : Nat → Nat → Nat} {m : Nat → Int} {wL : va_W} (l : Launch) (D : va_G) (hL : LW cI cV g a ra m wL) (hI : Inv m) {x : Int} (r_x : rg x) (hx : 0 ≤ x ∧ x < m 0) (c : m (8 + x.toNat) = 1) : ∃ wL', LW cI cV g a ra (up m (20 + x.toNat) (m (20 + x.toNat) + max 0 (m 4 - m (20 + x.toNat)))) wL' ∧ MM l yX5_learn wsX5_learn 4 123 [.ref (g 0), .int (iI x)] wL wL' D cI cV (some (.int (iI (max 0 (m 4 - m (20 + x.toNat)))))) ∧ Inv (up m (20 + x.toNat) (m (20 + x.toNat) + max 0 (m 4 - m (20 + x.toNat)))) := by
  obtain ⟨rS, rZ, rN, fr, np, t, pl, le, vr, nr, hfr, hnp, rfl⟩ := hL
  have hA := learn_act (m := m) (pa := fun _ => 0) (np := 0) (x := x) hI
  have e1 : (if ¬ (0 ≤ x ∧ x < m 0) then (m) else (if m (8 + x.toNat) ≠ 1 then (m) else (up m (20 + x.toNat) (m (20 + x.toNat) + max 0 (m 4 - m (20 + x.toNat)))))) = up m (20 + x.toNat) (m (20 + x.toNat) + max 0 (m 4 - m (20 + x.toNat))) := by rw [if_neg (not_not_intro hx), if_neg (not_not_intro c)]
  have e2 : (if ¬ (0 ≤ x ∧ x < m 0) then (-1) else (if m (8 + x.toNat) ≠ 1 then (-2) else (max 0 (m 4 - m (20 + x.toNat))))) = max 0 (m 4 - m (20 + x.toNat)) := by rw [if_neg (not_not_intro hx), if_neg (not_not_intro c)]
  rw [e1, e2] at hA
  have c5 := kX5_learn l D cI cV g a ra m (m 1) (nwO m) rS rZ rN fr np t 0 pl le vr nr x _ _ hfr hI.toVI r_x hnp rfl rfl hA.2.1
  rw [hA.1] at c5
  exact ⟨_, act_LW hA (by split <;> omega) (by split <;> omega), c5, hA.2.2.2.2.2.1⟩
theorem ac_propose_no {cI cV : ClassId} {g a : Nat → Nat} {ra : Nat → Nat → Nat} {m : Nat → Int} {wL : va_W} (l : Launch) (D : va_G) (hL : LW cI cV g a ra m wL) (hI : Inv m) {x y : Int} (r_x : rg x) (r_y : rg y) (hx : 0 ≤ x ∧ x < m 0) (hy : 0 ≤ y ∧ y ≤ 999) (c : ¬ ((seatL (fun i => m (32 + i)) x (m 1).toNat ≠ -9 ∨ seatL (fun i => m ((if m 5 ≠ -9 then (37 : Int) else 32).toNat + i)) x (m 1).toNat ≠ -9) ∧ m (8 + x.toNat) = 1 ∧ m (20 + x.toNat) = m 3)) : ∃ wL', LW cI cV g a ra (m) wL' ∧ MM l yX5_propose wsX5_propose 6 144 [.ref (g 0), .int (iI x), .int (iI y)] wL wL' D cI cV (some (.int (iI (-2)))) ∧ Inv (m) := by
  obtain ⟨rS, rZ, rN, fr, np, t, pl, le, vr, nr, hfr, hnp, rfl⟩ := hL
  have hA := propose_act (m := m) (pa := fun _ => 0) (np := 0) (x := x) (y := y) hI
  have e1 : (if ¬ (0 ≤ x ∧ x < m 0) ∨ ¬ (0 ≤ y ∧ y ≤ 999) then (m) else (if ¬ ((seatL (fun i => m (32 + i)) (x) (m 1).toNat ≠ -9 ∨ seatL (fun i => m ((if m 5 ≠ -9 then (37 : Int) else 32).toNat + i)) (x) (m 1).toNat ≠ -9) ∧ m (8 + x.toNat) = 1 ∧ m (20 + x.toNat) = m 3) then (m) else (if m 3 = 60 then (m) else (mgS ((wtS m x y) 3 - (wtS m x y) 4).toNat (wtS m x y))))) = m := by rw [if_neg (fun q => by omega), if_pos c]
  have e2 : (if ¬ (0 ≤ x ∧ x < m 0) ∨ ¬ (0 ≤ y ∧ y ≤ 999) then (-1) else (if ¬ ((seatL (fun i => m (32 + i)) (x) (m 1).toNat ≠ -9 ∨ seatL (fun i => m ((if m 5 ≠ -9 then (37 : Int) else 32).toNat + i)) (x) (m 1).toNat ≠ -9) ∧ m (8 + x.toNat) = 1 ∧ m (20 + x.toNat) = m 3) then (-2) else (if m 3 = 60 then (-3) else (if (mgS ((wtS m x y) 3 - (wtS m x y) 4).toNat (wtS m x y)) 4 - (wtS m x y) 4 < 0 then (-9) else (m 3))))) = -2 := by rw [if_neg (fun q => by omega), if_pos c]
  rw [e1, e2] at hA
  have c5 := kX5_propose l D cI cV g a ra m (m 1) (nwO m) rS rZ rN fr np t 0 pl le vr nr x y _ _ hfr hI.toVI r_x r_y hI.2.1 hnp rfl rfl hA.2.1
  rw [hA.1] at c5
  exact ⟨_, act_LW hA (by split <;> omega) (by split <;> omega), c5, hA.2.2.2.2.2.1⟩
theorem ac_propose {cI cV : ClassId} {g a : Nat → Nat} {ra : Nat → Nat → Nat} {m : Nat → Int} {wL : va_W} (l : Launch) (D : va_G) (hL : LW cI cV g a ra m wL) (hI : Inv m) {x y : Int} (r_x : rg x) (r_y : rg y) (hx : 0 ≤ x ∧ x < m 0) (hy : 0 ≤ y ∧ y ≤ 999) (c : ((seatL (fun i => m (32 + i)) x (m 1).toNat ≠ -9 ∨ seatL (fun i => m ((if m 5 ≠ -9 then (37 : Int) else 32).toNat + i)) x (m 1).toNat ≠ -9) ∧ m (8 + x.toNat) = 1 ∧ m (20 + x.toNat) = m 3)) (h60 : m 3 < 60) : ∃ wL', LW cI cV g a ra (mgS ((wtS m x y) 3 - (wtS m x y) 4).toNat (wtS m x y)) wL' ∧ MM l yX5_propose wsX5_propose 6 144 [.ref (g 0), .int (iI x), .int (iI y)] wL wL' D cI cV (some (.int (iI (m 3)))) ∧ Inv (mgS ((wtS m x y) 3 - (wtS m x y) 4).toNat (wtS m x y)) := by
  obtain ⟨rS, rZ, rN, fr, np, t, pl, le, vr, nr, hfr, hnp, rfl⟩ := hL
  have hW := Inv_wt (x := x) (y := y) hI hx (by omega) h60 c.2.2
  have g4 := mg_MS ((wtS m x y) 3 - (wtS m x y) 4).toNat hW.1 hW.2.1
  have hA := propose_act (m := m) (pa := fun _ => 0) (np := 0) (x := x) (y := y) hI
  have e1 : (if ¬ (0 ≤ x ∧ x < m 0) ∨ ¬ (0 ≤ y ∧ y ≤ 999) then (m) else (if ¬ ((seatL (fun i => m (32 + i)) (x) (m 1).toNat ≠ -9 ∨ seatL (fun i => m ((if m 5 ≠ -9 then (37 : Int) else 32).toNat + i)) (x) (m 1).toNat ≠ -9) ∧ m (8 + x.toNat) = 1 ∧ m (20 + x.toNat) = m 3) then (m) else (if m 3 = 60 then (m) else (mgS ((wtS m x y) 3 - (wtS m x y) 4).toNat (wtS m x y))))) = mgS ((wtS m x y) 3 - (wtS m x y) 4).toNat (wtS m x y) := by rw [if_neg (fun q => by omega), if_neg (not_not_intro c), if_neg (by omega)]
  have e2 : (if ¬ (0 ≤ x ∧ x < m 0) ∨ ¬ (0 ≤ y ∧ y ≤ 999) then (-1) else (if ¬ ((seatL (fun i => m (32 + i)) (x) (m 1).toNat ≠ -9 ∨ seatL (fun i => m ((if m 5 ≠ -9 then (37 : Int) else 32).toNat + i)) (x) (m 1).toNat ≠ -9) ∧ m (8 + x.toNat) = 1 ∧ m (20 + x.toNat) = m 3) then (-2) else (if m 3 = 60 then (-3) else (if (mgS ((wtS m x y) 3 - (wtS m x y) 4).toNat (wtS m x y)) 4 - (wtS m x y) 4 < 0 then (-9) else (m 3))))) = m 3 := by rw [if_neg (fun q => by omega), if_neg (not_not_intro c), if_neg (by omega), if_neg (by omega)]
  rw [e1, e2] at hA
  have c5 := kX5_propose l D cI cV g a ra m (m 1) (nwO m) rS rZ rN fr np t 0 pl le vr nr x y _ _ hfr hI.toVI r_x r_y hI.2.1 hnp rfl rfl hA.2.1
  rw [hA.1] at c5
  exact ⟨_, act_LW hA (by split <;> omega) (by split <;> omega), c5, hA.2.2.2.2.2.1⟩
theorem ac_second_e {cI cV : ClassId} {g a : Nat → Nat} {ra : Nat → Nat → Nat} {m : Nat → Int} {wL : va_W} (l : Launch) (D : va_G) (hL : LW cI cV g a ra m wL) (hI : Inv m) {x y : Int} (r_x : rg x) (r_y : rg y) (hx : 0 ≤ x ∧ x < m 0) (hy : ¬ (0 ≤ y ∧ y < m 3)) : ∃ wL', LW cI cV g a ra (m) wL' ∧ MM l yX5_second wsX5_second 6 144 [.ref (g 0), .int (iI x), .int (iI y)] wL wL' D cI cV (some (.int (iI (-1)))) ∧ Inv (m) := by
  obtain ⟨rS, rZ, rN, fr, np, t, pl, le, vr, nr, hfr, hnp, rfl⟩ := hL
  have hA := second_act (m := m) (pa := fun _ => 0) (np := 0) (x := x) (y := y) hI
  have e1 : (if ¬ (0 ≤ x ∧ x < m 0) ∨ ¬ (0 ≤ y ∧ y < m 3) then (m) else (if ¬ ((seatL (fun i => m (32 + i)) (x) (m 1).toNat ≠ -9 ∨ seatL (fun i => m ((if m 5 ≠ -9 then (37 : Int) else 32).toNat + i)) (x) (m 1).toNat ≠ -9) ∧ m (8 + x.toNat) = 1) ∨ m (20 + x.toNat) ≠ y then (m) else (mgS ((up m (20 + x.toNat) (m (20 + x.toNat) + 1)) 3 - (up m (20 + x.toNat) (m (20 + x.toNat) + 1)) 4).toNat (up m (20 + x.toNat) (m (20 + x.toNat) + 1))))) = m := by rw [if_pos (Or.inr hy)]
  have e2 : (if ¬ (0 ≤ x ∧ x < m 0) ∨ ¬ (0 ≤ y ∧ y < m 3) then (-1) else (if ¬ ((seatL (fun i => m (32 + i)) (x) (m 1).toNat ≠ -9 ∨ seatL (fun i => m ((if m 5 ≠ -9 then (37 : Int) else 32).toNat + i)) (x) (m 1).toNat ≠ -9) ∧ m (8 + x.toNat) = 1) ∨ m (20 + x.toNat) ≠ y then (-2) else ((mgS ((up m (20 + x.toNat) (m (20 + x.toNat) + 1)) 3 - (up m (20 + x.toNat) (m (20 + x.toNat) + 1)) 4).toNat (up m (20 + x.toNat) (m (20 + x.toNat) + 1))) 4 - (up m (20 + x.toNat) (m (20 + x.toNat) + 1)) 4))) = -1 := by rw [if_pos (Or.inr hy)]
  rw [e1, e2] at hA
  have c5 := kX5_second l D cI cV g a ra m (m 1) (nwO m) rS rZ rN fr np t 0 pl le vr nr x y _ _ hfr hI.toVI r_x r_y hI.2.1 hnp rfl rfl hA.2.1
  rw [hA.1] at c5
  exact ⟨_, act_LW hA (by split <;> omega) (by split <;> omega), c5, hA.2.2.2.2.2.1⟩
theorem ac_second_no {cI cV : ClassId} {g a : Nat → Nat} {ra : Nat → Nat → Nat} {m : Nat → Int} {wL : va_W} (l : Launch) (D : va_G) (hL : LW cI cV g a ra m wL) (hI : Inv m) {x y : Int} (r_x : rg x) (r_y : rg y) (hx : 0 ≤ x ∧ x < m 0) (hy : 0 ≤ y ∧ y < m 3) (c : ¬ ((seatL (fun i => m (32 + i)) x (m 1).toNat ≠ -9 ∨ seatL (fun i => m ((if m 5 ≠ -9 then (37 : Int) else 32).toNat + i)) x (m 1).toNat ≠ -9) ∧ m (8 + x.toNat) = 1) ∨ m (20 + x.toNat) ≠ y) : ∃ wL', LW cI cV g a ra (m) wL' ∧ MM l yX5_second wsX5_second 6 144 [.ref (g 0), .int (iI x), .int (iI y)] wL wL' D cI cV (some (.int (iI (-2)))) ∧ Inv (m) := by
  obtain ⟨rS, rZ, rN, fr, np, t, pl, le, vr, nr, hfr, hnp, rfl⟩ := hL
  have hA := second_act (m := m) (pa := fun _ => 0) (np := 0) (x := x) (y := y) hI
  have e1 : (if ¬ (0 ≤ x ∧ x < m 0) ∨ ¬ (0 ≤ y ∧ y < m 3) then (m) else (if ¬ ((seatL (fun i => m (32 + i)) (x) (m 1).toNat ≠ -9 ∨ seatL (fun i => m ((if m 5 ≠ -9 then (37 : Int) else 32).toNat + i)) (x) (m 1).toNat ≠ -9) ∧ m (8 + x.toNat) = 1) ∨ m (20 + x.toNat) ≠ y then (m) else (mgS ((up m (20 + x.toNat) (m (20 + x.toNat) + 1)) 3 - (up m (20 + x.toNat) (m (20 + x.toNat) + 1)) 4).toNat (up m (20 + x.toNat) (m (20 + x.toNat) + 1))))) = m := by rw [if_neg (fun q => by omega), if_pos c]
  have e2 : (if ¬ (0 ≤ x ∧ x < m 0) ∨ ¬ (0 ≤ y ∧ y < m 3) then (-1) else (if ¬ ((seatL (fun i => m (32 + i)) (x) (m 1).toNat ≠ -9 ∨ seatL (fun i => m ((if m 5 ≠ -9 then (37 : Int) else 32).toNat + i)) (x) (m 1).toNat ≠ -9) ∧ m (8 + x.toNat) = 1) ∨ m (20 + x.toNat) ≠ y then (-2) else ((mgS ((up m (20 + x.toNat) (m (20 + x.toNat) + 1)) 3 - (up m (20 + x.toNat) (m (20 + x.toNat) + 1)) 4).toNat (up m (20 + x.toNat) (m (20 + x.toNat) + 1))) 4 - (up m (20 + x.toNat) (m (20 + x.toNat) + 1)) 4))) = -2 := by rw [if_neg (fun q => by omega), if_pos c]
  rw [e1, e2] at hA
  have c5 := kX5_second l D cI cV g a ra m (m 1) (nwO m) rS rZ rN fr np t 0 pl le vr nr x y _ _ hfr hI.toVI r_x r_y hI.2.1 hnp rfl rfl hA.2.1
  rw [hA.1] at c5
  exact ⟨_, act_LW hA (by split <;> omega) (by split <;> omega), c5, hA.2.2.2.2.2.1⟩
theorem ac_second {cI cV : ClassId} {g a : Nat → Nat} {ra : Nat → Nat → Nat} {m : Nat → Int} {wL : va_W} (l : Launch) (D : va_G) (hL : LW cI cV g a ra m wL) (hI : Inv m) {x y : Int} (r_x : rg x) (r_y : rg y) (hx : 0 ≤ x ∧ x < m 0) (hy : 0 ≤ y ∧ y < m 3) (c : ¬ (¬ ((seatL (fun i => m (32 + i)) x (m 1).toNat ≠ -9 ∨ seatL (fun i => m ((if m 5 ≠ -9 then (37 : Int) else 32).toNat + i)) x (m 1).toNat ≠ -9) ∧ m (8 + x.toNat) = 1) ∨ m (20 + x.toNat) ≠ y)) : ∃ wL', LW cI cV g a ra (mgS ((up m (20 + x.toNat) (m (20 + x.toNat) + 1)) 3 - (up m (20 + x.toNat) (m (20 + x.toNat) + 1)) 4).toNat (up m (20 + x.toNat) (m (20 + x.toNat) + 1))) wL' ∧ MM l yX5_second wsX5_second 6 144 [.ref (g 0), .int (iI x), .int (iI y)] wL wL' D cI cV (some (.int (iI ((mgS ((up m (20 + x.toNat) (m (20 + x.toNat) + 1)) 3 - (up m (20 + x.toNat) (m (20 + x.toNat) + 1)) 4).toNat (up m (20 + x.toNat) (m (20 + x.toNat) + 1))) 4 - (up m (20 + x.toNat) (m (20 + x.toNat) + 1)) 4)))) ∧ Inv (mgS ((up m (20 + x.toNat) (m (20 + x.toNat) + 1)) 3 - (up m (20 + x.toNat) (m (20 + x.toNat) + 1)) 4).toNat (up m (20 + x.toNat) (m (20 + x.toNat) + 1))) := by
  obtain ⟨rS, rZ, rN, fr, np, t, pl, le, vr, nr, hfr, hnp, rfl⟩ := hL
  have hA := second_act (m := m) (pa := fun _ => 0) (np := 0) (x := x) (y := y) hI
  have e1 : (if ¬ (0 ≤ x ∧ x < m 0) ∨ ¬ (0 ≤ y ∧ y < m 3) then (m) else (if ¬ ((seatL (fun i => m (32 + i)) (x) (m 1).toNat ≠ -9 ∨ seatL (fun i => m ((if m 5 ≠ -9 then (37 : Int) else 32).toNat + i)) (x) (m 1).toNat ≠ -9) ∧ m (8 + x.toNat) = 1) ∨ m (20 + x.toNat) ≠ y then (m) else (mgS ((up m (20 + x.toNat) (m (20 + x.toNat) + 1)) 3 - (up m (20 + x.toNat) (m (20 + x.toNat) + 1)) 4).toNat (up m (20 + x.toNat) (m (20 + x.toNat) + 1))))) = mgS ((up m (20 + x.toNat) (m (20 + x.toNat) + 1)) 3 - (up m (20 + x.toNat) (m (20 + x.toNat) + 1)) 4).toNat (up m (20 + x.toNat) (m (20 + x.toNat) + 1)) := by rw [if_neg (fun q => by omega), if_neg c]
  have e2 : (if ¬ (0 ≤ x ∧ x < m 0) ∨ ¬ (0 ≤ y ∧ y < m 3) then (-1) else (if ¬ ((seatL (fun i => m (32 + i)) (x) (m 1).toNat ≠ -9 ∨ seatL (fun i => m ((if m 5 ≠ -9 then (37 : Int) else 32).toNat + i)) (x) (m 1).toNat ≠ -9) ∧ m (8 + x.toNat) = 1) ∨ m (20 + x.toNat) ≠ y then (-2) else ((mgS ((up m (20 + x.toNat) (m (20 + x.toNat) + 1)) 3 - (up m (20 + x.toNat) (m (20 + x.toNat) + 1)) 4).toNat (up m (20 + x.toNat) (m (20 + x.toNat) + 1))) 4 - (up m (20 + x.toNat) (m (20 + x.toNat) + 1)) 4))) = (mgS ((up m (20 + x.toNat) (m (20 + x.toNat) + 1)) 3 - (up m (20 + x.toNat) (m (20 + x.toNat) + 1)) 4).toNat (up m (20 + x.toNat) (m (20 + x.toNat) + 1))) 4 - (up m (20 + x.toNat) (m (20 + x.toNat) + 1)) 4 := by rw [if_neg (fun q => by omega), if_neg c]
  rw [e1, e2] at hA
  have c5 := kX5_second l D cI cV g a ra m (m 1) (nwO m) rS rZ rN fr np t 0 pl le vr nr x y _ _ hfr hI.toVI r_x r_y hI.2.1 hnp rfl rfl hA.2.1
  rw [hA.1] at c5
  exact ⟨_, act_LW hA (by split <;> omega) (by split <;> omega), c5, hA.2.2.2.2.2.1⟩
theorem ac_forge_no {cI cV : ClassId} {g a : Nat → Nat} {ra : Nat → Nat → Nat} {m : Nat → Int} {wL : va_W} (l : Launch) (D : va_G) (hL : LW cI cV g a ra m wL) (hI : Inv m) {x : Int} (r_x : rg x) (hx : 0 ≤ x ∧ x < m 0) (c : (m 5 = -9 ∨ (seatL (fun i => m (32 + i)) x (m 1).toNat ≠ -9 ∨ seatL (fun i => m ((if m 5 ≠ -9 then (37 : Int) else 32).toNat + i)) x (m 1).toNat ≠ -9))) : ∃ wL', LW cI cV g a ra (m) wL' ∧ MM l yX5_forge wsX5_forge 6 145 [.ref (g 0), .int (iI x)] wL wL' D cI cV (some (.int (iI (-2)))) ∧ Inv (m) := by
  obtain ⟨rS, rZ, rN, fr, np, t, pl, le, vr, nr, hfr, hnp, rfl⟩ := hL
  have hA := forge_act (m := m) (pa := fun _ => 0) (np := 0) (x := x) hI
  have e1 : (if ¬ (0 ≤ x ∧ x < m 0) then (m) else (if m 5 = -9 ∨ (seatL (fun i => m (32 + i)) (x) (m 1).toNat ≠ -9 ∨ seatL (fun i => m ((if m 5 ≠ -9 then (37 : Int) else 32).toNat + i)) (x) (m 1).toNat ≠ -9) then (m) else (mgS ((up (up m (219 + 5 * (m 7).toNat) x) (37 + (m (221 + 5 * (m 7).toNat)).toNat) x) 3 - (up (up m (219 + 5 * (m 7).toNat) x) (37 + (m (221 + 5 * (m 7).toNat)).toNat) x) 4).toNat (up (up m (219 + 5 * (m 7).toNat) x) (37 + (m (221 + 5 * (m 7).toNat)).toNat) x)))) = m := by rw [if_neg (not_not_intro hx), if_pos c]
  have e2 : (if ¬ (0 ≤ x ∧ x < m 0) then (-1) else (if m 5 = -9 ∨ (seatL (fun i => m (32 + i)) (x) (m 1).toNat ≠ -9 ∨ seatL (fun i => m ((if m 5 ≠ -9 then (37 : Int) else 32).toNat + i)) (x) (m 1).toNat ≠ -9) then (-2) else (if (mgS ((up (up m (219 + 5 * (m 7).toNat) x) (37 + (m (221 + 5 * (m 7).toNat)).toNat) x) 3 - (up (up m (219 + 5 * (m 7).toNat) x) (37 + (m (221 + 5 * (m 7).toNat)).toNat) x) 4).toNat (up (up m (219 + 5 * (m 7).toNat) x) (37 + (m (221 + 5 * (m 7).toNat)).toNat) x)) 4 - (up (up m (219 + 5 * (m 7).toNat) x) (37 + (m (221 + 5 * (m 7).toNat)).toNat) x) 4 < 0 then (-9) else (m (219 + 5 * (m 7).toNat))))) = -2 := by rw [if_neg (not_not_intro hx), if_pos c]
  rw [e1, e2] at hA
  have c5 := kX5_forge l D cI cV g a ra m (m 1) (nwO m) rS rZ rN fr np t 0 pl le vr nr x _ _ _ hfr hI.toVI r_x hI.2.1 hI.f5 hnp rfl rfl rfl hA.2.1
  rw [hA.1] at c5
  exact ⟨_, act_LW hA (by split <;> omega) (by split <;> omega), c5, hA.2.2.2.2.2.1⟩
theorem ac_forge {cI cV : ClassId} {g a : Nat → Nat} {ra : Nat → Nat → Nat} {m : Nat → Int} {wL : va_W} (l : Launch) (D : va_G) (hL : LW cI cV g a ra m wL) (hI : Inv m) {x : Int} (r_x : rg x) (hx : 0 ≤ x ∧ x < m 0) (c : ¬ (m 5 = -9 ∨ (seatL (fun i => m (32 + i)) x (m 1).toNat ≠ -9 ∨ seatL (fun i => m ((if m 5 ≠ -9 then (37 : Int) else 32).toNat + i)) x (m 1).toNat ≠ -9))) (hW : Inv (up (up m (219 + 5 * (m 7).toNat) x) (37 + (m (221 + 5 * (m 7).toNat)).toNat) x)) : ∃ wL', LW cI cV g a ra (mgS ((up (up m (219 + 5 * (m 7).toNat) x) (37 + (m (221 + 5 * (m 7).toNat)).toNat) x) 3 - (up (up m (219 + 5 * (m 7).toNat) x) (37 + (m (221 + 5 * (m 7).toNat)).toNat) x) 4).toNat (up (up m (219 + 5 * (m 7).toNat) x) (37 + (m (221 + 5 * (m 7).toNat)).toNat) x)) wL' ∧ MM l yX5_forge wsX5_forge 6 145 [.ref (g 0), .int (iI x)] wL wL' D cI cV (some (.int (iI (m (219 + 5 * (m 7).toNat))))) ∧ Inv (mgS ((up (up m (219 + 5 * (m 7).toNat) x) (37 + (m (221 + 5 * (m 7).toNat)).toNat) x) 3 - (up (up m (219 + 5 * (m 7).toNat) x) (37 + (m (221 + 5 * (m 7).toNat)).toNat) x) 4).toNat (up (up m (219 + 5 * (m 7).toNat) x) (37 + (m (221 + 5 * (m 7).toNat)).toNat) x)) := by
  obtain ⟨rS, rZ, rN, fr, np, t, pl, le, vr, nr, hfr, hnp, rfl⟩ := hL
  have g4 := mg_MS ((up (up m (219 + 5 * (m 7).toNat) x) (37 + (m (221 + 5 * (m 7).toNat)).toNat) x) 3 - (up (up m (219 + 5 * (m 7).toNat) x) (37 + (m (221 + 5 * (m 7).toNat)).toNat) x) 4).toNat hW.1 hW.2.1
  have hA := forge_act (m := m) (pa := fun _ => 0) (np := 0) (x := x) hI
  have e1 : (if ¬ (0 ≤ x ∧ x < m 0) then (m) else (if m 5 = -9 ∨ (seatL (fun i => m (32 + i)) (x) (m 1).toNat ≠ -9 ∨ seatL (fun i => m ((if m 5 ≠ -9 then (37 : Int) else 32).toNat + i)) (x) (m 1).toNat ≠ -9) then (m) else (mgS ((up (up m (219 + 5 * (m 7).toNat) x) (37 + (m (221 + 5 * (m 7).toNat)).toNat) x) 3 - (up (up m (219 + 5 * (m 7).toNat) x) (37 + (m (221 + 5 * (m 7).toNat)).toNat) x) 4).toNat (up (up m (219 + 5 * (m 7).toNat) x) (37 + (m (221 + 5 * (m 7).toNat)).toNat) x)))) = mgS ((up (up m (219 + 5 * (m 7).toNat) x) (37 + (m (221 + 5 * (m 7).toNat)).toNat) x) 3 - (up (up m (219 + 5 * (m 7).toNat) x) (37 + (m (221 + 5 * (m 7).toNat)).toNat) x) 4).toNat (up (up m (219 + 5 * (m 7).toNat) x) (37 + (m (221 + 5 * (m 7).toNat)).toNat) x) := by rw [if_neg (not_not_intro hx), if_neg c]
  have e2 : (if ¬ (0 ≤ x ∧ x < m 0) then (-1) else (if m 5 = -9 ∨ (seatL (fun i => m (32 + i)) (x) (m 1).toNat ≠ -9 ∨ seatL (fun i => m ((if m 5 ≠ -9 then (37 : Int) else 32).toNat + i)) (x) (m 1).toNat ≠ -9) then (-2) else (if (mgS ((up (up m (219 + 5 * (m 7).toNat) x) (37 + (m (221 + 5 * (m 7).toNat)).toNat) x) 3 - (up (up m (219 + 5 * (m 7).toNat) x) (37 + (m (221 + 5 * (m 7).toNat)).toNat) x) 4).toNat (up (up m (219 + 5 * (m 7).toNat) x) (37 + (m (221 + 5 * (m 7).toNat)).toNat) x)) 4 - (up (up m (219 + 5 * (m 7).toNat) x) (37 + (m (221 + 5 * (m 7).toNat)).toNat) x) 4 < 0 then (-9) else (m (219 + 5 * (m 7).toNat))))) = m (219 + 5 * (m 7).toNat) := by rw [if_neg (not_not_intro hx), if_neg c, if_neg (by omega)]
  rw [e1, e2] at hA
  have c5 := kX5_forge l D cI cV g a ra m (m 1) (nwO m) rS rZ rN fr np t 0 pl le vr nr x _ _ _ hfr hI.toVI r_x hI.2.1 hI.f5 hnp rfl rfl rfl hA.2.1
  rw [hA.1] at c5
  exact ⟨_, act_LW hA (by split <;> omega) (by split <;> omega), c5, hA.2.2.2.2.2.1⟩
theorem ac_change_e {cI cV : ClassId} {g a : Nat → Nat} {ra : Nat → Nat → Nat} {m : Nat → Int} {wL : va_W} (l : Launch) (D : va_G) (hL : LW cI cV g a ra m wL) (hI : Inv m) {x y : Int} (r_x : rg x) (r_y : rg y) (hy : ¬ (0 ≤ y ∧ y < m 1)) : ∃ wL', LW cI cV g a ra (m) wL' ∧ MM l yX5_change wsX5_change 6 145 [.ref (g 0), .int (iI x), .int (iI y)] wL wL' D cI cV (some (.int (iI (-1)))) ∧ Inv (m) := by
  obtain ⟨rS, rZ, rN, fr, np, t, pl, le, vr, nr, hfr, hnp, rfl⟩ := hL
  obtain ⟨dr, edr⟩ : ∃ z : Int, z = if sm (fun i => b2i (¬ (seatF (fun i => m (32 + i)) ((i : Int)) (m 1).toNat ≠ -9))) (m 0).toNat ≤ 0 then -9 else pick (fun i => b2i (¬ (seatF (fun i => m (32 + i)) ((i : Int)) (m 1).toNat ≠ -9))) (((m 6) * 25173 + 13849) % 65536 % sm (fun i => b2i (¬ (seatF (fun i => m (32 + i)) ((i : Int)) (m 1).toNat ≠ -9))) (m 0).toNat) (m 0).toNat := ⟨_, rfl⟩
  obtain ⟨nn, e_nn⟩ : ∃ z : Int, z = sm (fun i => b2i (seatL (fun i => m (32 + i)) (i : Int) (m 1).toNat = -9)) (m 0).toNat := ⟨_, rfl⟩
  obtain ⟨cA, e_cA⟩ : ∃ z : Nat → Int, z = chA m nn := ⟨_, rfl⟩
  obtain ⟨vi, evi⟩ : ∃ z : Int, z = pickL (fun i => b2i (seatL (fun i => cA (32 + i)) (i : Int) (cA 1).toNat = -9)) (cA 6 % nn) (cA 0).toNat := ⟨_, rfl⟩
  obtain ⟨cB, e_cB⟩ : ∃ z : Nat → Int, z = chB cA (m 7).toNat vi y := ⟨_, rfl⟩
  obtain ⟨cC, e_cC⟩ : ∃ z : Nat → Int, z = blk cB 37 (fun i => if (i : Int) = y then vi else cB (32 + i)) (m 1).toNat := ⟨_, rfl⟩
  have hA := (change_act (pa := fun _ => 0) (np := 0) (x := x) (y := y) hI edr e_nn e_cA evi e_cB e_cC).2
  have e1 : (if ¬ (0 ≤ x ∧ x < m 0) ∨ ¬ (0 ≤ y ∧ y < m 1) then (m) else (if m 5 ≠ -9 ∨ ¬ ((seatL (fun i => m (32 + i)) (x) (m 1).toNat ≠ -9 ∨ seatL (fun i => m ((if m 5 ≠ -9 then (37 : Int) else 32).toNat + i)) (x) (m 1).toNat ≠ -9) ∧ m (8 + x.toNat) = 1 ∧ m (20 + x.toNat) = m 3) ∨ nn = 0 then (m) else (if m 3 = 60 then (m) else (mgS ((up (wtS cC x (-9)) 5 (cC 3)) 3 - (up (wtS cC x (-9)) 5 (cC 3)) 4).toNat (up (wtS cC x (-9)) 5 (cC 3)))))) = m := by rw [if_pos (Or.inr hy)]
  have e2 : (if ¬ (0 ≤ x ∧ x < m 0) ∨ ¬ (0 ≤ y ∧ y < m 1) then (-1) else (if m 5 ≠ -9 ∨ ¬ ((seatL (fun i => m (32 + i)) (x) (m 1).toNat ≠ -9 ∨ seatL (fun i => m ((if m 5 ≠ -9 then (37 : Int) else 32).toNat + i)) (x) (m 1).toNat ≠ -9) ∧ m (8 + x.toNat) = 1 ∧ m (20 + x.toNat) = m 3) ∨ nn = 0 then (-2) else (if m 3 = 60 then (-3) else (if (mgS ((up (wtS cC x (-9)) 5 (cC 3)) 3 - (up (wtS cC x (-9)) 5 (cC 3)) 4).toNat (up (wtS cC x (-9)) 5 (cC 3))) 4 - (up (wtS cC x (-9)) 5 (cC 3)) 4 < 0 then (-9) else (vi))))) = -1 := by rw [if_pos (Or.inr hy)]
  rw [e1, e2] at hA
  have c5 := kX5_change l D cI cV g a ra m (m 1) (nwO m) rS rZ rN fr np t 0 pl le vr nr x y dr _ _ _ hfr hI.toVI r_x r_y hI.2.1 rfl hI.2.2.1 edr hnp rfl rfl rfl hA.2.1
  rw [hA.1] at c5
  exact ⟨_, act_LW hA (by split <;> omega) (by split <;> omega), c5, hA.2.2.2.2.2.1⟩
theorem ac_change_no {cI cV : ClassId} {g a : Nat → Nat} {ra : Nat → Nat → Nat} {m : Nat → Int} {wL : va_W} (l : Launch) (D : va_G) (hL : LW cI cV g a ra m wL) (hI : Inv m) {x y : Int} (r_x : rg x) (r_y : rg y) (hx : 0 ≤ x ∧ x < m 0) (hy : 0 ≤ y ∧ y < m 1) (c : (m 5 ≠ -9 ∨ ¬ ((seatL (fun i => m (32 + i)) x (m 1).toNat ≠ -9 ∨ seatL (fun i => m ((if m 5 ≠ -9 then (37 : Int) else 32).toNat + i)) x (m 1).toNat ≠ -9) ∧ m (8 + x.toNat) = 1 ∧ m (20 + x.toNat) = m 3) ∨ sm (fun i => b2i (seatL (fun i => m (32 + i)) (i : Int) (m 1).toNat = -9)) (m 0).toNat = 0)) : ∃ wL', LW cI cV g a ra (m) wL' ∧ MM l yX5_change wsX5_change 6 145 [.ref (g 0), .int (iI x), .int (iI y)] wL wL' D cI cV (some (.int (iI (-2)))) ∧ Inv (m) := by
  obtain ⟨rS, rZ, rN, fr, np, t, pl, le, vr, nr, hfr, hnp, rfl⟩ := hL
  obtain ⟨dr, edr⟩ : ∃ z : Int, z = if sm (fun i => b2i (¬ (seatF (fun i => m (32 + i)) ((i : Int)) (m 1).toNat ≠ -9))) (m 0).toNat ≤ 0 then -9 else pick (fun i => b2i (¬ (seatF (fun i => m (32 + i)) ((i : Int)) (m 1).toNat ≠ -9))) (((m 6) * 25173 + 13849) % 65536 % sm (fun i => b2i (¬ (seatF (fun i => m (32 + i)) ((i : Int)) (m 1).toNat ≠ -9))) (m 0).toNat) (m 0).toNat := ⟨_, rfl⟩
  obtain ⟨nn, e_nn⟩ : ∃ z : Int, z = sm (fun i => b2i (seatL (fun i => m (32 + i)) (i : Int) (m 1).toNat = -9)) (m 0).toNat := ⟨_, rfl⟩
  obtain ⟨cA, e_cA⟩ : ∃ z : Nat → Int, z = chA m nn := ⟨_, rfl⟩
  obtain ⟨vi, evi⟩ : ∃ z : Int, z = pickL (fun i => b2i (seatL (fun i => cA (32 + i)) (i : Int) (cA 1).toNat = -9)) (cA 6 % nn) (cA 0).toNat := ⟨_, rfl⟩
  obtain ⟨cB, e_cB⟩ : ∃ z : Nat → Int, z = chB cA (m 7).toNat vi y := ⟨_, rfl⟩
  obtain ⟨cC, e_cC⟩ : ∃ z : Nat → Int, z = blk cB 37 (fun i => if (i : Int) = y then vi else cB (32 + i)) (m 1).toNat := ⟨_, rfl⟩
  have hA := (change_act (pa := fun _ => 0) (np := 0) (x := x) (y := y) hI edr e_nn e_cA evi e_cB e_cC).2
  rw [← e_nn] at c
  have e1 : (if ¬ (0 ≤ x ∧ x < m 0) ∨ ¬ (0 ≤ y ∧ y < m 1) then (m) else (if m 5 ≠ -9 ∨ ¬ ((seatL (fun i => m (32 + i)) (x) (m 1).toNat ≠ -9 ∨ seatL (fun i => m ((if m 5 ≠ -9 then (37 : Int) else 32).toNat + i)) (x) (m 1).toNat ≠ -9) ∧ m (8 + x.toNat) = 1 ∧ m (20 + x.toNat) = m 3) ∨ nn = 0 then (m) else (if m 3 = 60 then (m) else (mgS ((up (wtS cC x (-9)) 5 (cC 3)) 3 - (up (wtS cC x (-9)) 5 (cC 3)) 4).toNat (up (wtS cC x (-9)) 5 (cC 3)))))) = m := by rw [if_neg (fun q => by omega), if_pos c]
  have e2 : (if ¬ (0 ≤ x ∧ x < m 0) ∨ ¬ (0 ≤ y ∧ y < m 1) then (-1) else (if m 5 ≠ -9 ∨ ¬ ((seatL (fun i => m (32 + i)) (x) (m 1).toNat ≠ -9 ∨ seatL (fun i => m ((if m 5 ≠ -9 then (37 : Int) else 32).toNat + i)) (x) (m 1).toNat ≠ -9) ∧ m (8 + x.toNat) = 1 ∧ m (20 + x.toNat) = m 3) ∨ nn = 0 then (-2) else (if m 3 = 60 then (-3) else (if (mgS ((up (wtS cC x (-9)) 5 (cC 3)) 3 - (up (wtS cC x (-9)) 5 (cC 3)) 4).toNat (up (wtS cC x (-9)) 5 (cC 3))) 4 - (up (wtS cC x (-9)) 5 (cC 3)) 4 < 0 then (-9) else (vi))))) = -2 := by rw [if_neg (fun q => by omega), if_pos c]
  rw [e1, e2] at hA
  have c5 := kX5_change l D cI cV g a ra m (m 1) (nwO m) rS rZ rN fr np t 0 pl le vr nr x y dr _ _ _ hfr hI.toVI r_x r_y hI.2.1 rfl hI.2.2.1 edr hnp rfl rfl rfl hA.2.1
  rw [hA.1] at c5
  exact ⟨_, act_LW hA (by split <;> omega) (by split <;> omega), c5, hA.2.2.2.2.2.1⟩
theorem an_count_0 {cI cV : ClassId} {g a : Nat → Nat} {ra : Nat → Nat → Nat} {m : Nat → Int} {wL : va_W} (l : Launch) (D : va_G) (hL : LW cI cV g a ra m wL) (hI : Inv m)   : PM l yX5_count wsX5_count 3 64 [.ref (g 0), .int (iI 0)] wL D cI cV (some (.int (iI (m 0)))) := by
  obtain ⟨rS, rZ, rN, fr, np, t, pl, le, vr, nr, hfr, hnp, rfl⟩ := hL
  have c5 := kX5_count l D cI cV g a ra m (m 1) (nwO m) rS rZ rN fr np t 0 pl le vr nr 0 hI.toVI (by decide)
  have e := re_count (m := m) (x := 0) (np := np) (n := 0)
  rw [e, if_pos rfl] at c5
  exact c5
theorem an_count_1 {cI cV : ClassId} {g a : Nat → Nat} {ra : Nat → Nat → Nat} {m : Nat → Int} {wL : va_W} (l : Launch) (D : va_G) (hL : LW cI cV g a ra m wL) (hI : Inv m)   : PM l yX5_count wsX5_count 3 64 [.ref (g 0), .int (iI 1)] wL D cI cV (some (.int (iI (sm (fun i => m (8 + i)) (m 0).toNat)))) := by
  obtain ⟨rS, rZ, rN, fr, np, t, pl, le, vr, nr, hfr, hnp, rfl⟩ := hL
  have c5 := kX5_count l D cI cV g a ra m (m 1) (nwO m) rS rZ rN fr np t 0 pl le vr nr 1 hI.toVI (by decide)
  have e := re_count (m := m) (x := 1) (np := np) (n := 0)
  rw [e, if_neg (by decide), if_pos rfl] at c5
  exact c5
theorem an_count_2 {cI cV : ClassId} {g a : Nat → Nat} {ra : Nat → Nat → Nat} {m : Nat → Int} {wL : va_W} (l : Launch) (D : va_G) (hL : LW cI cV g a ra m wL) (hI : Inv m)   : PM l yX5_count wsX5_count 3 64 [.ref (g 0), .int (iI 2)] wL D cI cV (some (.int (iI (m 1)))) := by
  obtain ⟨rS, rZ, rN, fr, np, t, pl, le, vr, nr, hfr, hnp, rfl⟩ := hL
  have c5 := kX5_count l D cI cV g a ra m (m 1) (nwO m) rS rZ rN fr np t 0 pl le vr nr 2 hI.toVI (by decide)
  have e := re_count (m := m) (x := 2) (np := np) (n := 0)
  rw [e, if_neg (by decide), if_neg (by decide), if_pos rfl] at c5
  exact c5
theorem an_count_3 {cI cV : ClassId} {g a : Nat → Nat} {ra : Nat → Nat → Nat} {m : Nat → Int} {wL : va_W} (l : Launch) (D : va_G) (hL : LW cI cV g a ra m wL) (hI : Inv m)   : PM l yX5_count wsX5_count 3 64 [.ref (g 0), .int (iI 3)] wL D cI cV (some (.int (iI (m 2)))) := by
  obtain ⟨rS, rZ, rN, fr, np, t, pl, le, vr, nr, hfr, hnp, rfl⟩ := hL
  have c5 := kX5_count l D cI cV g a ra m (m 1) (nwO m) rS rZ rN fr np t 0 pl le vr nr 3 hI.toVI (by decide)
  have e := re_count (m := m) (x := 3) (np := np) (n := 0)
  rw [e, if_neg (by decide), if_neg (by decide), if_neg (by decide), if_pos rfl] at c5
  exact c5
theorem an_count_4 {cI cV : ClassId} {g a : Nat → Nat} {ra : Nat → Nat → Nat} {m : Nat → Int} {wL : va_W} (l : Launch) (D : va_G) (hL : LW cI cV g a ra m wL) (hI : Inv m)   : PM l yX5_count wsX5_count 3 64 [.ref (g 0), .int (iI 4)] wL D cI cV (some (.int (iI (m 3)))) := by
  obtain ⟨rS, rZ, rN, fr, np, t, pl, le, vr, nr, hfr, hnp, rfl⟩ := hL
  have c5 := kX5_count l D cI cV g a ra m (m 1) (nwO m) rS rZ rN fr np t 0 pl le vr nr 4 hI.toVI (by decide)
  have e := re_count (m := m) (x := 4) (np := np) (n := 0)
  rw [e, if_neg (by decide), if_neg (by decide), if_neg (by decide), if_neg (by decide), if_pos rfl] at c5
  exact c5
theorem an_count_5 {cI cV : ClassId} {g a : Nat → Nat} {ra : Nat → Nat → Nat} {m : Nat → Int} {wL : va_W} (l : Launch) (D : va_G) (hL : LW cI cV g a ra m wL) (hI : Inv m)   : PM l yX5_count wsX5_count 3 64 [.ref (g 0), .int (iI 5)] wL D cI cV (some (.int (iI (m 4)))) := by
  obtain ⟨rS, rZ, rN, fr, np, t, pl, le, vr, nr, hfr, hnp, rfl⟩ := hL
  have c5 := kX5_count l D cI cV g a ra m (m 1) (nwO m) rS rZ rN fr np t 0 pl le vr nr 5 hI.toVI (by decide)
  have e := re_count (m := m) (x := 5) (np := np) (n := 0)
  rw [e, if_neg (by decide), if_neg (by decide), if_neg (by decide), if_neg (by decide), if_neg (by decide), if_pos rfl] at c5
  exact c5
theorem an_count_6 {cI cV : ClassId} {g a : Nat → Nat} {ra : Nat → Nat → Nat} {m : Nat → Int} {wL : va_W} (l : Launch) (D : va_G) (hL : LW cI cV g a ra m wL) (hI : Inv m)   : PM l yX5_count wsX5_count 3 64 [.ref (g 0), .int (iI 6)] wL D cI cV (some (.int (iI (if m 5 ≠ -9 then 1 else 0)))) := by
  obtain ⟨rS, rZ, rN, fr, np, t, pl, le, vr, nr, hfr, hnp, rfl⟩ := hL
  have c5 := kX5_count l D cI cV g a ra m (m 1) (nwO m) rS rZ rN fr np t 0 pl le vr nr 6 hI.toVI (by decide)
  have e := re_count (m := m) (x := 6) (np := np) (n := 0)
  rw [e, if_neg (by decide), if_neg (by decide), if_neg (by decide), if_neg (by decide), if_neg (by decide), if_neg (by decide), if_pos rfl] at c5
  exact c5
theorem an_count_7 {cI cV : ClassId} {g a : Nat → Nat} {ra : Nat → Nat → Nat} {m : Nat → Int} {wL : va_W} (l : Launch) (D : va_G) (hL : LW cI cV g a ra m wL) (hI : Inv m)   : PM l yX5_count wsX5_count 3 64 [.ref (g 0), .int (iI 7)] wL D cI cV (some (.int (iI (m 6)))) := by
  obtain ⟨rS, rZ, rN, fr, np, t, pl, le, vr, nr, hfr, hnp, rfl⟩ := hL
  have c5 := kX5_count l D cI cV g a ra m (m 1) (nwO m) rS rZ rN fr np t 0 pl le vr nr 7 hI.toVI (by decide)
  have e := re_count (m := m) (x := 7) (np := np) (n := 0)
  rw [e, if_neg (by decide), if_neg (by decide), if_neg (by decide), if_neg (by decide), if_neg (by decide), if_neg (by decide), if_neg (by decide), if_pos rfl] at c5
  exact c5
theorem an_count_8 {cI cV : ClassId} {g a : Nat → Nat} {ra : Nat → Nat → Nat} {m : Nat → Int} {wL : va_W} (l : Launch) (D : va_G) (hL : LW cI cV g a ra m wL) (hI : Inv m)   : PM l yX5_count wsX5_count 3 64 [.ref (g 0), .int (iI 8)] wL D cI cV (some (.int (iI (m 7)))) := by
  obtain ⟨rS, rZ, rN, fr, np, t, pl, le, vr, nr, hfr, hnp, rfl⟩ := hL
  have c5 := kX5_count l D cI cV g a ra m (m 1) (nwO m) rS rZ rN fr np t 0 pl le vr nr 8 hI.toVI (by decide)
  have e := re_count (m := m) (x := 8) (np := np) (n := 0)
  rw [e, if_neg (by decide), if_neg (by decide), if_neg (by decide), if_neg (by decide), if_neg (by decide), if_neg (by decide), if_neg (by decide), if_neg (by decide), if_pos rfl] at c5
  exact c5
theorem an_count_9 {cI cV : ClassId} {g a : Nat → Nat} {ra : Nat → Nat → Nat} {m : Nat → Int} {wL : va_W} (l : Launch) (D : va_G) (hL : LW cI cV g a ra m wL) (hI : Inv m)   : PM l yX5_count wsX5_count 3 64 [.ref (g 0), .int (iI 9)] wL D cI cV (some (.int (iI (sm (fun i => b2i (m (224 + 5 * i) ≠ m (225 + 5 * i))) (m 7).toNat)))) := by
  obtain ⟨rS, rZ, rN, fr, np, t, pl, le, vr, nr, hfr, hnp, rfl⟩ := hL
  have c5 := kX5_count l D cI cV g a ra m (m 1) (nwO m) rS rZ rN fr np t 0 pl le vr nr 9 hI.toVI (by decide)
  have e := re_count (m := m) (x := 9) (np := np) (n := 0)
  rw [e, if_neg (by decide), if_neg (by decide), if_neg (by decide), if_neg (by decide), if_neg (by decide), if_neg (by decide), if_neg (by decide), if_neg (by decide), if_neg (by decide), if_pos rfl] at c5
  exact c5
theorem an_count_11 {cI cV : ClassId} {g a : Nat → Nat} {ra : Nat → Nat → Nat} {m : Nat → Int} {wL : va_W} (l : Launch) (D : va_G) (hL : LW cI cV g a ra m wL) (hI : Inv m)   : PM l yX5_count wsX5_count 3 64 [.ref (g 0), .int (iI 11)] wL D cI cV (some (.int (iI (0)))) := by
  obtain ⟨rS, rZ, rN, fr, np, t, pl, le, vr, nr, hfr, hnp, rfl⟩ := hL
  have c5 := kX5_count l D cI cV g a ra m (m 1) (nwO m) rS rZ rN fr np t 0 pl le vr nr 11 hI.toVI (by decide)
  have e := re_count (m := m) (x := 11) (np := np) (n := 0)
  rw [e, if_neg (by decide), if_neg (by decide), if_neg (by decide), if_neg (by decide), if_neg (by decide), if_neg (by decide), if_neg (by decide), if_neg (by decide), if_neg (by decide), if_neg (by decide), if_neg (by decide), if_pos rfl] at c5
  exact c5
theorem an_count_12 {cI cV : ClassId} {g a : Nat → Nat} {ra : Nat → Nat → Nat} {m : Nat → Int} {wL : va_W} (l : Launch) (D : va_G) (hL : LW cI cV g a ra m wL) (hI : Inv m)   : PM l yX5_count wsX5_count 3 64 [.ref (g 0), .int (iI 12)] wL D cI cV (some (.int (iI (-1)))) := by
  obtain ⟨rS, rZ, rN, fr, np, t, pl, le, vr, nr, hfr, hnp, rfl⟩ := hL
  have c5 := kX5_count l D cI cV g a ra m (m 1) (nwO m) rS rZ rN fr np t 0 pl le vr nr 12 hI.toVI (by decide)
  have e := re_count (m := m) (x := 12) (np := np) (n := 0)
  rw [e, if_neg (by decide), if_neg (by decide), if_neg (by decide), if_neg (by decide), if_neg (by decide), if_neg (by decide), if_neg (by decide), if_neg (by decide), if_neg (by decide), if_neg (by decide), if_neg (by decide), if_neg (by decide)] at c5
  exact c5
theorem an_count_n {cI cV : ClassId} {g a : Nat → Nat} {ra : Nat → Nat → Nat} {m : Nat → Int} {wL : va_W} (l : Launch) (D : va_G) (hL : LW cI cV g a ra m wL) (hI : Inv m)   : PM l yX5_count wsX5_count 3 64 [.ref (g 0), .int (iI (-1))] wL D cI cV (some (.int (iI (-1)))) := by
  obtain ⟨rS, rZ, rN, fr, np, t, pl, le, vr, nr, hfr, hnp, rfl⟩ := hL
  have c5 := kX5_count l D cI cV g a ra m (m 1) (nwO m) rS rZ rN fr np t 0 pl le vr nr (-1) hI.toVI (by decide)
  have e := re_count (m := m) (x := -1) (np := np) (n := 0)
  rw [e, if_neg (by decide), if_neg (by decide), if_neg (by decide), if_neg (by decide), if_neg (by decide), if_neg (by decide), if_neg (by decide), if_neg (by decide), if_neg (by decide), if_neg (by decide), if_neg (by decide), if_neg (by decide)] at c5
  exact c5
theorem an_villager_0 {cI cV : ClassId} {g a : Nat → Nat} {ra : Nat → Nat → Nat} {m : Nat → Int} {wL : va_W} (l : Launch) (D : va_G) (hL : LW cI cV g a ra m wL) (hI : Inv m) {k : Nat} (hk : (k : Int) < m 0) : PM l yX5_villager wsX5_villager 2 45 [.ref (g 0), .int (iI (k : Int)), .int (iI 0)] wL D cI cV (some (.int (iI (m (8 + k))))) := by
  obtain ⟨rS, rZ, rN, fr, np, t, pl, le, vr, nr, hfr, hnp, rfl⟩ := hL
  have c5 := kX5_villager l D cI cV g a ra m (m 1) (nwO m) rS rZ rN fr np t 0 pl le vr nr (k : Int) 0 hI.toVI ⟨by omega, by have := hI.1.2.2.1; omega⟩ (by decide)
  have e := re_villager (m := m) (x := (k : Int)) (q := 0) hI
  rw [e, if_pos ⟨⟨by omega, hk⟩, by decide⟩, if_pos rfl, Int.toNat_natCast] at c5
  exact c5
theorem an_villager_1 {cI cV : ClassId} {g a : Nat → Nat} {ra : Nat → Nat → Nat} {m : Nat → Int} {wL : va_W} (l : Launch) (D : va_G) (hL : LW cI cV g a ra m wL) (hI : Inv m) {k : Nat} (hk : (k : Int) < m 0) : PM l yX5_villager wsX5_villager 2 45 [.ref (g 0), .int (iI (k : Int)), .int (iI 1)] wL D cI cV (some (.int (iI (m (20 + k))))) := by
  obtain ⟨rS, rZ, rN, fr, np, t, pl, le, vr, nr, hfr, hnp, rfl⟩ := hL
  have c5 := kX5_villager l D cI cV g a ra m (m 1) (nwO m) rS rZ rN fr np t 0 pl le vr nr (k : Int) 1 hI.toVI ⟨by omega, by have := hI.1.2.2.1; omega⟩ (by decide)
  have e := re_villager (m := m) (x := (k : Int)) (q := 1) hI
  rw [e, if_pos ⟨⟨by omega, hk⟩, by decide⟩, if_neg (by decide), if_pos rfl, Int.toNat_natCast] at c5
  exact c5
theorem an_villager_2 {cI cV : ClassId} {g a : Nat → Nat} {ra : Nat → Nat → Nat} {m : Nat → Int} {wL : va_W} (l : Launch) (D : va_G) (hL : LW cI cV g a ra m wL) (hI : Inv m) {k : Nat} (hk : (k : Int) < m 0) : PM l yX5_villager wsX5_villager 2 45 [.ref (g 0), .int (iI (k : Int)), .int (iI 2)] wL D cI cV (some (.int (iI (seatL (fun i => m (32 + i)) (k : Int) (m 1).toNat)))) := by
  obtain ⟨rS, rZ, rN, fr, np, t, pl, le, vr, nr, hfr, hnp, rfl⟩ := hL
  have c5 := kX5_villager l D cI cV g a ra m (m 1) (nwO m) rS rZ rN fr np t 0 pl le vr nr (k : Int) 2 hI.toVI ⟨by omega, by have := hI.1.2.2.1; omega⟩ (by decide)
  have e := re_villager (m := m) (x := (k : Int)) (q := 2) hI
  rw [e, if_pos ⟨⟨by omega, hk⟩, by decide⟩, if_neg (by decide), if_neg (by decide), if_pos rfl] at c5
  exact c5
theorem an_villager_3 {cI cV : ClassId} {g a : Nat → Nat} {ra : Nat → Nat → Nat} {m : Nat → Int} {wL : va_W} (l : Launch) (D : va_G) (hL : LW cI cV g a ra m wL) (hI : Inv m) {k : Nat} (hk : (k : Int) < m 0) : PM l yX5_villager wsX5_villager 2 45 [.ref (g 0), .int (iI (k : Int)), .int (iI 3)] wL D cI cV (some (.int (iI (seatL (fun i => m ((if m 5 ≠ -9 then (37 : Int) else 32).toNat + i)) (k : Int) (m 1).toNat)))) := by
  obtain ⟨rS, rZ, rN, fr, np, t, pl, le, vr, nr, hfr, hnp, rfl⟩ := hL
  have c5 := kX5_villager l D cI cV g a ra m (m 1) (nwO m) rS rZ rN fr np t 0 pl le vr nr (k : Int) 3 hI.toVI ⟨by omega, by have := hI.1.2.2.1; omega⟩ (by decide)
  have e := re_villager (m := m) (x := (k : Int)) (q := 3) hI
  rw [e, if_pos ⟨⟨by omega, hk⟩, by decide⟩, if_neg (by decide), if_neg (by decide), if_neg (by decide), if_pos rfl] at c5
  exact c5
theorem an_villager_4 {cI cV : ClassId} {g a : Nat → Nat} {ra : Nat → Nat → Nat} {m : Nat → Int} {wL : va_W} (l : Launch) (D : va_G) (hL : LW cI cV g a ra m wL) (hI : Inv m) {k : Nat} (hk : (k : Int) < m 0) : PM l yX5_villager wsX5_villager 2 45 [.ref (g 0), .int (iI (k : Int)), .int (iI 4)] wL D cI cV (some (.int (iI (sm (fun i => b2i (m (224 + 5 * i) = (k : Int))) (m 7).toNat)))) := by
  obtain ⟨rS, rZ, rN, fr, np, t, pl, le, vr, nr, hfr, hnp, rfl⟩ := hL
  have c5 := kX5_villager l D cI cV g a ra m (m 1) (nwO m) rS rZ rN fr np t 0 pl le vr nr (k : Int) 4 hI.toVI ⟨by omega, by have := hI.1.2.2.1; omega⟩ (by decide)
  have e := re_villager (m := m) (x := (k : Int)) (q := 4) hI
  rw [e, if_pos ⟨⟨by omega, hk⟩, by decide⟩, if_neg (by decide), if_neg (by decide), if_neg (by decide), if_neg (by decide)] at c5
  exact c5
theorem an_villager_no {cI cV : ClassId} {g a : Nat → Nat} {ra : Nat → Nat → Nat} {m : Nat → Int} {wL : va_W} (l : Launch) (D : va_G) (hL : LW cI cV g a ra m wL) (hI : Inv m)   : PM l yX5_villager wsX5_villager 2 45 [.ref (g 0), .int (iI (m 0)), .int (iI 0)] wL D cI cV (some (.int (iI (-1)))) := by
  obtain ⟨rS, rZ, rN, fr, np, t, pl, le, vr, nr, hfr, hnp, rfl⟩ := hL
  have c5 := kX5_villager l D cI cV g a ra m (m 1) (nwO m) rS rZ rN fr np t 0 pl le vr nr (m 0) 0 hI.toVI ⟨by have := hI.1.2.1; omega, by have := hI.1.2.2.1; omega⟩ (by decide)
  have e := re_villager (m := m) (x := m 0) (q := 0) hI
  rw [e, if_neg (fun q => by have := q.1.2; omega)] at c5
  exact c5
theorem an_villager_q {cI cV : ClassId} {g a : Nat → Nat} {ra : Nat → Nat → Nat} {m : Nat → Int} {wL : va_W} (l : Launch) (D : va_G) (hL : LW cI cV g a ra m wL) (hI : Inv m)   : PM l yX5_villager wsX5_villager 2 45 [.ref (g 0), .int (iI 0), .int (iI 5)] wL D cI cV (some (.int (iI (-1)))) := by
  obtain ⟨rS, rZ, rN, fr, np, t, pl, le, vr, nr, hfr, hnp, rfl⟩ := hL
  have c5 := kX5_villager l D cI cV g a ra m (m 1) (nwO m) rS rZ rN fr np t 0 pl le vr nr 0 5 hI.toVI (by decide) (by decide)
  have e := re_villager (m := m) (x := 0) (q := 5) hI
  rw [e, if_neg (fun q => by have := q.2.2; omega)] at c5
  exact c5
theorem an_entry_0 {cI cV : ClassId} {g a : Nat → Nat} {ra : Nat → Nat → Nat} {m : Nat → Int} {wL : va_W} (l : Launch) (D : va_G) (hL : LW cI cV g a ra m wL) (hI : Inv m) {k : Nat} (hk : (k : Int) < m 3) : PM l yX5_entry wsX5_entry 4 91 [.ref (g 0), .int (iI (k : Int)), .int (iI 0)] wL D cI cV (some (.int (iI (m (42 + 3 * k))))) := by
  obtain ⟨rS, rZ, rN, fr, np, t, pl, le, vr, nr, hfr, hnp, rfl⟩ := hL
  have c5 := kX5_entry l D cI cV g a ra m (m 1) (nwO m) rS rZ rN fr np t 0 pl le vr nr (k : Int) 0 hI.toVI ⟨by omega, by have := hI.1.2.2.2.2.2.2.1; omega⟩ (by decide)
  have e := re_entry (m := m) (y := (k : Int)) (q := 0) hI
  rw [e, if_pos ⟨⟨by omega, hk⟩, by decide⟩, if_neg (by decide), if_neg (by decide), if_neg (by decide), if_neg (by decide), if_neg (by decide), Int.toNat_natCast, show 42 + 3 * k + (0 : Int).toNat = 42 + 3 * k by omega] at c5
  exact c5
theorem an_entry_1 {cI cV : ClassId} {g a : Nat → Nat} {ra : Nat → Nat → Nat} {m : Nat → Int} {wL : va_W} (l : Launch) (D : va_G) (hL : LW cI cV g a ra m wL) (hI : Inv m) {k : Nat} (hk : (k : Int) < m 3) : PM l yX5_entry wsX5_entry 4 91 [.ref (g 0), .int (iI (k : Int)), .int (iI 1)] wL D cI cV (some (.int (iI (m (43 + 3 * k))))) := by
  obtain ⟨rS, rZ, rN, fr, np, t, pl, le, vr, nr, hfr, hnp, rfl⟩ := hL
  have c5 := kX5_entry l D cI cV g a ra m (m 1) (nwO m) rS rZ rN fr np t 0 pl le vr nr (k : Int) 1 hI.toVI ⟨by omega, by have := hI.1.2.2.2.2.2.2.1; omega⟩ (by decide)
  have e := re_entry (m := m) (y := (k : Int)) (q := 1) hI
  rw [e, if_pos ⟨⟨by omega, hk⟩, by decide⟩, if_neg (by decide), if_neg (by decide), if_neg (by decide), if_neg (by decide), if_neg (by decide), Int.toNat_natCast, show 42 + 3 * k + (1 : Int).toNat = 43 + 3 * k by omega] at c5
  exact c5
theorem an_entry_2 {cI cV : ClassId} {g a : Nat → Nat} {ra : Nat → Nat → Nat} {m : Nat → Int} {wL : va_W} (l : Launch) (D : va_G) (hL : LW cI cV g a ra m wL) (hI : Inv m) {k : Nat} (hk : (k : Int) < m 3) : PM l yX5_entry wsX5_entry 4 91 [.ref (g 0), .int (iI (k : Int)), .int (iI 2)] wL D cI cV (some (.int (iI (if (k : Int) < m 4 then 1 else 0)))) := by
  obtain ⟨rS, rZ, rN, fr, np, t, pl, le, vr, nr, hfr, hnp, rfl⟩ := hL
  have c5 := kX5_entry l D cI cV g a ra m (m 1) (nwO m) rS rZ rN fr np t 0 pl le vr nr (k : Int) 2 hI.toVI ⟨by omega, by have := hI.1.2.2.2.2.2.2.1; omega⟩ (by decide)
  have e := re_entry (m := m) (y := (k : Int)) (q := 2) hI
  rw [e, if_pos ⟨⟨by omega, hk⟩, by decide⟩, if_pos rfl] at c5
  exact c5
theorem an_entry_3 {cI cV : ClassId} {g a : Nat → Nat} {ra : Nat → Nat → Nat} {m : Nat → Int} {wL : va_W} (l : Launch) (D : va_G) (hL : LW cI cV g a ra m wL) (hI : Inv m) {k : Nat} (hk : (k : Int) < m 3) : PM l yX5_entry wsX5_entry 4 91 [.ref (g 0), .int (iI (k : Int)), .int (iI 3)] wL D cI cV (some (.int (iI (sm (fun i => b2i ((k : Int) < m (20 + i))) (m 0).toNat)))) := by
  obtain ⟨rS, rZ, rN, fr, np, t, pl, le, vr, nr, hfr, hnp, rfl⟩ := hL
  have c5 := kX5_entry l D cI cV g a ra m (m 1) (nwO m) rS rZ rN fr np t 0 pl le vr nr (k : Int) 3 hI.toVI ⟨by omega, by have := hI.1.2.2.2.2.2.2.1; omega⟩ (by decide)
  have e := re_entry (m := m) (y := (k : Int)) (q := 3) hI
  rw [e, if_pos ⟨⟨by omega, hk⟩, by decide⟩, if_neg (by decide), if_pos rfl] at c5
  exact c5
theorem an_entry_4 {cI cV : ClassId} {g a : Nat → Nat} {ra : Nat → Nat → Nat} {m : Nat → Int} {wL : va_W} (l : Launch) (D : va_G) (hL : LW cI cV g a ra m wL) (hI : Inv m) {k : Nat} (hk : (k : Int) < m 3) : PM l yX5_entry wsX5_entry 4 91 [.ref (g 0), .int (iI (k : Int)), .int (iI 4)] wL D cI cV (some (.int (iI (m (44 + 3 * k))))) := by
  obtain ⟨rS, rZ, rN, fr, np, t, pl, le, vr, nr, hfr, hnp, rfl⟩ := hL
  have c5 := kX5_entry l D cI cV g a ra m (m 1) (nwO m) rS rZ rN fr np t 0 pl le vr nr (k : Int) 4 hI.toVI ⟨by omega, by have := hI.1.2.2.2.2.2.2.1; omega⟩ (by decide)
  have e := re_entry (m := m) (y := (k : Int)) (q := 4) hI
  rw [e, if_pos ⟨⟨by omega, hk⟩, by decide⟩, if_neg (by decide), if_neg (by decide), if_pos rfl, Int.toNat_natCast] at c5
  exact c5
theorem an_entry_5 {cI cV : ClassId} {g a : Nat → Nat} {ra : Nat → Nat → Nat} {m : Nat → Int} {wL : va_W} (l : Launch) (D : va_G) (hL : LW cI cV g a ra m wL) (hI : Inv m) {k : Nat} (hk : (k : Int) < m 3) : PM l yX5_entry wsX5_entry 4 91 [.ref (g 0), .int (iI (k : Int)), .int (iI 5)] wL D cI cV (some (.int (iI (sm (fun i => b2i ((k : Int) < m (20 + (m (32 + i)).toNat))) (m 1).toNat)))) := by
  obtain ⟨rS, rZ, rN, fr, np, t, pl, le, vr, nr, hfr, hnp, rfl⟩ := hL
  have c5 := kX5_entry l D cI cV g a ra m (m 1) (nwO m) rS rZ rN fr np t 0 pl le vr nr (k : Int) 5 hI.toVI ⟨by omega, by have := hI.1.2.2.2.2.2.2.1; omega⟩ (by decide)
  have e := re_entry (m := m) (y := (k : Int)) (q := 5) hI
  rw [e, if_pos ⟨⟨by omega, hk⟩, by decide⟩, if_neg (by decide), if_neg (by decide), if_neg (by decide), if_pos rfl] at c5
  exact c5
theorem an_entry_6 {cI cV : ClassId} {g a : Nat → Nat} {ra : Nat → Nat → Nat} {m : Nat → Int} {wL : va_W} (l : Launch) (D : va_G) (hL : LW cI cV g a ra m wL) (hI : Inv m) {k : Nat} (hk : (k : Int) < m 3) : PM l yX5_entry wsX5_entry 4 91 [.ref (g 0), .int (iI (k : Int)), .int (iI 6)] wL D cI cV (some (.int (iI (sm (fun i => b2i ((k : Int) < m (20 + (m ((if m 5 ≠ -9 then (37 : Int) else 32).toNat + i)).toNat))) (m 1).toNat)))) := by
  obtain ⟨rS, rZ, rN, fr, np, t, pl, le, vr, nr, hfr, hnp, rfl⟩ := hL
  have c5 := kX5_entry l D cI cV g a ra m (m 1) (nwO m) rS rZ rN fr np t 0 pl le vr nr (k : Int) 6 hI.toVI ⟨by omega, by have := hI.1.2.2.2.2.2.2.1; omega⟩ (by decide)
  have e := re_entry (m := m) (y := (k : Int)) (q := 6) hI
  rw [e, if_pos ⟨⟨by omega, hk⟩, by decide⟩, if_neg (by decide), if_neg (by decide), if_neg (by decide), if_neg (by decide), if_pos rfl] at c5
  exact c5
theorem an_entry_no {cI cV : ClassId} {g a : Nat → Nat} {ra : Nat → Nat → Nat} {m : Nat → Int} {wL : va_W} (l : Launch) (D : va_G) (hL : LW cI cV g a ra m wL) (hI : Inv m)   : PM l yX5_entry wsX5_entry 4 91 [.ref (g 0), .int (iI (m 3)), .int (iI 0)] wL D cI cV (some (.int (iI (-1)))) := by
  obtain ⟨rS, rZ, rN, fr, np, t, pl, le, vr, nr, hfr, hnp, rfl⟩ := hL
  have c5 := kX5_entry l D cI cV g a ra m (m 1) (nwO m) rS rZ rN fr np t 0 pl le vr nr (m 3) 0 hI.toVI ⟨by have := hI.1.2.2.2.2.2.1; omega, by have := hI.1.2.2.2.2.2.2.1; omega⟩ (by decide)
  have e := re_entry (m := m) (y := m 3) (q := 0) hI
  rw [e, if_neg (fun q => by have := q.1.2; omega)] at c5
  exact c5
theorem an_draw_0 {cI cV : ClassId} {g a : Nat → Nat} {ra : Nat → Nat → Nat} {m : Nat → Int} {wL : va_W} (l : Launch) (D : va_G) (hL : LW cI cV g a ra m wL) (hI : Inv m) {k : Nat} (hk : (k : Int) < m 7) : PM l yX5_draw wsX5_draw 3 65 [.ref (g 0), .int (iI (k : Int)), .int (iI 0)] wL D cI cV (some (.int (iI (m (222 + 5 * k))))) := by
  obtain ⟨rS, rZ, rN, fr, np, t, pl, le, vr, nr, hfr, hnp, rfl⟩ := hL
  have c5 := kX5_draw l D cI cV g a ra m (m 1) (nwO m) rS rZ rN fr np t 0 pl le vr nr (k : Int) 0 hI.toVI ⟨by omega, by have := hI.1.2.2.2.2.2.2.2.2.2.2.1; omega⟩ (by decide)
  have e := re_draw (m := m) (x := (k : Int)) (q := 0) hI
  rw [e, if_pos ⟨⟨by omega, hk⟩, by decide⟩, if_neg (by decide), Int.toNat_natCast, show 222 + 5 * k + (0 : Int).toNat = 222 + 5 * k by omega] at c5
  exact c5
theorem an_draw_1 {cI cV : ClassId} {g a : Nat → Nat} {ra : Nat → Nat → Nat} {m : Nat → Int} {wL : va_W} (l : Launch) (D : va_G) (hL : LW cI cV g a ra m wL) (hI : Inv m) {k : Nat} (hk : (k : Int) < m 7) : PM l yX5_draw wsX5_draw 3 65 [.ref (g 0), .int (iI (k : Int)), .int (iI 1)] wL D cI cV (some (.int (iI (m (223 + 5 * k))))) := by
  obtain ⟨rS, rZ, rN, fr, np, t, pl, le, vr, nr, hfr, hnp, rfl⟩ := hL
  have c5 := kX5_draw l D cI cV g a ra m (m 1) (nwO m) rS rZ rN fr np t 0 pl le vr nr (k : Int) 1 hI.toVI ⟨by omega, by have := hI.1.2.2.2.2.2.2.2.2.2.2.1; omega⟩ (by decide)
  have e := re_draw (m := m) (x := (k : Int)) (q := 1) hI
  rw [e, if_pos ⟨⟨by omega, hk⟩, by decide⟩, if_neg (by decide), Int.toNat_natCast, show 222 + 5 * k + (1 : Int).toNat = 223 + 5 * k by omega] at c5
  exact c5
theorem an_draw_2 {cI cV : ClassId} {g a : Nat → Nat} {ra : Nat → Nat → Nat} {m : Nat → Int} {wL : va_W} (l : Launch) (D : va_G) (hL : LW cI cV g a ra m wL) (hI : Inv m) {k : Nat} (hk : (k : Int) < m 7) : PM l yX5_draw wsX5_draw 3 65 [.ref (g 0), .int (iI (k : Int)), .int (iI 2)] wL D cI cV (some (.int (iI (m (224 + 5 * k))))) := by
  obtain ⟨rS, rZ, rN, fr, np, t, pl, le, vr, nr, hfr, hnp, rfl⟩ := hL
  have c5 := kX5_draw l D cI cV g a ra m (m 1) (nwO m) rS rZ rN fr np t 0 pl le vr nr (k : Int) 2 hI.toVI ⟨by omega, by have := hI.1.2.2.2.2.2.2.2.2.2.2.1; omega⟩ (by decide)
  have e := re_draw (m := m) (x := (k : Int)) (q := 2) hI
  rw [e, if_pos ⟨⟨by omega, hk⟩, by decide⟩, if_neg (by decide), Int.toNat_natCast, show 222 + 5 * k + (2 : Int).toNat = 224 + 5 * k by omega] at c5
  exact c5
theorem an_draw_3 {cI cV : ClassId} {g a : Nat → Nat} {ra : Nat → Nat → Nat} {m : Nat → Int} {wL : va_W} (l : Launch) (D : va_G) (hL : LW cI cV g a ra m wL) (hI : Inv m) {k : Nat} (hk : (k : Int) < m 7) : PM l yX5_draw wsX5_draw 3 65 [.ref (g 0), .int (iI (k : Int)), .int (iI 3)] wL D cI cV (some (.int (iI (b2i (m (224 + 5 * k) ≠ m (225 + 5 * k)))))) := by
  obtain ⟨rS, rZ, rN, fr, np, t, pl, le, vr, nr, hfr, hnp, rfl⟩ := hL
  have c5 := kX5_draw l D cI cV g a ra m (m 1) (nwO m) rS rZ rN fr np t 0 pl le vr nr (k : Int) 3 hI.toVI ⟨by omega, by have := hI.1.2.2.2.2.2.2.2.2.2.2.1; omega⟩ (by decide)
  have e := re_draw (m := m) (x := (k : Int)) (q := 3) hI
  rw [e, if_pos ⟨⟨by omega, hk⟩, by decide⟩, if_pos rfl, Int.toNat_natCast] at c5
  exact c5
theorem an_draw_4 {cI cV : ClassId} {g a : Nat → Nat} {ra : Nat → Nat → Nat} {m : Nat → Int} {wL : va_W} (l : Launch) (D : va_G) (hL : LW cI cV g a ra m wL) (hI : Inv m) {k : Nat} (hk : (k : Int) < m 7) : PM l yX5_draw wsX5_draw 3 65 [.ref (g 0), .int (iI (k : Int)), .int (iI 4)] wL D cI cV (some (.int (iI (m (226 + 5 * k))))) := by
  obtain ⟨rS, rZ, rN, fr, np, t, pl, le, vr, nr, hfr, hnp, rfl⟩ := hL
  have c5 := kX5_draw l D cI cV g a ra m (m 1) (nwO m) rS rZ rN fr np t 0 pl le vr nr (k : Int) 4 hI.toVI ⟨by omega, by have := hI.1.2.2.2.2.2.2.2.2.2.2.1; omega⟩ (by decide)
  have e := re_draw (m := m) (x := (k : Int)) (q := 4) hI
  rw [e, if_pos ⟨⟨by omega, hk⟩, by decide⟩, if_neg (by decide), Int.toNat_natCast, show 222 + 5 * k + (4 : Int).toNat = 226 + 5 * k by omega] at c5
  exact c5
theorem an_draw_no {cI cV : ClassId} {g a : Nat → Nat} {ra : Nat → Nat → Nat} {m : Nat → Int} {wL : va_W} (l : Launch) (D : va_G) (hL : LW cI cV g a ra m wL) (hI : Inv m)   : PM l yX5_draw wsX5_draw 3 65 [.ref (g 0), .int (iI (m 7)), .int (iI 0)] wL D cI cV (some (.int (iI (-1)))) := by
  obtain ⟨rS, rZ, rN, fr, np, t, pl, le, vr, nr, hfr, hnp, rfl⟩ := hL
  have c5 := kX5_draw l D cI cV g a ra m (m 1) (nwO m) rS rZ rN fr np t 0 pl le vr nr (m 7) 0 hI.toVI ⟨by have := hI.1.2.2.2.2.2.2.2.2.2.1; omega, by have := hI.1.2.2.2.2.2.2.2.2.2.2.1; omega⟩ (by decide)
  have e := re_draw (m := m) (x := m 7) (q := 0) hI
  rw [e, if_neg (fun q => by have := q.1.2; omega)] at c5
  exact c5
theorem an_elder_0 {cI cV : ClassId} {g a : Nat → Nat} {ra : Nat → Nat → Nat} {m : Nat → Int} {wL : va_W} (l : Launch) (D : va_G) (hL : LW cI cV g a ra m wL) (hI : Inv m) {k : Nat} (hk : (k : Int) < m 1) : PM l yX5_elder wsX5_elder 3 64 [.ref (g 0), .int (iI 0), .int (iI (k : Int))] wL D cI cV (some (.int (iI (m (32 + k))))) := by
  obtain ⟨rS, rZ, rN, fr, np, t, pl, le, vr, nr, hfr, hnp, rfl⟩ := hL
  have c5 := kX5_elder l D cI cV g a ra m (m 1) (nwO m) rS rZ rN fr np t 0 pl le vr nr 0 (k : Int) hI.toVI (by decide) ⟨by omega, by have := hI.1.2.2.2.2.1; omega⟩ rfl
  have e := re_elder (m := m) (x := 0) (y := (k : Int)) hI
  rw [e, if_pos ⟨by decide, ⟨by omega, hk⟩⟩, if_pos rfl, Int.toNat_natCast] at c5
  exact c5
theorem an_elder_1 {cI cV : ClassId} {g a : Nat → Nat} {ra : Nat → Nat → Nat} {m : Nat → Int} {wL : va_W} (l : Launch) (D : va_G) (hL : LW cI cV g a ra m wL) (hI : Inv m) {k : Nat} (hk : (k : Int) < m 1) : PM l yX5_elder wsX5_elder 3 64 [.ref (g 0), .int (iI 1), .int (iI (k : Int))] wL D cI cV (some (.int (iI (if m 5 ≠ -9 then m (37 + k) else -9)))) := by
  obtain ⟨rS, rZ, rN, fr, np, t, pl, le, vr, nr, hfr, hnp, rfl⟩ := hL
  have c5 := kX5_elder l D cI cV g a ra m (m 1) (nwO m) rS rZ rN fr np t 0 pl le vr nr 1 (k : Int) hI.toVI (by decide) ⟨by omega, by have := hI.1.2.2.2.2.1; omega⟩ rfl
  have e := re_elder (m := m) (x := 1) (y := (k : Int)) hI
  rw [e, if_pos ⟨by decide, ⟨by omega, hk⟩⟩, if_neg (by decide), Int.toNat_natCast] at c5
  exact c5
theorem an_elder_2 {cI cV : ClassId} {g a : Nat → Nat} {ra : Nat → Nat → Nat} {m : Nat → Int} {wL : va_W} (l : Launch) (D : va_G) (hL : LW cI cV g a ra m wL) (hI : Inv m) {k : Nat} (hk : (k : Int) < m 1) : PM l yX5_elder wsX5_elder 3 64 [.ref (g 0), .int (iI 2), .int (iI (k : Int))] wL D cI cV (some (.int (iI (-1)))) := by
  obtain ⟨rS, rZ, rN, fr, np, t, pl, le, vr, nr, hfr, hnp, rfl⟩ := hL
  have c5 := kX5_elder l D cI cV g a ra m (m 1) (nwO m) rS rZ rN fr np t 0 pl le vr nr 2 (k : Int) hI.toVI (by decide) ⟨by omega, by have := hI.1.2.2.2.2.1; omega⟩ rfl
  have e := re_elder (m := m) (x := 2) (y := (k : Int)) hI
  rw [e, if_neg (fun q => by have := q.1.2; omega)] at c5
  exact c5
theorem an_elder_no {cI cV : ClassId} {g a : Nat → Nat} {ra : Nat → Nat → Nat} {m : Nat → Int} {wL : va_W} (l : Launch) (D : va_G) (hL : LW cI cV g a ra m wL) (hI : Inv m)   : PM l yX5_elder wsX5_elder 3 64 [.ref (g 0), .int (iI 0), .int (iI (m 1))] wL D cI cV (some (.int (iI (-1)))) := by
  obtain ⟨rS, rZ, rN, fr, np, t, pl, le, vr, nr, hfr, hnp, rfl⟩ := hL
  have c5 := kX5_elder l D cI cV g a ra m (m 1) (nwO m) rS rZ rN fr np t 0 pl le vr nr 0 (m 1) hI.toVI (by decide) ⟨by have := hI.1.2.2.2.1; omega, by have := hI.1.2.2.2.2.1; omega⟩ rfl
  have e := re_elder (m := m) (x := 0) (y := m 1) hI
  rw [e, if_neg (fun q => by have := q.2.2; omega)] at c5
  exact c5
