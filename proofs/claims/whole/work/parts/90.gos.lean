/-! the calls of the law, on both sides -/
theorem Inv.f5 {m : Nat → Int} (h : Inv m) : m 5 ≠ -9 → 0 < m 7 ∧ 0 ≤ m (226 + 5 * (m 7 - 1).toNat) ∧ m (226 + 5 * (m 7 - 1).toNat) < m 1 := fun c => by
  rcases h.2.2.2.2.2.2.2 with q | ⟨k1, k2, k3, y, y1, y2, -⟩
  · exact absurd q c
  · rw [show (m 7 - 1).toNat = (m 7).toNat - 1 by omega, y1]
    omega
theorem Inv.f5m {m : Nat → Int} (h : Inv m) : m 5 ≠ -9 → 0 < m 7 ∧ 0 ≤ m (221 + 5 * (m 7).toNat) ∧ m (221 + 5 * (m 7).toNat) < m 1 := fun c => by
  have q := h.f5 c
  have e : 221 + 5 * (m 7).toNat = 226 + 5 * (m 7 - 1).toNat := by omega
  rw [e]
  exact q
theorem go_come (l : Launch) (D : va_G) {cI cV : ClassId} {g a : Nat → Nat} {ra : Nat → Nat → Nat} {b : Nat → Nat} {wL wM : va_W} (hS : Sim cI cV g a ra b wL wM) : ∃ (v : Int) (wL' wM' : va_W), Sim cI cV g a ra b wL' wM' ∧ MM l yX5_come wsX5_come 4 123 [.ref (g 0)] wL wL' D cI cV (some (.int (iI v))) ∧ MM l yX6_come wsX6_come 1 21 [.ref (b 0)] wM wM' D cI cV (some (.int (iI v))) := by
  obtain ⟨m, pa, he, np, rS, rZ, rN, fr, t, n, pl, le, vr, nr, at_, rd, hI, hH, hT, rfl, rfl⟩ := hS
  have hA := come_act (m := m) (pa := pa) (np := np) hI
  have c5 := kX5_come l D cI cV g a ra m (m 1) (nwO m) rS rZ rN fr np t n pl le vr nr _ _ hH.2.1 hI.toVI hH.1 rfl rfl hA.2.1
  have c6 := kX6_come l D cI cV b m pa he np 0 t n at_ rd hI.1 (Or.inl rfl) hH.1
  refine ⟨_, _, _, act_sim (he := he) (pl := pl) (le := le) (vr := vr) (nr := nr) (at_ := at_) (rd := rd) hA hI hH hT, c5, ?_⟩
  rw [hA.1]
  exact c6
theorem go_attend (l : Launch) (D : va_G) {cI cV : ClassId} {g a : Nat → Nat} {ra : Nat → Nat → Nat} {b : Nat → Nat} {wL wM : va_W} (hS : Sim cI cV g a ra b wL wM) {x y : Int} (r_x : rg x) (r_y : rg y) : ∃ (v : Int) (wL' wM' : va_W), Sim cI cV g a ra b wL' wM' ∧ MM l yX5_attend wsX5_attend 4 123 [.ref (g 0), .int (iI (x)), .int (iI (y))] wL wL' D cI cV (some (.int (iI v))) ∧ MM l yX6_attend wsX6_attend 1 22 [.ref (b 0), .int (iI (x)), .int (iI (y))] wM wM' D cI cV (some (.int (iI v))) := by
  obtain ⟨m, pa, he, np, rS, rZ, rN, fr, t, n, pl, le, vr, nr, at_, rd, hI, hH, hT, rfl, rfl⟩ := hS
  have hA := attend_act (m := m) (pa := pa) (np := np) (x := x) (y := y) hI
  have c5 := kX5_attend l D cI cV g a ra m (m 1) (nwO m) rS rZ rN fr np t n pl le vr nr x y _ _ hH.2.1 hI.toVI r_x r_y hH.1 rfl rfl hA.2.1
  have c6 := kX6_attend l D cI cV b m pa he np 0 t n at_ rd x y hI.1 (Or.inl rfl) hH.1 r_x r_y
  refine ⟨_, _, _, act_sim (he := he) (pl := pl) (le := le) (vr := vr) (nr := nr) (at_ := at_) (rd := rd) hA hI hH hT, c5, ?_⟩
  rw [hA.1]
  exact c6
theorem go_found (l : Launch) (D : va_G) {cI cV : ClassId} {g a : Nat → Nat} {ra : Nat → Nat → Nat} {b : Nat → Nat} {wL wM : va_W} (hS : Sim cI cV g a ra b wL wM) {x : Int} (r_x : rg x) : ∃ (v : Int) (wL' wM' : va_W), Sim cI cV g a ra b wL' wM' ∧ MM l yX5_found wsX5_found 4 123 [.ref (g 0), .int (iI (x))] wL wL' D cI cV (some (.int (iI v))) ∧ MM l yX6_found wsX6_found 1 22 [.ref (b 0), .int (iI (x))] wM wM' D cI cV (some (.int (iI v))) := by
  obtain ⟨m, pa, he, np, rS, rZ, rN, fr, t, n, pl, le, vr, nr, at_, rd, hI, hH, hT, rfl, rfl⟩ := hS
  have hA := found_act (m := m) (pa := pa) (np := np) (x := x) hI
  have c5 := kX5_found l D cI cV g a ra m (m 1) (nwO m) rS rZ rN fr np t n pl le vr nr x _ _ _ _ hH.2.1 hI.toVI r_x hH.1 rfl rfl rfl rfl hA.2.1
  have c6 := kX6_found l D cI cV b m pa he np 0 t n at_ rd x hI.1 (Or.inl rfl) hH.1 r_x
  refine ⟨_, _, _, act_sim (he := he) (pl := pl) (le := le) (vr := vr) (nr := nr) (at_ := at_) (rd := rd) hA hI hH hT, c5, ?_⟩
  rw [hA.1]
  exact c6
theorem go_setLot (l : Launch) (D : va_G) {cI cV : ClassId} {g a : Nat → Nat} {ra : Nat → Nat → Nat} {b : Nat → Nat} {wL wM : va_W} (hS : Sim cI cV g a ra b wL wM) {x : Int} (r_x : rg x) : ∃ (v : Int) (wL' wM' : va_W), Sim cI cV g a ra b wL' wM' ∧ MM l yX5_setLot wsX5_setLot 4 123 [.ref (g 0), .int (iI (x))] wL wL' D cI cV (some (.int (iI v))) ∧ MM l yX6_setLot wsX6_setLot 1 22 [.ref (b 0), .int (iI (x))] wM wM' D cI cV (some (.int (iI v))) := by
  obtain ⟨m, pa, he, np, rS, rZ, rN, fr, t, n, pl, le, vr, nr, at_, rd, hI, hH, hT, rfl, rfl⟩ := hS
  have hA := setLot_act (m := m) (pa := pa) (np := np) (x := x) hI
  have c5 := kX5_setLot l D cI cV g a ra m (m 1) (nwO m) rS rZ rN fr np t n pl le vr nr x _ _ hH.2.1 hI.toVI r_x hH.1 rfl rfl hA.2.1
  have c6 := kX6_setLot l D cI cV b m pa he np 0 t n at_ rd x hI.1 (Or.inl rfl) hH.1 r_x
  refine ⟨_, _, _, act_sim (he := he) (pl := pl) (le := le) (vr := vr) (nr := nr) (at_ := at_) (rd := rd) hA hI hH hT, c5, ?_⟩
  rw [hA.1]
  exact c6
theorem go_change (l : Launch) (D : va_G) {cI cV : ClassId} {g a : Nat → Nat} {ra : Nat → Nat → Nat} {b : Nat → Nat} {wL wM : va_W} (hS : Sim cI cV g a ra b wL wM) {x y : Int} (r_x : rg x) (r_y : rg y) : ∃ (v : Int) (wL' wM' : va_W), Sim cI cV g a ra b wL' wM' ∧ MM l yX5_change wsX5_change 6 145 [.ref (g 0), .int (iI (x)), .int (iI (y))] wL wL' D cI cV (some (.int (iI v))) ∧ MM l yX6_change wsX6_change 4 82 [.ref (b 0), .int (iI (x)), .int (iI (y))] wM wM' D cI cV (some (.int (iI v))) := by
  obtain ⟨m, pa, he, np, rS, rZ, rN, fr, t, n, pl, le, vr, nr, at_, rd, hI, hH, hT, rfl, rfl⟩ := hS
  obtain ⟨dr, edr⟩ : ∃ z : Int, z = if sm (fun i => b2i (¬ (seatF (fun i => m (32 + i)) ((i : Int)) (m 1).toNat ≠ -9))) (m 0).toNat ≤ 0 then -9 else pick (fun i => b2i (¬ (seatF (fun i => m (32 + i)) ((i : Int)) (m 1).toNat ≠ -9))) (((m 6) * 25173 + 13849) % 65536 % sm (fun i => b2i (¬ (seatF (fun i => m (32 + i)) ((i : Int)) (m 1).toNat ≠ -9))) (m 0).toNat) (m 0).toNat := ⟨_, rfl⟩
  obtain ⟨nn, e_nn⟩ : ∃ z : Int, z = sm (fun i => b2i (seatL (fun i => m (32 + i)) (i : Int) (m 1).toNat = -9)) (m 0).toNat := ⟨_, rfl⟩
  obtain ⟨cA, e_cA⟩ : ∃ z : Nat → Int, z = chA m nn := ⟨_, rfl⟩
  obtain ⟨vi, evi⟩ : ∃ z : Int, z = pickL (fun i => b2i (seatL (fun i => cA (32 + i)) (i : Int) (cA 1).toNat = -9)) (cA 6 % nn) (cA 0).toNat := ⟨_, rfl⟩
  obtain ⟨cB, e_cB⟩ : ∃ z : Nat → Int, z = chB cA (m 7).toNat vi y := ⟨_, rfl⟩
  obtain ⟨cC, e_cC⟩ : ∃ z : Nat → Int, z = blk cB 37 (fun i => if (i : Int) = y then vi else cB (32 + i)) (m 1).toNat := ⟨_, rfl⟩
  have hAC := change_act (pa := pa) (np := np) (x := x) (y := y) hI edr e_nn e_cA evi e_cB e_cC
  have hA := hAC.2
  have c5 := kX5_change l D cI cV g a ra m (m 1) (nwO m) rS rZ rN fr np t n pl le vr nr x y dr _ _ _ hH.2.1 hI.toVI r_x r_y hI.2.1 rfl hI.2.2.1 edr hH.1 rfl rfl rfl hA.2.1
  have c6 := kX6_change l D cI cV b m pa he np 0 t n at_ rd x y nn cA vi cB cC hI.1 (Or.inl rfl) hH.1 r_x r_y hI.2.1 hI.2.2.1 e_nn e_cA evi hAC.1 e_cB e_cC
  refine ⟨_, _, _, act_sim (he := he) (pl := pl) (le := le) (vr := vr) (nr := nr) (at_ := at_) (rd := rd) hA hI hH hT, c5, ?_⟩
  rw [hA.1]
  exact c6
theorem go_forge (l : Launch) (D : va_G) {cI cV : ClassId} {g a : Nat → Nat} {ra : Nat → Nat → Nat} {b : Nat → Nat} {wL wM : va_W} (hS : Sim cI cV g a ra b wL wM) {x : Int} (r_x : rg x) : ∃ (v : Int) (wL' wM' : va_W), Sim cI cV g a ra b wL' wM' ∧ MM l yX5_forge wsX5_forge 6 145 [.ref (g 0), .int (iI (x))] wL wL' D cI cV (some (.int (iI v))) ∧ MM l yX6_forge wsX6_forge 3 61 [.ref (b 0), .int (iI (x))] wM wM' D cI cV (some (.int (iI v))) := by
  obtain ⟨m, pa, he, np, rS, rZ, rN, fr, t, n, pl, le, vr, nr, at_, rd, hI, hH, hT, rfl, rfl⟩ := hS
  have hA := forge_act (m := m) (pa := pa) (np := np) (x := x) hI
  have c5 := kX5_forge l D cI cV g a ra m (m 1) (nwO m) rS rZ rN fr np t n pl le vr nr x _ _ _ hH.2.1 hI.toVI r_x hI.2.1 hI.f5 hH.1 rfl rfl rfl hA.2.1
  have c6 := kX6_forge l D cI cV b m pa he np 0 t n at_ rd x hI.1 (Or.inl rfl) hH.1 r_x hI.2.1 hI.f5m
  refine ⟨_, _, _, act_sim (he := he) (pl := pl) (le := le) (vr := vr) (nr := nr) (at_ := at_) (rd := rd) hA hI hH hT, c5, ?_⟩
  rw [hA.1]
  exact c6
theorem go_propose (l : Launch) (D : va_G) {cI cV : ClassId} {g a : Nat → Nat} {ra : Nat → Nat → Nat} {b : Nat → Nat} {wL wM : va_W} (hS : Sim cI cV g a ra b wL wM) {x y : Int} (r_x : rg x) (r_y : rg y) : ∃ (v : Int) (wL' wM' : va_W), Sim cI cV g a ra b wL' wM' ∧ MM l yX5_propose wsX5_propose 6 144 [.ref (g 0), .int (iI (x)), .int (iI (y))] wL wL' D cI cV (some (.int (iI v))) ∧ MM l yX6_propose wsX6_propose 4 82 [.ref (b 0), .int (iI (x)), .int (iI (y))] wM wM' D cI cV (some (.int (iI v))) := by
  obtain ⟨m, pa, he, np, rS, rZ, rN, fr, t, n, pl, le, vr, nr, at_, rd, hI, hH, hT, rfl, rfl⟩ := hS
  have hA := propose_act (m := m) (pa := pa) (np := np) (x := x) (y := y) hI
  have c5 := kX5_propose l D cI cV g a ra m (m 1) (nwO m) rS rZ rN fr np t n pl le vr nr x y _ _ hH.2.1 hI.toVI r_x r_y hI.2.1 hH.1 rfl rfl hA.2.1
  have c6 := kX6_propose l D cI cV b m pa he np 0 t n at_ rd x y hI.1 (Or.inl rfl) hH.1 r_x r_y hI.2.1
  refine ⟨_, _, _, act_sim (he := he) (pl := pl) (le := le) (vr := vr) (nr := nr) (at_ := at_) (rd := rd) hA hI hH hT, c5, ?_⟩
  rw [hA.1]
  exact c6
theorem go_second (l : Launch) (D : va_G) {cI cV : ClassId} {g a : Nat → Nat} {ra : Nat → Nat → Nat} {b : Nat → Nat} {wL wM : va_W} (hS : Sim cI cV g a ra b wL wM) {x y : Int} (r_x : rg x) (r_y : rg y) : ∃ (v : Int) (wL' wM' : va_W), Sim cI cV g a ra b wL' wM' ∧ MM l yX5_second wsX5_second 6 144 [.ref (g 0), .int (iI (x)), .int (iI (y))] wL wL' D cI cV (some (.int (iI v))) ∧ MM l yX6_second wsX6_second 3 61 [.ref (b 0), .int (iI (x)), .int (iI (y))] wM wM' D cI cV (some (.int (iI v))) := by
  obtain ⟨m, pa, he, np, rS, rZ, rN, fr, t, n, pl, le, vr, nr, at_, rd, hI, hH, hT, rfl, rfl⟩ := hS
  have hA := second_act (m := m) (pa := pa) (np := np) (x := x) (y := y) hI
  have c5 := kX5_second l D cI cV g a ra m (m 1) (nwO m) rS rZ rN fr np t n pl le vr nr x y _ _ hH.2.1 hI.toVI r_x r_y hI.2.1 hH.1 rfl rfl hA.2.1
  have c6 := kX6_second l D cI cV b m pa he np 0 t n at_ rd x y hI.1 (Or.inl rfl) hH.1 r_x r_y hI.2.1
  refine ⟨_, _, _, act_sim (he := he) (pl := pl) (le := le) (vr := vr) (nr := nr) (at_ := at_) (rd := rd) hA hI hH hT, c5, ?_⟩
  rw [hA.1]
  exact c6
theorem go_learn (l : Launch) (D : va_G) {cI cV : ClassId} {g a : Nat → Nat} {ra : Nat → Nat → Nat} {b : Nat → Nat} {wL wM : va_W} (hS : Sim cI cV g a ra b wL wM) {x : Int} (r_x : rg x) : ∃ (v : Int) (wL' wM' : va_W), Sim cI cV g a ra b wL' wM' ∧ MM l yX5_learn wsX5_learn 4 123 [.ref (g 0), .int (iI (x))] wL wL' D cI cV (some (.int (iI v))) ∧ MM l yX6_learn wsX6_learn 1 21 [.ref (b 0), .int (iI (x))] wM wM' D cI cV (some (.int (iI v))) := by
  obtain ⟨m, pa, he, np, rS, rZ, rN, fr, t, n, pl, le, vr, nr, at_, rd, hI, hH, hT, rfl, rfl⟩ := hS
  have hA := learn_act (m := m) (pa := pa) (np := np) (x := x) hI
  have c5 := kX5_learn l D cI cV g a ra m (m 1) (nwO m) rS rZ rN fr np t n pl le vr nr x _ _ hH.2.1 hI.toVI r_x hH.1 rfl rfl hA.2.1
  have c6 := kX6_learn l D cI cV b m pa he np 0 t n at_ rd x hI.1 (Or.inl rfl) hH.1 r_x
  refine ⟨_, _, _, act_sim (he := he) (pl := pl) (le := le) (vr := vr) (nr := nr) (at_ := at_) (rd := rd) hA hI hH hT, c5, ?_⟩
  rw [hA.1]
  exact c6
theorem go_count (l : Launch) (D : va_G) {cI cV : ClassId} {g a : Nat → Nat} {ra : Nat → Nat → Nat} {b : Nat → Nat} {wL wM : va_W} (hS : Sim cI cV g a ra b wL wM) {x : Int} (r_x : rg x) : ∃ (v : Int), PM l yX5_count wsX5_count 3 64 [.ref (g 0), .int (iI (x))] wL D cI cV (some (.int (iI v))) ∧ PM l yX6_count wsX6_count 2 43 [.ref (b 0), .int (iI (x))] wM D cI cV (some (.int (iI v))) := by
  obtain ⟨m, pa, he, np, rS, rZ, rN, fr, t, n, pl, le, vr, nr, at_, rd, hI, hH, hT, rfl, rfl⟩ := hS
  have c5 := kX5_count l D cI cV g a ra m (m 1) (nwO m) rS rZ rN fr np t n pl le vr nr x hI.toVI r_x
  have c6 := kX6_count l D cI cV b m pa he np 0 t n at_ rd x hI.1 r_x
  have e := re_count (m := m) (x := x) (np := np) (n := n)
  refine ⟨_, c5, ?_⟩
  rw [e]
  exact c6
theorem go_elder (l : Launch) (D : va_G) {cI cV : ClassId} {g a : Nat → Nat} {ra : Nat → Nat → Nat} {b : Nat → Nat} {wL wM : va_W} (hS : Sim cI cV g a ra b wL wM) {x y : Int} (r_x : rg x) (r_y : rg y) : ∃ (v : Int), PM l yX5_elder wsX5_elder 3 64 [.ref (g 0), .int (iI (x)), .int (iI (y))] wL D cI cV (some (.int (iI v))) ∧ PM l yX6_elder wsX6_elder 1 22 [.ref (b 0), .int (iI (x)), .int (iI (y))] wM D cI cV (some (.int (iI v))) := by
  obtain ⟨m, pa, he, np, rS, rZ, rN, fr, t, n, pl, le, vr, nr, at_, rd, hI, hH, hT, rfl, rfl⟩ := hS
  have c5 := kX5_elder l D cI cV g a ra m (m 1) (nwO m) rS rZ rN fr np t n pl le vr nr x y hI.toVI r_x r_y rfl
  have c6 := kX6_elder l D cI cV b m pa he np 0 t n at_ rd x y hI.1 r_x r_y
  have e := re_elder (m := m) (x := x) (y := y) hI
  refine ⟨_, c5, ?_⟩
  rw [e]
  exact c6
theorem go_villager (l : Launch) (D : va_G) {cI cV : ClassId} {g a : Nat → Nat} {ra : Nat → Nat → Nat} {b : Nat → Nat} {wL wM : va_W} (hS : Sim cI cV g a ra b wL wM) {x q : Int} (r_x : rg x) (r_q : rg q) : ∃ (v : Int), PM l yX5_villager wsX5_villager 2 45 [.ref (g 0), .int (iI (x)), .int (iI (q))] wL D cI cV (some (.int (iI v))) ∧ PM l yX6_villager wsX6_villager 2 40 [.ref (b 0), .int (iI (x)), .int (iI (q))] wM D cI cV (some (.int (iI v))) := by
  obtain ⟨m, pa, he, np, rS, rZ, rN, fr, t, n, pl, le, vr, nr, at_, rd, hI, hH, hT, rfl, rfl⟩ := hS
  have c5 := kX5_villager l D cI cV g a ra m (m 1) (nwO m) rS rZ rN fr np t n pl le vr nr x q hI.toVI r_x r_q
  have c6 := kX6_villager l D cI cV b m pa he np 0 t n at_ rd x q hI.1 r_x r_q
  have e := re_villager (m := m) (x := x) (q := q) hI
  refine ⟨_, c5, ?_⟩
  rw [e]
  exact c6
theorem go_entry (l : Launch) (D : va_G) {cI cV : ClassId} {g a : Nat → Nat} {ra : Nat → Nat → Nat} {b : Nat → Nat} {wL wM : va_W} (hS : Sim cI cV g a ra b wL wM) {y q : Int} (r_y : rg y) (r_q : rg q) : ∃ (v : Int), PM l yX5_entry wsX5_entry 4 91 [.ref (g 0), .int (iI (y)), .int (iI (q))] wL D cI cV (some (.int (iI v))) ∧ PM l yX6_entry wsX6_entry 2 40 [.ref (b 0), .int (iI (y)), .int (iI (q))] wM D cI cV (some (.int (iI v))) := by
  obtain ⟨m, pa, he, np, rS, rZ, rN, fr, t, n, pl, le, vr, nr, at_, rd, hI, hH, hT, rfl, rfl⟩ := hS
  have c5 := kX5_entry l D cI cV g a ra m (m 1) (nwO m) rS rZ rN fr np t n pl le vr nr y q hI.toVI r_y r_q
  have c6 := kX6_entry l D cI cV b m pa he np 0 t n at_ rd y q hI.1 r_y r_q
  have e := re_entry (m := m) (y := y) (q := q) hI
  refine ⟨_, c5, ?_⟩
  rw [e]
  exact c6
theorem go_draw (l : Launch) (D : va_G) {cI cV : ClassId} {g a : Nat → Nat} {ra : Nat → Nat → Nat} {b : Nat → Nat} {wL wM : va_W} (hS : Sim cI cV g a ra b wL wM) {x q : Int} (r_x : rg x) (r_q : rg q) : ∃ (v : Int), PM l yX5_draw wsX5_draw 3 65 [.ref (g 0), .int (iI (x)), .int (iI (q))] wL D cI cV (some (.int (iI v))) ∧ PM l yX6_draw wsX6_draw 1 22 [.ref (b 0), .int (iI (x)), .int (iI (q))] wM D cI cV (some (.int (iI v))) := by
  obtain ⟨m, pa, he, np, rS, rZ, rN, fr, t, n, pl, le, vr, nr, at_, rd, hI, hH, hT, rfl, rfl⟩ := hS
  have c5 := kX5_draw l D cI cV g a ra m (m 1) (nwO m) rS rZ rN fr np t n pl le vr nr x q hI.toVI r_x r_q
  have c6 := kX6_draw l D cI cV b m pa he np 0 t n at_ rd x q hI.1 r_x r_q
  have e := re_draw (m := m) (x := x) (q := q) hI
  refine ⟨_, c5, ?_⟩
  rw [e]
  exact c6
theorem go_missing (l : Launch) (D : va_G) {cI cV : ClassId} {g a : Nat → Nat} {ra : Nat → Nat → Nat} {b : Nat → Nat} {wL wM : va_W} (hS : Sim cI cV g a ra b wL wM) {y : Int} (r_y : rg y) : ∃ (v : Int), PM l yX5_missing wsX5_missing 6 137 [.ref (g 0), .int (iI (y))] wL D cI cV (some (.int (iI v))) ∧ PM l yX6_missing wsX6_missing 2 40 [.ref (b 0), .int (iI (y))] wM D cI cV (some (.int (iI v))) := by
  obtain ⟨m, pa, he, np, rS, rZ, rN, fr, t, n, pl, le, vr, nr, at_, rd, hI, hH, hT, rfl, rfl⟩ := hS
  have c5 := kX5_missing l D cI cV g a ra m (m 1) (nwO m) rS rZ rN fr np t n pl le vr nr y hI.toVI r_y
  have c6 := kX6_missing l D cI cV b m pa he np 0 t n at_ rd y hI.1 r_y
  have e := re_missing (m := m) (y := y) hI
  refine ⟨_, c5, ?_⟩
  rw [e]
  exact c6
theorem go_nextDrawn (l : Launch) (D : va_G) {cI cV : ClassId} {g a : Nat → Nat} {ra : Nat → Nat → Nat} {b : Nat → Nat} {wL wM : va_W} (hS : Sim cI cV g a ra b wL wM) {y : Int} (r_y : rg y) : ∃ (v : Int), PM l yX5_nextDrawn wsX5_nextDrawn 6 131 [.ref (g 0), .int (iI (y))] wL D cI cV (some (.int (iI v))) ∧ PM l yX6_nextDrawn wsX6_nextDrawn 2 49 [.ref (b 0), .int (iI (y))] wM D cI cV (some (.int (iI v))) := by
  obtain ⟨m, pa, he, np, rS, rZ, rN, fr, t, n, pl, le, vr, nr, at_, rd, hI, hH, hT, rfl, rfl⟩ := hS
  have c5 := kX5_nextDrawn l D cI cV g a ra m (m 1) (nwO m) rS rZ rN fr np t n pl le vr nr y hI.toVI r_y
  have c6 := kX6_nextDrawn l D cI cV b m pa he np 0 t n at_ rd y hI.1 r_y
  have e := re_nextDrawn (m := m) (y := y) hI
  refine ⟨_, c5, ?_⟩
  rw [e]
  exact c6
theorem go_spare (l : Launch) (D : va_G) {cI cV : ClassId} {g a : Nat → Nat} {ra : Nat → Nat → Nat} {b : Nat → Nat} {wL wM : va_W} (hS : Sim cI cV g a ra b wL wM) : ∃ (v : Int), PM l yX5_spare wsX5_spare 6 136 [.ref (g 0)] wL D cI cV (some (.int (iI v))) ∧ PM l yX6_spare wsX6_spare 1 24 [.ref (b 0)] wM D cI cV (some (.int (iI v))) := by
  obtain ⟨m, pa, he, np, rS, rZ, rN, fr, t, n, pl, le, vr, nr, at_, rd, hI, hH, hT, rfl, rfl⟩ := hS
  have c5 := kX5_spare l D cI cV g a ra m (m 1) (nwO m) rS rZ rN fr np t n pl le vr nr hI.toVI
  have c6 := kX6_spare l D cI cV b m pa he np 0 t n at_ rd hI.1
  have e := re_spare (m := m) hI
  refine ⟨_, c5, ?_⟩
  rw [e]
  exact c6
theorem go_lotFor (l : Launch) (D : va_G) {cI cV : ClassId} {g a : Nat → Nat} {ra : Nat → Nat → Nat} {b : Nat → Nat} {wL wM : va_W} (hS : Sim cI cV g a ra b wL wM) {x y : Int} (r_x : rg x) (r_y : rg y) : ∃ (v : Int), PM l yX5_lotFor wsX5_lotFor 5 111 [.ref (g 0), .int (iI (x)), .int (iI (y))] wL D cI cV (some (.int (iI v))) ∧ PM l yX6_lotFor wsX6_lotFor 2 49 [.ref (b 0), .int (iI (x)), .int (iI (y))] wM D cI cV (some (.int (iI v))) := by
  obtain ⟨m, pa, he, np, rS, rZ, rN, fr, t, n, pl, le, vr, nr, at_, rd, hI, hH, hT, rfl, rfl⟩ := hS
  have c5 := kX5_lotFor l D cI cV g a ra m (m 1) (nwO m) rS rZ rN fr np t n pl le vr nr x y hI.toVI r_x r_y
  have c6 := kX6_lotFor l D cI cV b m pa he np 0 t n at_ rd x y hI.1 r_x r_y
  have e := re_lotFor (m := m) (x := x) (y := y) hI
  refine ⟨_, c5, ?_⟩
  rw [e]
  exact c6
theorem go_reachable (l : Launch) (D : va_G) {cI cV : ClassId} {g a : Nat → Nat} {ra : Nat → Nat → Nat} {b : Nat → Nat} {wL wM : va_W} (hS : Sim cI cV g a ra b wL wM) : ∃ (v : Int) (wM' : va_W), Sim cI cV g a ra b wL wM' ∧ PM l yX5_reachable wsX5_reachable 5 112 [.ref (g 0)] wL D cI cV (some (.int (iI v))) ∧ MM l yX6_reachable wsX6_reachable 3 61 [.ref (b 0)] wM wM' D cI cV (some (.int (iI v))) := by
  obtain ⟨m, pa, he, np, rS, rZ, rN, fr, t, n, pl, le, vr, nr, at_, rd, hI, hH, hT, rfl, rfl⟩ := hS
  obtain ⟨cR, e_cR⟩ : ∃ z : Nat → Int, z = blk m 20 (fun k => if (seatL (fun i => m (32 + i)) ((k : Int)) (m 1).toNat ≠ -9 ∨ seatL (fun i => m ((if m 5 ≠ -9 then (37 : Int) else 32).toNat + i)) ((k : Int)) (m 1).toNat ≠ -9) ∧ m (8 + k) = 1 then m 3 else m (20 + k)) (m 0).toNat := ⟨_, rfl⟩
  have c5 := kX5_reachable l D cI cV g a ra m (m 1) (nwO m) rS rZ rN fr np t n pl le vr nr hI.toVI
  have c6 := kX6_reachable l D cI cV b m pa he np 0 t n at_ rd cR hI.1 hI.2.1 e_cR
  have e := reach_eq hI e_cR
  rw [← e] at c6
  exact ⟨_, _, ⟨m, pa, _, np, rS, rZ, rN, fr, t, n, pl, le, vr, nr, at_, rd, hI, hH, hT, rfl, rfl⟩, c5, c6⟩
theorem go_undo (l : Launch) (D : va_G) {cI cV : ClassId} {g a : Nat → Nat} {ra : Nat → Nat → Nat} {b : Nat → Nat} {wL wM : va_W} (hS : Sim cI cV g a ra b wL wM) : ∃ (v : Int) (wL' wM' : va_W), Sim cI cV g a ra b wL' wM' ∧ MM l yX5_undo wsX5_undo 5 144 [.ref (g 0)] wL wL' D cI cV (some (.int (iI v))) ∧ MM l yX6_undo wsX6_undo 0 0 [.ref (b 0)] wM wM' D cI cV (some (.int (iI v))) := by
  obtain ⟨m, pa, he, np, rS, rZ, rN, fr, t, n, pl, le, vr, nr, at_, rd, hI, hH, hT, rfl, rfl⟩ := hS
  have c5 := kX5_undo l D cI cV g a ra m (m 1) (nwO m) rS rZ rN fr np t n pl le vr nr hH.2.1 hH.1
  have c6 := kX6_undo l D cI cV b m pa he np 0 t n at_ rd hH.1
  by_cases c : np = 0
  · simp only [if_pos c] at c5 c6
    exact ⟨_, _, _, ⟨m, pa, he, np, rS, rZ, rN, fr, t, n, pl, le, vr, nr, at_, rd, hI, hH, hT, rfl, rfl⟩, c5, c6⟩
  · simp only [if_neg c] at c5 c6
    obtain ⟨hU, hP, hR1, hR2, hR3⟩ := HI_undo hH c
    have e : ∀ j, j < 522 → blk m 0 (fun j => pa (522 * (np - 1).toNat + j)) 522 j = past pa (np - 1).toNat j := fun j hj => by
      unfold blk past
      rw [if_pos (by omega), if_pos hj]
      rfl
    refine ⟨_, _, _, ⟨blk m 0 (fun j => pa (522 * (np - 1).toNat + j)) 522, pa, he, np - 1, rS, rZ, rN, (fr + 6 - 1) % 6, t, n, pl, le, vr, nr, at_, rd, Inv_cut hP e (fun k => ?_), hU, hT, logw_eq (fun j hj hk => (hR1 j hj hk).trans (e j hj).symm) (hR2.trans (e 1 (by omega)).symm) (fun i hi => (hR3 i hi).trans (by rw [nwO_cut e])), rfl⟩, c5, c6⟩
    by_cases q : k < 522
    · rw [e k q]
      exact hP.1.1 k
    · rw [blk_out (by omega)]
      exact hI.1.1 k
theorem go_append (l : Launch) (D : va_G) {cI cV : ClassId} {g a : Nat → Nat} {ra : Nat → Nat → Nat} {b : Nat → Nat} {wL wM : va_W} (hS : Sim cI cV g a ra b wL wM) {x : Int} (r_x : rg x) : ∃ (v : Int) (wL' wM' : va_W), Sim cI cV g a ra b wL' wM' ∧ MM l yX5_append wsX5_append 1 21 [.ref (g 0), .int (iI (x))] wL wL' D cI cV (some (.int (iI v))) ∧ MM l yX6_append wsX6_append 1 22 [.ref (b 0), .int (iI (x))] wM wM' D cI cV (some (.int (iI v))) := by
  obtain ⟨m, pa, he, np, rS, rZ, rN, fr, t, n, pl, le, vr, nr, at_, rd, hI, hH, hT, rfl, rfl⟩ := hS
  have c5 := kX5_append l D cI cV g a ra m (m 1) (nwO m) rS rZ rN fr np t n pl le vr nr x hH.2.1 r_x hT.1 hT.2
  have c6 := kX6_append l D cI cV b m pa he np 0 t n at_ rd x r_x hT
  have h60 := hT.2
  by_cases c1 : ¬ (1 ≤ x ∧ x ≤ 255)
  · simp only [if_pos (show x < 1 ∨ 255 < x by omega)] at c5
    simp only [if_pos c1] at c6
    exact ⟨_, _, _, ⟨m, pa, he, np, rS, rZ, rN, fr, t, n, pl, le, vr, nr, at_, rd, hI, hH, hT, rfl, rfl⟩, c5, c6⟩
  by_cases c2 : n = 60
  · simp only [if_neg (show ¬ (x < 1 ∨ 255 < x) by omega), if_pos (show 60 ≤ n by omega)] at c5
    simp only [if_neg c1, if_pos c2] at c6
    exact ⟨_, _, _, ⟨m, pa, he, np, rS, rZ, rN, fr, t, n, pl, le, vr, nr, at_, rd, hI, hH, hT, rfl, rfl⟩, c5, c6⟩
  · simp only [if_neg (show ¬ (x < 1 ∨ 255 < x) by omega), if_neg (show ¬ 60 ≤ n by omega)] at c5
    simp only [if_neg c1, if_neg c2] at c6
    exact ⟨_, _, _, ⟨m, pa, he, np, rS, rZ, rN, fr, up t n.toNat x, n + 1, pl, le, vr, nr, at_, rd, hI, hH, ⟨bd_up hT.1 (by omega), by omega⟩, rfl, rfl⟩, c5, c6⟩
theorem go_clearText (l : Launch) (D : va_G) {cI cV : ClassId} {g a : Nat → Nat} {ra : Nat → Nat → Nat} {b : Nat → Nat} {wL wM : va_W} (hS : Sim cI cV g a ra b wL wM) : ∃ (v : Int) (wL' wM' : va_W), Sim cI cV g a ra b wL' wM' ∧ MM l yX5_clearText wsX5_clearText 1 21 [.ref (g 0)] wL wL' D cI cV (some (.int (iI v))) ∧ MM l yX6_clearText wsX6_clearText 0 0 [.ref (b 0)] wM wM' D cI cV (some (.int (iI v))) := by
  obtain ⟨m, pa, he, np, rS, rZ, rN, fr, t, n, pl, le, vr, nr, at_, rd, hI, hH, hT, rfl, rfl⟩ := hS
  have c5 := kX5_clearText l D cI cV g a ra m (m 1) (nwO m) rS rZ rN fr np t n pl le vr nr hH.2.1 hT.1 hT.2
  have c6 := kX6_clearText l D cI cV b m pa he np 0 t n at_ rd
  exact ⟨_, _, _, ⟨m, pa, he, np, rS, rZ, rN, fr, t, 0, pl, le, vr, nr, at_, rd, hI, hH, ⟨hT.1, by omega⟩, rfl, rfl⟩, c5, c6⟩
theorem go_run (l : Launch) (D : va_G) {cI cV : ClassId} {g a : Nat → Nat} {ra : Nat → Nat → Nat} {b : Nat → Nat} {wL wM : va_W} (hS : Sim cI cV g a ra b wL wM) : ∃ (v : Int) (wL' wM' : va_W), Sim cI cV g a ra b wL' wM' ∧ MM l yX5_run wsX5_run 7 167 [.ref (g 0)] wL wL' D cI cV (some (.int (iI v))) ∧ MM l yX6_run wsX6_run 6 130 [.ref (b 0)] wM wM' D cI cV (some (.int (iI v))) := by
  obtain ⟨m, pa, he, np, rS, rZ, rN, fr, t, n, pl, le, vr, nr, at_, rd, hI, hH, hT, rfl, rfl⟩ := hS
  have h60 := hT.2
  obtain ⟨rc, e_rc⟩ : ∃ z, z = runC t n (m 1) (nwO m) 60 m 0 0 le vr nr := ⟨_, rfl⟩
  obtain ⟨rm, e_rm⟩ : ∃ z, z = runM t n 61 (-9) m 0 0 rd := ⟨_, rfl⟩
  have q : RunR m rc rm := by
    rw [e_rc, e_rm]
    exact run_eq 60 hI (by omega) (by omega) (by omega)
  have c5 := kX5_run l D cI cV g a ra m (m 1) (nwO m) rS rZ rN fr np t n pl le vr nr rc hH.2.1 hI.toVI hI.2.1 hH.1 hT.1 hT.2 e_rc
  have c6 := kX6_run l D cI cV b m pa he np 0 t n at_ rd rm hI.1 hI.2.1 hT rfl hH.1 e_rm
  rcases q with ⟨q1, q2, q3, q4, q5, q6, q7⟩ | ⟨q1, q2, q3⟩
  · have e5 : min (np + 1) 5 = actN np + 1 := by
      have := hH.1
      have hN : actN np = if np = 5 then 4 else np := rfl
      rw [hN]
      split <;> omega
    have n1 : ¬ rc.1 < 0 := by omega
    have n2 : ¬ rm.2.1 ≠ -9 := fun z => z q1
    simp only [if_neg n1, e5] at c5
    simp only [if_neg n2, ← q2] at c6
    exact ⟨_, _, _, ⟨rm.2.2.1, actP m pa np, _, actN np + 1, _, _, _, (fr + 1) % 6, t, 0, _, _, _, _, _, _, q5, HI_yes hH hI, ⟨hT.1, by omega⟩, logw_eq (fun j _ _ => by rw [q4]) q6.symm (fun i _ => by rw [q7]), rfl⟩, c5, c6⟩
  · have n1 : rc.1 < 0 := by omega
    simp only [if_pos n1] at c5
    simp only [if_pos q1, ← q3] at c6
    exact ⟨_, _, _, ⟨m, pa, _, np, _, _, _, fr, t, n, _, _, _, _, _, _, hI, HI_no hH, hT, rfl, rfl⟩, c5, c6⟩
