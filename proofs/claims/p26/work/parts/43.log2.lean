set_option maxHeartbeats 4000000 in
set_option maxRecDepth 100000 in
theorem kX5_elder (l : Launch) (D : va_G) (cI cV : ClassId) (g a : Nat → Nat) (ra : Nat → Nat → Nat) (s : Nat → Int) (nz : Int) (nw : Nat → Int) (rS : Nat → Nat → Int) (rZ : Nat → Int) (rN : Nat → Nat → Int) (fr hn : Int) (t : Nat → Int) (n pl le vr nr : Int) (x : Int) (y : Int) (hV : VI s nz nw) (r_x : rg x) (r_y : rg y) (h_nz : nz = s 1) : PM l yX5_elder wsX5_elder 3 64 [.ref (g 0), .int (iI (x)), .int (iI (y))] (logw cI cV g a ra s nz nw rS rZ rN fr hn t n pl le vr nr) D cI cV (some (.int (iI (if (0 ≤ x ∧ x ≤ 1) ∧ (0 ≤ y ∧ y < s 1) then (if x = 0 then s (32 + y.toNat) else if s 5 ≠ -9 then nw y.toNat else -9) else -1)))) := by
  refine PM.of (cc := cX5_elder) (maxL := 3) (ret := (some .int)) (by decide) rfl (Nat.le_of_ble_eq_true rfl) ?_
  intro p e s0 m below meth c ls hx hb hr hts hown hlocks hml hP hK hl
  have hown : s0.vm.findClass RX5 = some m.cls := hown
  have hin : ∀ w ∈ u_ws RX5 TX5 3, w ∈ wsX5_elder := by decide +kernel
  have hl : lv_has ls 3 [(0, .ref (g 0)), (1, .int (iI (x))), (2, .int (iI (y)))] := hl
  refine lv_aload_n hx hb dX5_elder_0 rfl (lv_at hl 0 rfl) ?_
  refine Gg0 hx hb hts hin hown hK hP (by decide +kernel) dX5_elder_1 ?_
  refine lv_iload_n hx hb dX5_elder_4 rfl (lv_at hl 1 rfl) ?_
  refine lv_iload_n hx hb dX5_elder_5 rfl (lv_at hl 2 rfl) ?_
  refine p_callV (v := .int (iI (if (0 ≤ x ∧ x ≤ 1) ∧ (0 ≤ y ∧ y < s 1) then (if x = 0 then s (32 + y.toNat) else if s 5 ≠ -9 then nw y.toNat else -9) else -1))) (ci := 4) (n := 2) (As := [.int (iI (x)), .int (iI (y))]) (rest := []) ⟨hx, hb, hml, hown, hts⟩ hK (kX4_elderOf l D cI cV a s nz nw x y hV (by omega) (by omega) h_nz) (log_vil hP) rfl rfl gX5_elder_X4_elderOf rfl (by decide +kernel) ⟨Nat.le_of_ble_eq_true rfl, Nat.le_of_ble_eq_true rfl⟩ rfl hl.1 (Nat.le_of_ble_eq_true rfl) dX5_elder_6 ⟨Nat.zero_le _, Nat.zero_le _⟩ rfl ?_
  exact p_iret hx hb hr hlocks (by first | rfl | omega | exact (b2i_t (by omega)).symm | exact (b2i_f (by omega)).symm | (simp only [b2i]; (repeat' split) <;> first | rfl | omega | (exfalso; omega))) dX5_elder_9
set_option maxHeartbeats 4000000 in
set_option maxRecDepth 100000 in
theorem kX5_villager (l : Launch) (D : va_G) (cI cV : ClassId) (g a : Nat → Nat) (ra : Nat → Nat → Nat) (s : Nat → Int) (nz : Int) (nw : Nat → Int) (rS : Nat → Nat → Int) (rZ : Nat → Int) (rN : Nat → Nat → Int) (fr hn : Int) (t : Nat → Int) (n pl le vr nr : Int) (x : Int) (q : Int) (hV : VI s nz nw) (r_x : rg x) (r_q : rg q) : PM l yX5_villager wsX5_villager 2 45 [.ref (g 0), .int (iI (x)), .int (iI (q))] (logw cI cV g a ra s nz nw rS rZ rN fr hn t n pl le vr nr) D cI cV (some (.int (iI (if 0 ≤ x ∧ x < s 0 then (if q = 0 then s (8 + x.toNat) else if q = 1 then s (20 + x.toNat) else if q = 2 then seatF (fun i => s (32 + i)) x (s 1).toNat else if q = 3 then seatF nw x nz.toNat else if q = 4 then sm (fun i => b2i (s (224 + 5 * i) = x)) (s 7).toNat else -1) else -1)))) := by
  refine PM.of (cc := cX5_villager) (maxL := 3) (ret := (some .int)) (by decide) rfl (Nat.le_of_ble_eq_true rfl) ?_
  intro p e s0 m below meth c ls hx hb hr hts hown hlocks hml hP hK hl
  have hown : s0.vm.findClass RX5 = some m.cls := hown
  have hin : ∀ w ∈ u_ws RX5 TX5 3, w ∈ wsX5_villager := by decide +kernel
  have hl : lv_has ls 3 [(0, .ref (g 0)), (1, .int (iI (x))), (2, .int (iI (q)))] := hl
  refine lv_aload_n hx hb dX5_villager_0 rfl (lv_at hl 0 rfl) ?_
  refine Gg0 hx hb hts hin hown hK hP (by decide +kernel) dX5_villager_1 ?_
  refine lv_iload_n hx hb dX5_villager_4 rfl (lv_at hl 1 rfl) ?_
  refine lv_iload_n hx hb dX5_villager_5 rfl (lv_at hl 2 rfl) ?_
  refine p_callV (v := .int (iI (if 0 ≤ x ∧ x < s 0 then (if q = 0 then s (8 + x.toNat) else if q = 1 then s (20 + x.toNat) else if q = 2 then seatF (fun i => s (32 + i)) x (s 1).toNat else if q = 3 then seatF nw x nz.toNat else if q = 4 then sm (fun i => b2i (s (224 + 5 * i) = x)) (s 7).toNat else -1) else -1))) (ci := 4) (n := 2) (As := [.int (iI (x)), .int (iI (q))]) (rest := []) ⟨hx, hb, hml, hown, hts⟩ hK (kX4_aboutVillager l D cI cV a s nz nw x q hV (by omega) (by omega)) (log_vil hP) rfl rfl gX5_villager_X4_aboutVillager rfl (by decide +kernel) ⟨Nat.le_of_ble_eq_true rfl, Nat.le_of_ble_eq_true rfl⟩ rfl hl.1 (Nat.le_of_ble_eq_true rfl) dX5_villager_6 ⟨Nat.zero_le _, Nat.zero_le _⟩ rfl ?_
  exact p_iret hx hb hr hlocks (by first | rfl | omega | exact (b2i_t (by omega)).symm | exact (b2i_f (by omega)).symm | (simp only [b2i]; (repeat' split) <;> first | rfl | omega | (exfalso; omega))) dX5_villager_9
set_option maxHeartbeats 4000000 in
set_option maxRecDepth 100000 in
theorem kX5_entry (l : Launch) (D : va_G) (cI cV : ClassId) (g a : Nat → Nat) (ra : Nat → Nat → Nat) (s : Nat → Int) (nz : Int) (nw : Nat → Int) (rS : Nat → Nat → Int) (rZ : Nat → Int) (rN : Nat → Nat → Int) (fr hn : Int) (t : Nat → Int) (n pl le vr nr : Int) (y : Int) (q : Int) (hV : VI s nz nw) (r_y : rg y) (r_q : rg q) : PM l yX5_entry wsX5_entry 4 91 [.ref (g 0), .int (iI (y)), .int (iI (q))] (logw cI cV g a ra s nz nw rS rZ rN fr hn t n pl le vr nr) D cI cV (some (.int (iI (if 0 ≤ y ∧ y < s 3 then (if q = 0 then s (42 + 3 * y.toNat) else if q = 1 then s (43 + 3 * y.toNat) else if q = 2 then (if y < s 4 then 1 else 0) else if q = 3 then sm (fun i => b2i ((0 ≤ ((i : Int)) ∧ ((i : Int)) < s 0) ∧ (y) < s (20 + ((i : Int)).toNat))) (s 0).toNat else if q = 4 then s (44 + 3 * y.toNat) else if q = 5 then sm (fun i => b2i (((0 ≤ (s (32 + i)) ∧ (s (32 + i)) < s 0) ∧ (y) < s (20 + (s (32 + i)).toNat)) ∨ (((0) : Int) ≠ 0 ∧ ((0 ≤ (s (32 + i)) ∧ (s (32 + i)) < s 0) ∧ s (8 + (s (32 + i)).toNat) = 1)))) (s 1).toNat else if q = 6 then sm (fun i => b2i (((0 ≤ (nw i) ∧ (nw i) < s 0) ∧ (y) < s (20 + (nw i).toNat)) ∨ (((0) : Int) ≠ 0 ∧ ((0 ≤ (nw i) ∧ (nw i) < s 0) ∧ s (8 + (nw i).toNat) = 1)))) nz.toNat else -1) else -1)))) := by
  refine PM.of (cc := cX5_entry) (maxL := 3) (ret := (some .int)) (by decide) rfl (Nat.le_of_ble_eq_true rfl) ?_
  intro p e s0 m below meth c ls hx hb hr hts hown hlocks hml hP hK hl
  have hown : s0.vm.findClass RX5 = some m.cls := hown
  have hin : ∀ w ∈ u_ws RX5 TX5 3, w ∈ wsX5_entry := by decide +kernel
  have hl : lv_has ls 3 [(0, .ref (g 0)), (1, .int (iI (y))), (2, .int (iI (q)))] := hl
  refine lv_aload_n hx hb dX5_entry_0 rfl (lv_at hl 0 rfl) ?_
  refine Gg0 hx hb hts hin hown hK hP (by decide +kernel) dX5_entry_1 ?_
  refine lv_iload_n hx hb dX5_entry_4 rfl (lv_at hl 1 rfl) ?_
  refine lv_iload_n hx hb dX5_entry_5 rfl (lv_at hl 2 rfl) ?_
  refine p_callV (v := .int (iI (if 0 ≤ y ∧ y < s 3 then (if q = 0 then s (42 + 3 * y.toNat) else if q = 1 then s (43 + 3 * y.toNat) else if q = 2 then (if y < s 4 then 1 else 0) else if q = 3 then sm (fun i => b2i ((0 ≤ ((i : Int)) ∧ ((i : Int)) < s 0) ∧ (y) < s (20 + ((i : Int)).toNat))) (s 0).toNat else if q = 4 then s (44 + 3 * y.toNat) else if q = 5 then sm (fun i => b2i (((0 ≤ (s (32 + i)) ∧ (s (32 + i)) < s 0) ∧ (y) < s (20 + (s (32 + i)).toNat)) ∨ (((0) : Int) ≠ 0 ∧ ((0 ≤ (s (32 + i)) ∧ (s (32 + i)) < s 0) ∧ s (8 + (s (32 + i)).toNat) = 1)))) (s 1).toNat else if q = 6 then sm (fun i => b2i (((0 ≤ (nw i) ∧ (nw i) < s 0) ∧ (y) < s (20 + (nw i).toNat)) ∨ (((0) : Int) ≠ 0 ∧ ((0 ≤ (nw i) ∧ (nw i) < s 0) ∧ s (8 + (nw i).toNat) = 1)))) nz.toNat else -1) else -1))) (ci := 4) (n := 2) (As := [.int (iI (y)), .int (iI (q))]) (rest := []) ⟨hx, hb, hml, hown, hts⟩ hK (kX4_aboutEntry l D cI cV a s nz nw y q hV (by omega) (by omega)) (log_vil hP) rfl rfl gX5_entry_X4_aboutEntry rfl (by decide +kernel) ⟨Nat.le_of_ble_eq_true rfl, Nat.le_of_ble_eq_true rfl⟩ rfl hl.1 (Nat.le_of_ble_eq_true rfl) dX5_entry_6 ⟨Nat.zero_le _, Nat.zero_le _⟩ rfl ?_
  exact p_iret hx hb hr hlocks (by first | rfl | omega | exact (b2i_t (by omega)).symm | exact (b2i_f (by omega)).symm | (simp only [b2i]; (repeat' split) <;> first | rfl | omega | (exfalso; omega))) dX5_entry_9
set_option maxHeartbeats 4000000 in
set_option maxRecDepth 100000 in
theorem kX5_draw (l : Launch) (D : va_G) (cI cV : ClassId) (g a : Nat → Nat) (ra : Nat → Nat → Nat) (s : Nat → Int) (nz : Int) (nw : Nat → Int) (rS : Nat → Nat → Int) (rZ : Nat → Int) (rN : Nat → Nat → Int) (fr hn : Int) (t : Nat → Int) (n pl le vr nr : Int) (x : Int) (q : Int) (hV : VI s nz nw) (r_x : rg x) (r_q : rg q) : PM l yX5_draw wsX5_draw 3 65 [.ref (g 0), .int (iI (x)), .int (iI (q))] (logw cI cV g a ra s nz nw rS rZ rN fr hn t n pl le vr nr) D cI cV (some (.int (iI (if 0 ≤ x ∧ x < s 7 then (if q = 0 then s (222 + 5 * x.toNat) else if q = 1 then s (223 + 5 * x.toNat) else if q = 2 then s (224 + 5 * x.toNat) else if q = 3 then b2i ((0 ≤ x ∧ x < s 7) ∧ s (224 + 5 * x.toNat) ≠ s (225 + 5 * x.toNat)) else if q = 4 then s (226 + 5 * x.toNat) else -1) else -1)))) := by
  refine PM.of (cc := cX5_draw) (maxL := 3) (ret := (some .int)) (by decide) rfl (Nat.le_of_ble_eq_true rfl) ?_
  intro p e s0 m below meth c ls hx hb hr hts hown hlocks hml hP hK hl
  have hown : s0.vm.findClass RX5 = some m.cls := hown
  have hin : ∀ w ∈ u_ws RX5 TX5 3, w ∈ wsX5_draw := by decide +kernel
  have hl : lv_has ls 3 [(0, .ref (g 0)), (1, .int (iI (x))), (2, .int (iI (q)))] := hl
  refine lv_aload_n hx hb dX5_draw_0 rfl (lv_at hl 0 rfl) ?_
  refine Gg0 hx hb hts hin hown hK hP (by decide +kernel) dX5_draw_1 ?_
  refine lv_iload_n hx hb dX5_draw_4 rfl (lv_at hl 1 rfl) ?_
  refine lv_iload_n hx hb dX5_draw_5 rfl (lv_at hl 2 rfl) ?_
  refine p_callV (v := .int (iI (if 0 ≤ x ∧ x < s 7 then (if q = 0 then s (222 + 5 * x.toNat) else if q = 1 then s (223 + 5 * x.toNat) else if q = 2 then s (224 + 5 * x.toNat) else if q = 3 then b2i ((0 ≤ x ∧ x < s 7) ∧ s (224 + 5 * x.toNat) ≠ s (225 + 5 * x.toNat)) else if q = 4 then s (226 + 5 * x.toNat) else -1) else -1))) (ci := 4) (n := 2) (As := [.int (iI (x)), .int (iI (q))]) (rest := []) ⟨hx, hb, hml, hown, hts⟩ hK (kX4_aboutDraw l D cI cV a s nz nw x q hV (by omega) (by omega)) (log_vil hP) rfl rfl gX5_draw_X4_aboutDraw rfl (by decide +kernel) ⟨Nat.le_of_ble_eq_true rfl, Nat.le_of_ble_eq_true rfl⟩ rfl hl.1 (Nat.le_of_ble_eq_true rfl) dX5_draw_6 ⟨Nat.zero_le _, Nat.zero_le _⟩ rfl ?_
  exact p_iret hx hb hr hlocks (by first | rfl | omega | exact (b2i_t (by omega)).symm | exact (b2i_f (by omega)).symm | (simp only [b2i]; (repeat' split) <;> first | rfl | omega | (exfalso; omega))) dX5_draw_9
set_option maxHeartbeats 4000000 in
set_option maxRecDepth 100000 in
theorem kX5_count (l : Launch) (D : va_G) (cI cV : ClassId) (g a : Nat → Nat) (ra : Nat → Nat → Nat) (s : Nat → Int) (nz : Int) (nw : Nat → Int) (rS : Nat → Nat → Int) (rZ : Nat → Int) (rN : Nat → Nat → Int) (fr hn : Int) (t : Nat → Int) (n pl le vr nr : Int) (x : Int) (hV : VI s nz nw) (r_x : rg x) : PM l yX5_count wsX5_count 3 64 [.ref (g 0), .int (iI (x))] (logw cI cV g a ra s nz nw rS rZ rN fr hn t n pl le vr nr) D cI cV (some (.int (iI (if x = 10 then (hn) else (if x = 11 then (n) else (if x = 0 then (s 0) else (if x = 1 then (sm (fun i => s (8 + i)) (s 0).toNat) else (if x = 2 then (s 1) else (if x = 3 then (s 2) else (if x = 4 then (s 3) else (if x = 5 then (s 4) else (if x = 6 then (if s 5 ≠ -9 then 1 else 0) else (if x = 7 then (s 6) else (if x = 8 then (s 7) else (if x = 9 then (sm (fun i => b2i ((0 ≤ (i : Int) ∧ (i : Int) < s 7) ∧ s (224 + 5 * (i : Int).toNat) ≠ s (225 + 5 * (i : Int).toNat))) (s 7).toNat) else (-1)))))))))))))))) := by
  refine PM.of (cc := cX5_count) (maxL := 2) (ret := (some .int)) (by decide) rfl (Nat.le_of_ble_eq_true rfl) ?_
  intro p e s0 m below meth c ls hx hb hr hts hown hlocks hml hP hK hl
  have hown : s0.vm.findClass RX5 = some m.cls := hown
  have hin : ∀ w ∈ u_ws RX5 TX5 3, w ∈ wsX5_count := by decide +kernel
  have hl : lv_has ls 2 [(0, .ref (g 0)), (1, .int (iI (x)))] := hl
  refine lv_iload_n hx hb dX5_count_0 rfl (lv_at hl 1 rfl) ?_
  by_cases c1 : x = 10
  · refine j_lk (off := 27) (tgt := 28) hx hb (by omega) dX5_count_1 (by decide) (by rw [c1]; decide) (by decide) ?_
    refine lv_aload_n hx hb dX5_count_28 rfl (lv_at hl 0 rfl) ?_
    refine Gg1 hx hb hts hin hown hK hP (by decide +kernel) dX5_count_29 ?_
    refine p_callV (v := .int (iI (hn))) (ci := 1) (n := 0) (As := []) (rest := []) ⟨hx, hb, hml, hown, hts⟩ hK (kX1_length l D cI cV (g 1) (g 2) (fun k => ra k 0) fr hn) (log_his hP) rfl rfl gX5_count_X1_length rfl (by decide +kernel) ⟨Nat.le_of_ble_eq_true rfl, Nat.le_of_ble_eq_true rfl⟩ rfl hl.1 (Nat.le_of_ble_eq_true rfl) dX5_count_32 ⟨Nat.zero_le _, Nat.zero_le _⟩ rfl ?_
    exact p_iret hx hb hr hlocks (by (by_cases zq0 : x = 10 <;> first | (rw [if_pos zq0]; first | done | (first | done | rfl | omega | (exfalso; omega))) | (rw [if_neg zq0]; first | done | (by_cases zq1 : x = 11 <;> first | (rw [if_pos zq1]; first | done | (first | done | rfl | omega | (exfalso; omega))) | (rw [if_neg zq1]; first | done | (first | done | rfl | omega | (exfalso; omega))))))) dX5_count_35
  by_cases c2 : x = 11
  · refine j_lk (off := 35) (tgt := 36) hx hb (by omega) dX5_count_1 (by decide) (by rw [c2]; decide) (by decide) ?_
    refine lv_aload_n hx hb dX5_count_36 rfl (lv_at hl 0 rfl) ?_
    refine Gg2 hx hb hts hin hown hK hP (by decide +kernel) dX5_count_37 ?_
    refine p_callV (v := .int (iI (n))) (ci := 3) (n := 0) (As := []) (rest := []) ⟨hx, hb, hml, hown, hts⟩ hK (kX3_length l D cI cV (g 3) (g 4) t n pl le vr nr) (log_txt hP) rfl rfl gX5_count_X3_length rfl (by decide +kernel) ⟨Nat.le_of_ble_eq_true rfl, Nat.le_of_ble_eq_true rfl⟩ rfl hl.1 (Nat.le_of_ble_eq_true rfl) dX5_count_40 ⟨Nat.zero_le _, Nat.zero_le _⟩ rfl ?_
    exact p_iret hx hb hr hlocks (by (by_cases zq0 : x = 10 <;> first | (rw [if_pos zq0]; first | done | (first | done | rfl | omega | (exfalso; omega))) | (rw [if_neg zq0]; first | done | (by_cases zq1 : x = 11 <;> first | (rw [if_pos zq1]; first | done | (first | done | rfl | omega | (exfalso; omega))) | (rw [if_neg zq1]; first | done | (first | done | rfl | omega | (exfalso; omega))))))) dX5_count_43
  refine j_lk (off := 43) (tgt := 44) hx hb (by omega) dX5_count_1 (by decide) (by simp [Op.lookupswitch.offset, Ne.symm c1, Ne.symm c2, c1, c2]) (by decide) ?_
  refine lv_aload_n hx hb dX5_count_44 rfl (lv_at hl 0 rfl) ?_
  refine Gg0 hx hb hts hin hown hK hP (by decide +kernel) dX5_count_45 ?_
  refine lv_iload_n hx hb dX5_count_48 rfl (lv_at hl 1 rfl) ?_
  refine p_callV (v := .int (iI (if x = 0 then (s 0) else (if x = 1 then (sm (fun i => s (8 + i)) (s 0).toNat) else (if x = 2 then (s 1) else (if x = 3 then (s 2) else (if x = 4 then (s 3) else (if x = 5 then (s 4) else (if x = 6 then (if s 5 ≠ -9 then 1 else 0) else (if x = 7 then (s 6) else (if x = 8 then (s 7) else (if x = 9 then (sm (fun i => b2i ((0 ≤ (i : Int) ∧ (i : Int) < s 7) ∧ s (224 + 5 * (i : Int).toNat) ≠ s (225 + 5 * (i : Int).toNat))) (s 7).toNat) else (-1))))))))))))) (ci := 4) (n := 1) (As := [.int (iI (x))]) (rest := []) ⟨hx, hb, hml, hown, hts⟩ hK (kX4_tally l D cI cV a s nz nw x hV (by omega)) (log_vil hP) rfl rfl gX5_count_X4_tally rfl (by decide +kernel) ⟨Nat.le_of_ble_eq_true rfl, Nat.le_of_ble_eq_true rfl⟩ rfl hl.1 (Nat.le_of_ble_eq_true rfl) dX5_count_49 ⟨Nat.zero_le _, Nat.zero_le _⟩ rfl ?_
  exact p_iret hx hb hr hlocks (by (by_cases zq0 : x = 10 <;> first | (rw [if_pos zq0]; first | done | (first | done | rfl | omega | (exfalso; omega))) | (rw [if_neg zq0]; first | done | (by_cases zq1 : x = 11 <;> first | (rw [if_pos zq1]; first | done | (first | done | rfl | omega | (exfalso; omega))) | (rw [if_neg zq1]; first | done | (first | done | rfl | omega | (exfalso; omega))))))) dX5_count_52
