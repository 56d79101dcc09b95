set_option maxHeartbeats 4000000 in
set_option maxRecDepth 100000 in
theorem kX4_elderOf (l : Launch) (D : va_G) (cI cV : ClassId) (a : Nat → Nat) (s : Nat → Int) (nz : Int) (nw : Nat → Int) (x : Int) (y : Int) (hV : VI s nz nw) (r_x : rg x) (r_y : rg y) (h_nz : nz = s 1) : PM l yX4_elderOf wsX4_elderOf 2 42 [.ref (a 0), .int (iI (x)), .int (iI (y))] (vilw cI a s nz nw) D cI cV (some (.int (iI (if (0 ≤ x ∧ x ≤ 1) ∧ (0 ≤ y ∧ y < s 1) then (if x = 0 then s (32 + y.toNat) else if s 5 ≠ -9 then nw y.toNat else -9) else -1)))) := by
  refine PM.of (cc := cX4_elderOf) (maxL := 3) (ret := (some .int)) (by decide) rfl (Nat.le_of_ble_eq_true rfl) ?_
  intro p e s0 m below meth c ls hx hb hr hts hown hlocks hml hP hK hl
  have hown : s0.vm.findClass RX4 = some m.cls := hown
  have hin : ∀ w ∈ u_ws RX4 TX4 13, w ∈ wsX4_elderOf := by decide +kernel
  have hl : lv_has ls 3 [(0, .ref (a 0)), (1, .int (iI (x))), (2, .int (iI (y)))] := hl
  obtain ⟨hbs, hbn, h00, h01, h10, h11, hz0, hz1, h30, h31, h40, h41, h70, h71, h60, h61⟩ := id hV
  have hb5 := hbs 5
  have hb2 := hbs 2
  refine lv_iload_n hx hb dX4_elderOf_0 rfl (lv_at hl 1 rfl) ?_
  refine j_zlt (tgt := 20) hx hb (by omega) dX4_elderOf_1 (by decide) (fun c1 => ?_) (fun c1 => ?_)
  · refine j_c hx hb dX4_elderOf_20 ?_
    exact p_iret hx hb hr hlocks (by (repeat' split) <;> first | omega | rfl | (exfalso; omega)) dX4_elderOf_21
  · refine lv_iload_n hx hb dX4_elderOf_4 rfl (lv_at hl 1 rfl) ?_
    refine j_c hx hb dX4_elderOf_5 ?_
    refine j_igt (tgt := 20) hx hb (by omega) (by omega) dX4_elderOf_6 (by decide) (fun c2 => ?_) (fun c2 => ?_)
    · refine j_c hx hb dX4_elderOf_20 ?_
      exact p_iret hx hb hr hlocks (by (repeat' split) <;> first | omega | rfl | (exfalso; omega)) dX4_elderOf_21
    · refine lv_aload_n hx hb dX4_elderOf_9 rfl (lv_at hl 0 rfl) ?_
      refine Vg3 hx hb hts hin hown hK hP (by decide +kernel) dX4_elderOf_10 ?_
      refine lv_iload_n hx hb dX4_elderOf_13 rfl (lv_at hl 2 rfl) ?_
      refine p_callV (v := .int (iI (b2i (0 ≤ y ∧ y < (s 1))))) (ci := 0) (n := 1) (As := [.int (iI (y))]) (rest := []) ⟨hx, hb, hml, hown, hts⟩ hK (kX0_hasSeat l D cI cV (a 6) (a 7) (s 1) (fun i => s (32 + i)) y (by omega) (by omega)) (vil_old hP) rfl rfl gX4_elderOf_X0_hasSeat rfl (by decide +kernel) ⟨Nat.le_of_ble_eq_true rfl, Nat.le_of_ble_eq_true rfl⟩ rfl hl.1 (Nat.le_of_ble_eq_true rfl) dX4_elderOf_14 ⟨Nat.zero_le _, Nat.zero_le _⟩ rfl ?_
      refine j_bne (tgt := 22) hx hb dX4_elderOf_17 (by decide) (fun c3 => ?_) (fun c3 => ?_)
      · refine lv_iload_n hx hb dX4_elderOf_22 rfl (lv_at hl 1 rfl) ?_
        refine j_zne (tgt := 35) hx hb (by omega) dX4_elderOf_23 (by decide) (fun c4 => ?_) (fun c4 => ?_)
        · refine lv_aload_n hx hb dX4_elderOf_35 rfl (lv_at hl 0 rfl) ?_
          refine p_callV (v := .int (iI (b2i (s 5 ≠ -9)))) (ci := 4) (n := 0) (As := []) (rest := []) ⟨hx, hb, hml, hown, hts⟩ hK (kX4_isChanging l D cI cV a s nz nw hV) hP rfl rfl gX4_elderOf_X4_isChanging rfl (by decide +kernel) ⟨Nat.le_of_ble_eq_true rfl, Nat.le_of_ble_eq_true rfl⟩ rfl hl.1 (Nat.le_of_ble_eq_true rfl) dX4_elderOf_36 ⟨Nat.zero_le _, Nat.zero_le _⟩ rfl ?_
          refine j_beq (tgt := 53) hx hb dX4_elderOf_39 (by decide) (fun c5 => ?_) (fun c5 => ?_)
          · refine j_bi hx hb dX4_elderOf_53 rfl ?_
            exact p_iret hx hb hr hlocks (by (repeat' split) <;> first | omega | rfl | (exfalso; omega)) dX4_elderOf_55
          · refine lv_aload_n hx hb dX4_elderOf_42 rfl (lv_at hl 0 rfl) ?_
            refine Vg4 hx hb hts hin hown hK hP (by decide +kernel) dX4_elderOf_43 ?_
            refine lv_iload_n hx hb dX4_elderOf_46 rfl (lv_at hl 2 rfl) ?_
            refine p_callV (v := .int (iI (nw y.toNat))) (ci := 0) (n := 1) (As := [.int (iI (y))]) (rest := []) ⟨hx, hb, hml, hown, hts⟩ hK (kX0_elderOn l D cI cV (a 8) (a 9) nz nw y (by omega) (by omega)) (vil_new hP) rfl rfl gX4_elderOf_X0_elderOn rfl (by decide +kernel) ⟨Nat.le_of_ble_eq_true rfl, Nat.le_of_ble_eq_true rfl⟩ rfl hl.1 (Nat.le_of_ble_eq_true rfl) dX4_elderOf_47 ⟨Nat.zero_le _, Nat.zero_le _⟩ rfl ?_
            have f36 : bd (nw y.toNat) := hbn _
            refine lv_goto (tgt := 55) hx hb dX4_elderOf_50 (by decide) ?_
            exact p_iret hx hb hr hlocks (by (repeat' split) <;> first | omega | rfl | (exfalso; omega)) dX4_elderOf_55
        · refine lv_aload_n hx hb dX4_elderOf_26 rfl (lv_at hl 0 rfl) ?_
          refine Vg3 hx hb hts hin hown hK hP (by decide +kernel) dX4_elderOf_27 ?_
          refine lv_iload_n hx hb dX4_elderOf_30 rfl (lv_at hl 2 rfl) ?_
          refine p_callV (v := .int (iI (s (32 + y.toNat)))) (ci := 0) (n := 1) (As := [.int (iI (y))]) (rest := []) ⟨hx, hb, hml, hown, hts⟩ hK (kX0_elderOn l D cI cV (a 6) (a 7) (s 1) (fun i => s (32 + i)) y (by omega) (by omega)) (vil_old hP) rfl rfl gX4_elderOf_X0_elderOn rfl (by decide +kernel) ⟨Nat.le_of_ble_eq_true rfl, Nat.le_of_ble_eq_true rfl⟩ rfl hl.1 (Nat.le_of_ble_eq_true rfl) dX4_elderOf_31 ⟨Nat.zero_le _, Nat.zero_le _⟩ rfl ?_
          have f43 : bd (s (32 + y.toNat)) := hbs _
          exact p_iret hx hb hr hlocks (by (repeat' split) <;> first | omega | rfl | (exfalso; omega)) dX4_elderOf_34
      · refine j_c hx hb dX4_elderOf_20 ?_
        exact p_iret hx hb hr hlocks (by (repeat' split) <;> first | omega | rfl | (exfalso; omega)) dX4_elderOf_21
set_option maxHeartbeats 4000000 in
set_option maxRecDepth 100000 in
theorem kX4_aboutVillager (l : Launch) (D : va_G) (cI cV : ClassId) (a : Nat → Nat) (s : Nat → Int) (nz : Int) (nw : Nat → Int) (x : Int) (q : Int) (hV : VI s nz nw) (r_x : rg x) (r_q : rg q) : PM l yX4_aboutVillager wsX4_aboutVillager 1 23 [.ref (a 0), .int (iI (x)), .int (iI (q))] (vilw cI a s nz nw) D cI cV (some (.int (iI (if 0 ≤ x ∧ x < s 0 then (if q = 0 then s (8 + x.toNat) else if q = 1 then s (20 + x.toNat) else if q = 2 then seatF (fun i => s (32 + i)) x (s 1).toNat else if q = 3 then seatF nw x nz.toNat else if q = 4 then sm (fun i => b2i (s (224 + 5 * i) = x)) (s 7).toNat else -1) else -1)))) := by
  refine PM.of (cc := cX4_aboutVillager) (maxL := 3) (ret := (some .int)) (by decide) rfl (Nat.le_of_ble_eq_true rfl) ?_
  intro p e s0 m below meth c ls hx hb hr hts hown hlocks hml hP hK hl
  have hown : s0.vm.findClass RX4 = some m.cls := hown
  have hin : ∀ w ∈ u_ws RX4 TX4 13, w ∈ wsX4_aboutVillager := by decide +kernel
  have hl : lv_has ls 3 [(0, .ref (a 0)), (1, .int (iI (x))), (2, .int (iI (q)))] := hl
  obtain ⟨hbs, hbn, h00, h01, h10, h11, hz0, hz1, h30, h31, h40, h41, h70, h71, h60, h61⟩ := id hV
  have hb5 := hbs 5
  have hb2 := hbs 2
  refine lv_aload_n hx hb dX4_aboutVillager_0 rfl (lv_at hl 0 rfl) ?_
  refine lv_iload_n hx hb dX4_aboutVillager_1 rfl (lv_at hl 1 rfl) ?_
  refine p_callV (v := .int (iI (b2i (0 ≤ (x) ∧ (x) < s 0)))) (ci := 4) (n := 1) (As := [.int (iI (x))]) (rest := []) ⟨hx, hb, hml, hown, hts⟩ hK (kX4_isVillager l D cI cV a s nz nw x hV (by omega)) hP rfl rfl gX4_aboutVillager_X4_isVillager rfl (by decide +kernel) ⟨Nat.le_of_ble_eq_true rfl, Nat.le_of_ble_eq_true rfl⟩ rfl hl.1 (Nat.le_of_ble_eq_true rfl) dX4_aboutVillager_2 ⟨Nat.zero_le _, Nat.zero_le _⟩ rfl ?_
  refine j_bne (tgt := 10) hx hb dX4_aboutVillager_5 (by decide) (fun c1 => ?_) (fun c1 => ?_)
  · refine lv_iload_n hx hb dX4_aboutVillager_10 rfl (lv_at hl 2 rfl) ?_
    by_cases c2 : q = 0
    · refine j_tin (k := 0) (off := 33) (tgt := 44) hx hb c2 (by decide) dX4_aboutVillager_11 (by decide) (by decide) (by decide) (by decide) ?_
      refine lv_aload_n hx hb dX4_aboutVillager_44 rfl (lv_at hl 0 rfl) ?_
      refine Vg1 hx hb hts hin hown hK hP (by decide +kernel) dX4_aboutVillager_45 ?_
      refine lv_iload_n hx hb dX4_aboutVillager_48 rfl (lv_at hl 1 rfl) ?_
      refine Va0 hx hb hK hP (by omega) dX4_aboutVillager_49 ?_
      have r2_22 : bd (s (8 + x.toNat)) := hbs _
      exact p_iret hx hb hr hlocks (by (repeat' split) <;> first | omega | rfl | (exfalso; omega)) dX4_aboutVillager_50
    by_cases c3 : q = 1
    · refine j_tin (k := 1) (off := 40) (tgt := 51) hx hb c3 (by decide) dX4_aboutVillager_11 (by decide) (by decide) (by decide) (by decide) ?_
      refine lv_aload_n hx hb dX4_aboutVillager_51 rfl (lv_at hl 0 rfl) ?_
      refine Vg2 hx hb hts hin hown hK hP (by decide +kernel) dX4_aboutVillager_52 ?_
      refine lv_iload_n hx hb dX4_aboutVillager_55 rfl (lv_at hl 1 rfl) ?_
      refine Va1 hx hb hK hP (by omega) dX4_aboutVillager_56 ?_
      have r3_30 : bd (s (20 + x.toNat)) := hbs _
      exact p_iret hx hb hr hlocks (by (repeat' split) <;> first | omega | rfl | (exfalso; omega)) dX4_aboutVillager_57
    by_cases c4 : q = 2
    · refine j_tin (k := 2) (off := 47) (tgt := 58) hx hb c4 (by decide) dX4_aboutVillager_11 (by decide) (by decide) (by decide) (by decide) ?_
      refine lv_aload_n hx hb dX4_aboutVillager_58 rfl (lv_at hl 0 rfl) ?_
      refine Vg3 hx hb hts hin hown hK hP (by decide +kernel) dX4_aboutVillager_59 ?_
      refine lv_iload_n hx hb dX4_aboutVillager_62 rfl (lv_at hl 1 rfl) ?_
      refine p_callV (v := .int (iI (seatF (fun i => s (32 + i)) x (s 1).toNat))) (ci := 0) (n := 1) (As := [.int (iI (x))]) (rest := []) ⟨hx, hb, hml, hown, hts⟩ hK (kX0_seatOf l D cI cV (a 6) (a 7) (s 1) (fun i => s (32 + i)) x (by omega) (by omega) (fun k => hbs _)) (vil_old hP) rfl rfl gX4_aboutVillager_X0_seatOf rfl (by decide +kernel) ⟨Nat.le_of_ble_eq_true rfl, Nat.le_of_ble_eq_true rfl⟩ rfl hl.1 (Nat.le_of_ble_eq_true rfl) dX4_aboutVillager_63 ⟨Nat.zero_le _, Nat.zero_le _⟩ rfl ?_
      exact p_iret hx hb hr hlocks (by (repeat' split) <;> first | omega | rfl | (exfalso; omega)) dX4_aboutVillager_66
    by_cases c5 : q = 3
    · refine j_tin (k := 3) (off := 56) (tgt := 67) hx hb c5 (by decide) dX4_aboutVillager_11 (by decide) (by decide) (by decide) (by decide) ?_
      refine lv_aload_n hx hb dX4_aboutVillager_67 rfl (lv_at hl 0 rfl) ?_
      refine Vg4 hx hb hts hin hown hK hP (by decide +kernel) dX4_aboutVillager_68 ?_
      refine lv_iload_n hx hb dX4_aboutVillager_71 rfl (lv_at hl 1 rfl) ?_
      refine p_callV (v := .int (iI (seatF nw x nz.toNat))) (ci := 0) (n := 1) (As := [.int (iI (x))]) (rest := []) ⟨hx, hb, hml, hown, hts⟩ hK (kX0_seatOf l D cI cV (a 8) (a 9) nz nw x (by omega) (by omega) (fun k => hbn _)) (vil_new hP) rfl rfl gX4_aboutVillager_X0_seatOf rfl (by decide +kernel) ⟨Nat.le_of_ble_eq_true rfl, Nat.le_of_ble_eq_true rfl⟩ rfl hl.1 (Nat.le_of_ble_eq_true rfl) dX4_aboutVillager_72 ⟨Nat.zero_le _, Nat.zero_le _⟩ rfl ?_
      exact p_iret hx hb hr hlocks (by (repeat' split) <;> first | omega | rfl | (exfalso; omega)) dX4_aboutVillager_75
    by_cases c6 : q = 4
    · refine j_tin (k := 4) (off := 65) (tgt := 76) hx hb c6 (by decide) dX4_aboutVillager_11 (by decide) (by decide) (by decide) (by decide) ?_
      refine lv_aload_n hx hb dX4_aboutVillager_76 rfl (lv_at hl 0 rfl) ?_
      refine Vg7 hx hb hts hin hown hK hP (by decide +kernel) dX4_aboutVillager_77 ?_
      refine lv_iload_n hx hb dX4_aboutVillager_80 rfl (lv_at hl 1 rfl) ?_
      refine p_callV (v := .int (iI (sm (fun i => b2i (s (224 + 5 * i) = x)) (s 7).toNat))) (ci := 2) (n := 1) (As := [.int (iI (x))]) (rest := []) ⟨hx, hb, hml, hown, hts⟩ hK (kX2_drawsOf l D cI cV a s x (by omega) hbs (by omega)) (vil_lot hP) rfl rfl gX4_aboutVillager_X2_drawsOf rfl (by decide +kernel) ⟨Nat.le_of_ble_eq_true rfl, Nat.le_of_ble_eq_true rfl⟩ rfl hl.1 (Nat.le_of_ble_eq_true rfl) dX4_aboutVillager_81 ⟨Nat.zero_le _, Nat.zero_le _⟩ rfl ?_
      have f52 := sm_rg (f := (fun i => b2i (s (224 + 5 * i) = x))) (fun k => b2i_rg) ((s 7).toNat)
      exact p_iret hx hb hr hlocks (by (repeat' split) <;> first | omega | rfl | (exfalso; omega)) dX4_aboutVillager_84
    refine j_tout (tgt := 85) hx hb (by omega) dX4_aboutVillager_11 (by omega) (by decide) ?_
    refine j_c hx hb dX4_aboutVillager_85 ?_
    exact p_iret hx hb hr hlocks (by (repeat' split) <;> first | omega | rfl | (exfalso; omega)) dX4_aboutVillager_86
  · refine j_c hx hb dX4_aboutVillager_8 ?_
    exact p_iret hx hb hr hlocks (by (repeat' split) <;> first | omega | rfl | (exfalso; omega)) dX4_aboutVillager_9
set_option maxHeartbeats 4000000 in
set_option maxRecDepth 100000 in
theorem kX4_aboutEntry (l : Launch) (D : va_G) (cI cV : ClassId) (a : Nat → Nat) (s : Nat → Int) (nz : Int) (nw : Nat → Int) (y : Int) (q : Int) (hV : VI s nz nw) (r_y : rg y) (r_q : rg q) : PM l yX4_aboutEntry wsX4_aboutEntry 3 69 [.ref (a 0), .int (iI (y)), .int (iI (q))] (vilw cI a s nz nw) D cI cV (some (.int (iI (if 0 ≤ y ∧ y < s 3 then (if q = 0 then s (42 + 3 * y.toNat) else if q = 1 then s (43 + 3 * y.toNat) else if q = 2 then (if y < s 4 then 1 else 0) else if q = 3 then sm (fun i => b2i ((0 ≤ ((i : Int)) ∧ ((i : Int)) < s 0) ∧ (y) < s (20 + ((i : Int)).toNat))) (s 0).toNat else if q = 4 then s (44 + 3 * y.toNat) else if q = 5 then sm (fun i => b2i (((0 ≤ (s (32 + i)) ∧ (s (32 + i)) < s 0) ∧ (y) < s (20 + (s (32 + i)).toNat)) ∨ (((0) : Int) ≠ 0 ∧ ((0 ≤ (s (32 + i)) ∧ (s (32 + i)) < s 0) ∧ s (8 + (s (32 + i)).toNat) = 1)))) (s 1).toNat else if q = 6 then sm (fun i => b2i (((0 ≤ (nw i) ∧ (nw i) < s 0) ∧ (y) < s (20 + (nw i).toNat)) ∨ (((0) : Int) ≠ 0 ∧ ((0 ≤ (nw i) ∧ (nw i) < s 0) ∧ s (8 + (nw i).toNat) = 1)))) nz.toNat else -1) else -1)))) := by
  refine PM.of (cc := cX4_aboutEntry) (maxL := 3) (ret := (some .int)) (by decide) rfl (Nat.le_of_ble_eq_true rfl) ?_
  intro p e s0 m below meth c ls hx hb hr hts hown hlocks hml hP hK hl
  have hown : s0.vm.findClass RX4 = some m.cls := hown
  have hin : ∀ w ∈ u_ws RX4 TX4 13, w ∈ wsX4_aboutEntry := by decide +kernel
  have hl : lv_has ls 3 [(0, .ref (a 0)), (1, .int (iI (y))), (2, .int (iI (q)))] := hl
  obtain ⟨hbs, hbn, h00, h01, h10, h11, hz0, hz1, h30, h31, h40, h41, h70, h71, h60, h61⟩ := id hV
  have hb5 := hbs 5
  have hb2 := hbs 2
  refine lv_aload_n hx hb dX4_aboutEntry_0 rfl (lv_at hl 0 rfl) ?_
  refine lv_iload_n hx hb dX4_aboutEntry_1 rfl (lv_at hl 1 rfl) ?_
  refine p_callV (v := .int (iI (b2i (0 ≤ y ∧ y < s 3)))) (ci := 4) (n := 1) (As := [.int (iI (y))]) (rest := []) ⟨hx, hb, hml, hown, hts⟩ hK (kX4_isEntry l D cI cV a s nz nw y hV (by omega)) hP rfl rfl gX4_aboutEntry_X4_isEntry rfl (by decide +kernel) ⟨Nat.le_of_ble_eq_true rfl, Nat.le_of_ble_eq_true rfl⟩ rfl hl.1 (Nat.le_of_ble_eq_true rfl) dX4_aboutEntry_2 ⟨Nat.zero_le _, Nat.zero_le _⟩ rfl ?_
  refine j_bne (tgt := 10) hx hb dX4_aboutEntry_5 (by decide) (fun c1 => ?_) (fun c1 => ?_)
  · refine lv_iload_n hx hb dX4_aboutEntry_10 rfl (lv_at hl 2 rfl) ?_
    by_cases c2 : q = 0
    · refine j_tin (k := 0) (off := 41) (tgt := 52) hx hb c2 (by decide) dX4_aboutEntry_11 (by decide) (by decide) (by decide) (by decide) ?_
      refine lv_aload_n hx hb dX4_aboutEntry_52 rfl (lv_at hl 0 rfl) ?_
      refine Vg10 hx hb hts hin hown hK hP (by decide +kernel) dX4_aboutEntry_53 ?_
      refine lv_iload_n hx hb dX4_aboutEntry_56 rfl (lv_at hl 1 rfl) ?_
      refine Va2 hx hb hK hP (by omega) dX4_aboutEntry_57 ?_
      have r2_22 : bd (s (42 + 3 * y.toNat)) := hbs _
      exact p_iret hx hb hr hlocks (by (repeat' split) <;> first | omega | rfl | (exfalso; omega)) dX4_aboutEntry_58
    by_cases c3 : q = 1
    · refine j_tin (k := 1) (off := 48) (tgt := 59) hx hb c3 (by decide) dX4_aboutEntry_11 (by decide) (by decide) (by decide) (by decide) ?_
      refine lv_aload_n hx hb dX4_aboutEntry_59 rfl (lv_at hl 0 rfl) ?_
      refine Vg11 hx hb hts hin hown hK hP (by decide +kernel) dX4_aboutEntry_60 ?_
      refine lv_iload_n hx hb dX4_aboutEntry_63 rfl (lv_at hl 1 rfl) ?_
      refine Va3 hx hb hK hP (by omega) dX4_aboutEntry_64 ?_
      have r3_30 : bd (s (43 + 3 * y.toNat)) := hbs _
      exact p_iret hx hb hr hlocks (by (repeat' split) <;> first | omega | rfl | (exfalso; omega)) dX4_aboutEntry_65
    by_cases c4 : q = 2
    · refine j_tin (k := 2) (off := 55) (tgt := 66) hx hb c4 (by decide) dX4_aboutEntry_11 (by decide) (by decide) (by decide) (by decide) ?_
      refine lv_iload_n hx hb dX4_aboutEntry_66 rfl (lv_at hl 1 rfl) ?_
      refine lv_aload_n hx hb dX4_aboutEntry_67 rfl (lv_at hl 0 rfl) ?_
      refine Vg9 hx hb hts hin hown hK hP (by decide +kernel) dX4_aboutEntry_68 ?_
      refine j_ige (tgt := 78) hx hb (by omega) (by omega) dX4_aboutEntry_71 (by decide) (fun c5 => ?_) (fun c5 => ?_)
      · refine j_c hx hb dX4_aboutEntry_78 ?_
        exact p_iret hx hb hr hlocks (by (repeat' split) <;> first | omega | rfl | (exfalso; omega)) dX4_aboutEntry_79
      · refine j_c hx hb dX4_aboutEntry_74 ?_
        refine lv_goto (tgt := 79) hx hb dX4_aboutEntry_75 (by decide) ?_
        exact p_iret hx hb hr hlocks (by (repeat' split) <;> first | omega | rfl | (exfalso; omega)) dX4_aboutEntry_79
    by_cases c6 : q = 3
    · refine j_tin (k := 3) (off := 69) (tgt := 80) hx hb c6 (by decide) dX4_aboutEntry_11 (by decide) (by decide) (by decide) (by decide) ?_
      refine lv_aload_n hx hb dX4_aboutEntry_80 rfl (lv_at hl 0 rfl) ?_
      refine lv_iload_n hx hb dX4_aboutEntry_81 rfl (lv_at hl 1 rfl) ?_
      refine p_callV (v := .int (iI (sm (fun i => b2i ((0 ≤ ((i : Int)) ∧ ((i : Int)) < s 0) ∧ (y) < s (20 + ((i : Int)).toNat))) (s 0).toNat))) (ci := 4) (n := 1) (As := [.int (iI (y))]) (rest := []) ⟨hx, hb, hml, hown, hts⟩ hK (kX4_copies l D cI cV a s nz nw y hV (by omega)) hP rfl rfl gX4_aboutEntry_X4_copies rfl (by decide +kernel) ⟨Nat.le_of_ble_eq_true rfl, Nat.le_of_ble_eq_true rfl⟩ rfl hl.1 (Nat.le_of_ble_eq_true rfl) dX4_aboutEntry_82 ⟨Nat.zero_le _, Nat.zero_le _⟩ rfl ?_
      have f48 := sm_rg (f := (fun i => b2i ((0 ≤ ((i : Int)) ∧ ((i : Int)) < s 0) ∧ (y) < s (20 + ((i : Int)).toNat)))) (fun k => b2i_rg) ((s 0).toNat)
      exact p_iret hx hb hr hlocks (by (repeat' split) <;> first | omega | rfl | (exfalso; omega)) dX4_aboutEntry_85
    by_cases c7 : q = 4
    · refine j_tin (k := 4) (off := 75) (tgt := 86) hx hb c7 (by decide) dX4_aboutEntry_11 (by decide) (by decide) (by decide) (by decide) ?_
      refine lv_aload_n hx hb dX4_aboutEntry_86 rfl (lv_at hl 0 rfl) ?_
      refine Vg12 hx hb hts hin hown hK hP (by decide +kernel) dX4_aboutEntry_87 ?_
      refine lv_iload_n hx hb dX4_aboutEntry_90 rfl (lv_at hl 1 rfl) ?_
      refine Va4 hx hb hK hP (by omega) dX4_aboutEntry_91 ?_
      have r7_56 : bd (s (44 + 3 * y.toNat)) := hbs _
      exact p_iret hx hb hr hlocks (by (repeat' split) <;> first | omega | rfl | (exfalso; omega)) dX4_aboutEntry_92
    by_cases c8 : q = 5
    · refine j_tin (k := 5) (off := 82) (tgt := 93) hx hb c8 (by decide) dX4_aboutEntry_11 (by decide) (by decide) (by decide) (by decide) ?_
      refine lv_aload_n hx hb dX4_aboutEntry_93 rfl (lv_at hl 0 rfl) ?_
      refine lv_aload_n hx hb dX4_aboutEntry_94 rfl (lv_at hl 0 rfl) ?_
      refine Vg3 hx hb hts hin hown hK hP (by decide +kernel) dX4_aboutEntry_95 ?_
      refine lv_iload_n hx hb dX4_aboutEntry_98 rfl (lv_at hl 1 rfl) ?_
      refine j_c hx hb dX4_aboutEntry_99 ?_
      refine p_callV (v := .int (iI (sm (fun i => b2i (((0 ≤ (s (32 + i)) ∧ (s (32 + i)) < s 0) ∧ (y) < s (20 + (s (32 + i)).toNat)) ∨ (((0) : Int) ≠ 0 ∧ ((0 ≤ (s (32 + i)) ∧ (s (32 + i)) < s 0) ∧ s (8 + (s (32 + i)).toNat) = 1)))) (s 1).toNat))) (ci := 4) (n := 3) (As := [.ref (a 6), .int (iI (y)), .int (iI (0))]) (rest := []) ⟨hx, hb, hml, hown, hts⟩ hK (kX4_holders_old l D cI cV a s nz nw y 0 hV (by omega) (by first | decide | exact b2i_or | omega)) hP rfl rfl gX4_aboutEntry_X4_holders rfl (by decide +kernel) ⟨Nat.le_of_ble_eq_true rfl, Nat.le_of_ble_eq_true rfl⟩ rfl hl.1 (Nat.le_of_ble_eq_true rfl) dX4_aboutEntry_100 ⟨Nat.zero_le _, Nat.zero_le _⟩ rfl ?_
      have f66 := sm_rg (f := (fun i => b2i (((0 ≤ (s (32 + i)) ∧ (s (32 + i)) < s 0) ∧ (y) < s (20 + (s (32 + i)).toNat)) ∨ (((0) : Int) ≠ 0 ∧ ((0 ≤ (s (32 + i)) ∧ (s (32 + i)) < s 0) ∧ s (8 + (s (32 + i)).toNat) = 1))))) (fun k => b2i_rg) ((s 1).toNat)
      exact p_iret hx hb hr hlocks (by (repeat' split) <;> first | omega | rfl | (exfalso; omega)) dX4_aboutEntry_103
    by_cases c9 : q = 6
    · refine j_tin (k := 6) (off := 93) (tgt := 104) hx hb c9 (by decide) dX4_aboutEntry_11 (by decide) (by decide) (by decide) (by decide) ?_
      refine lv_aload_n hx hb dX4_aboutEntry_104 rfl (lv_at hl 0 rfl) ?_
      refine lv_aload_n hx hb dX4_aboutEntry_105 rfl (lv_at hl 0 rfl) ?_
      refine Vg4 hx hb hts hin hown hK hP (by decide +kernel) dX4_aboutEntry_106 ?_
      refine lv_iload_n hx hb dX4_aboutEntry_109 rfl (lv_at hl 1 rfl) ?_
      refine j_c hx hb dX4_aboutEntry_110 ?_
      refine p_callV (v := .int (iI (sm (fun i => b2i (((0 ≤ (nw i) ∧ (nw i) < s 0) ∧ (y) < s (20 + (nw i).toNat)) ∨ (((0) : Int) ≠ 0 ∧ ((0 ≤ (nw i) ∧ (nw i) < s 0) ∧ s (8 + (nw i).toNat) = 1)))) nz.toNat))) (ci := 4) (n := 3) (As := [.ref (a 8), .int (iI (y)), .int (iI (0))]) (rest := []) ⟨hx, hb, hml, hown, hts⟩ hK (kX4_holders_new l D cI cV a s nz nw y 0 hV (by omega) (by first | decide | exact b2i_or | omega)) hP rfl rfl gX4_aboutEntry_X4_holders rfl (by decide +kernel) ⟨Nat.le_of_ble_eq_true rfl, Nat.le_of_ble_eq_true rfl⟩ rfl hl.1 (Nat.le_of_ble_eq_true rfl) dX4_aboutEntry_111 ⟨Nat.zero_le _, Nat.zero_le _⟩ rfl ?_
      have f76 := sm_rg (f := (fun i => b2i (((0 ≤ (nw i) ∧ (nw i) < s 0) ∧ (y) < s (20 + (nw i).toNat)) ∨ (((0) : Int) ≠ 0 ∧ ((0 ≤ (nw i) ∧ (nw i) < s 0) ∧ s (8 + (nw i).toNat) = 1))))) (fun k => b2i_rg) (nz.toNat)
      exact p_iret hx hb hr hlocks (by (repeat' split) <;> first | omega | rfl | (exfalso; omega)) dX4_aboutEntry_114
    refine j_tout (tgt := 115) hx hb (by omega) dX4_aboutEntry_11 (by omega) (by decide) ?_
    refine j_c hx hb dX4_aboutEntry_115 ?_
    exact p_iret hx hb hr hlocks (by (repeat' split) <;> first | omega | rfl | (exfalso; omega)) dX4_aboutEntry_116
  · refine j_c hx hb dX4_aboutEntry_8 ?_
    exact p_iret hx hb hr hlocks (by (repeat' split) <;> first | omega | rfl | (exfalso; omega)) dX4_aboutEntry_9
set_option maxHeartbeats 4000000 in
set_option maxRecDepth 100000 in
theorem kX4_aboutDraw (l : Launch) (D : va_G) (cI cV : ClassId) (a : Nat → Nat) (s : Nat → Int) (nz : Int) (nw : Nat → Int) (x : Int) (q : Int) (hV : VI s nz nw) (r_x : rg x) (r_q : rg q) : PM l yX4_aboutDraw wsX4_aboutDraw 2 43 [.ref (a 0), .int (iI (x)), .int (iI (q))] (vilw cI a s nz nw) D cI cV (some (.int (iI (if 0 ≤ x ∧ x < s 7 then (if q = 0 then s (222 + 5 * x.toNat) else if q = 1 then s (223 + 5 * x.toNat) else if q = 2 then s (224 + 5 * x.toNat) else if q = 3 then b2i ((0 ≤ x ∧ x < s 7) ∧ s (224 + 5 * x.toNat) ≠ s (225 + 5 * x.toNat)) else if q = 4 then s (226 + 5 * x.toNat) else -1) else -1)))) := by
  refine PM.of (cc := cX4_aboutDraw) (maxL := 3) (ret := (some .int)) (by decide) rfl (Nat.le_of_ble_eq_true rfl) ?_
  intro p e s0 m below meth c ls hx hb hr hts hown hlocks hml hP hK hl
  have hown : s0.vm.findClass RX4 = some m.cls := hown
  have hin : ∀ w ∈ u_ws RX4 TX4 13, w ∈ wsX4_aboutDraw := by decide +kernel
  have hl : lv_has ls 3 [(0, .ref (a 0)), (1, .int (iI (x))), (2, .int (iI (q)))] := hl
  obtain ⟨hbs, hbn, h00, h01, h10, h11, hz0, hz1, h30, h31, h40, h41, h70, h71, h60, h61⟩ := id hV
  have hb5 := hbs 5
  have hb2 := hbs 2
  refine lv_aload_n hx hb dX4_aboutDraw_0 rfl (lv_at hl 0 rfl) ?_
  refine Vg7 hx hb hts hin hown hK hP (by decide +kernel) dX4_aboutDraw_1 ?_
  refine lv_iload_n hx hb dX4_aboutDraw_4 rfl (lv_at hl 1 rfl) ?_
  refine lv_iload_n hx hb dX4_aboutDraw_5 rfl (lv_at hl 2 rfl) ?_
  refine p_callV (v := .int (iI (if 0 ≤ x ∧ x < s 7 then (if q = 0 then s (222 + 5 * x.toNat) else if q = 1 then s (223 + 5 * x.toNat) else if q = 2 then s (224 + 5 * x.toNat) else if q = 3 then b2i ((0 ≤ x ∧ x < s 7) ∧ s (224 + 5 * x.toNat) ≠ s (225 + 5 * x.toNat)) else if q = 4 then s (226 + 5 * x.toNat) else -1) else -1))) (ci := 2) (n := 2) (As := [.int (iI (x)), .int (iI (q))]) (rest := []) ⟨hx, hb, hml, hown, hts⟩ hK (kX2_about l D cI cV a s x q (by omega) (by omega) hbs (by omega)) (vil_lot hP) rfl rfl gX4_aboutDraw_X2_about rfl (by decide +kernel) ⟨Nat.le_of_ble_eq_true rfl, Nat.le_of_ble_eq_true rfl⟩ rfl hl.1 (Nat.le_of_ble_eq_true rfl) dX4_aboutDraw_6 ⟨Nat.zero_le _, Nat.zero_le _⟩ rfl ?_
  exact p_iret hx hb hr hlocks (by first | rfl | omega | exact (b2i_t (by omega)).symm | exact (b2i_f (by omega)).symm | (simp only [b2i]; (repeat' split) <;> first | rfl | omega | (exfalso; omega))) dX4_aboutDraw_9
set_option maxHeartbeats 4000000 in
set_option maxRecDepth 100000 in
theorem kX4_tally (l : Launch) (D : va_G) (cI cV : ClassId) (a : Nat → Nat) (s : Nat → Int) (nz : Int) (nw : Nat → Int) (x : Int) (hV : VI s nz nw) (r_x : rg x) : PM l yX4_tally wsX4_tally 2 43 [.ref (a 0), .int (iI (x))] (vilw cI a s nz nw) D cI cV (some (.int (iI (if x = 0 then (s 0) else (if x = 1 then (sm (fun i => s (8 + i)) (s 0).toNat) else (if x = 2 then (s 1) else (if x = 3 then (s 2) else (if x = 4 then (s 3) else (if x = 5 then (s 4) else (if x = 6 then (if s 5 ≠ -9 then 1 else 0) else (if x = 7 then (s 6) else (if x = 8 then (s 7) else (if x = 9 then (sm (fun i => b2i ((0 ≤ (i : Int) ∧ (i : Int) < s 7) ∧ s (224 + 5 * (i : Int).toNat) ≠ s (225 + 5 * (i : Int).toNat))) (s 7).toNat) else (-1)))))))))))))) := by
  refine PM.of (cc := cX4_tally) (maxL := 2) (ret := (some .int)) (by decide) rfl (Nat.le_of_ble_eq_true rfl) ?_
  intro p e s0 m below meth c ls hx hb hr hts hown hlocks hml hP hK hl
  have hown : s0.vm.findClass RX4 = some m.cls := hown
  have hin : ∀ w ∈ u_ws RX4 TX4 13, w ∈ wsX4_tally := by decide +kernel
  have hl : lv_has ls 2 [(0, .ref (a 0)), (1, .int (iI (x)))] := hl
  obtain ⟨hbs, hbn, h00, h01, h10, h11, hz0, hz1, h30, h31, h40, h41, h70, h71, h60, h61⟩ := id hV
  have hb5 := hbs 5
  have hb2 := hbs 2
  refine lv_iload_n hx hb dX4_tally_0 rfl (lv_at hl 1 rfl) ?_
  by_cases c1 : x = 0
  · refine j_tin (k := 0) (off := 55) (tgt := 56) hx hb c1 (by decide) dX4_tally_1 (by decide) (by decide) (by decide) (by decide) ?_
    refine lv_aload_n hx hb dX4_tally_56 rfl (lv_at hl 0 rfl) ?_
    refine Vg0 hx hb hts hin hown hK hP (by decide +kernel) dX4_tally_57 ?_
    exact p_iret hx hb hr hlocks (by (repeat' split) <;> first | omega | rfl | (exfalso; omega)) dX4_tally_60
  by_cases c2 : x = 1
  · refine j_tin (k := 1) (off := 60) (tgt := 61) hx hb c2 (by decide) dX4_tally_1 (by decide) (by decide) (by decide) (by decide) ?_
    refine lv_aload_n hx hb dX4_tally_61 rfl (lv_at hl 0 rfl) ?_
    refine p_callV (v := .int (iI (sm (fun i => s (8 + i)) (s 0).toNat))) (ci := 4) (n := 0) (As := []) (rest := []) ⟨hx, hb, hml, hown, hts⟩ hK (kX4_presentVillagers l D cI cV a s nz nw hV) hP rfl rfl gX4_tally_X4_presentVillagers rfl (by decide +kernel) ⟨Nat.le_of_ble_eq_true rfl, Nat.le_of_ble_eq_true rfl⟩ rfl hl.1 (Nat.le_of_ble_eq_true rfl) dX4_tally_62 ⟨Nat.zero_le _, Nat.zero_le _⟩ rfl ?_
    exact p_iret hx hb hr hlocks (by (repeat' split) <;> first | omega | rfl | (exfalso; omega)) dX4_tally_65
  by_cases c3 : x = 2
  · refine j_tin (k := 2) (off := 65) (tgt := 66) hx hb c3 (by decide) dX4_tally_1 (by decide) (by decide) (by decide) (by decide) ?_
    refine lv_aload_n hx hb dX4_tally_66 rfl (lv_at hl 0 rfl) ?_
    refine Vg3 hx hb hts hin hown hK hP (by decide +kernel) dX4_tally_67 ?_
    refine p_callV (v := .int (iI ((s 1)))) (ci := 0) (n := 0) (As := []) (rest := []) ⟨hx, hb, hml, hown, hts⟩ hK (kX0_size l D cI cV (a 6) (a 7) (s 1) (fun i => s (32 + i))) (vil_old hP) rfl rfl gX4_tally_X0_size rfl (by decide +kernel) ⟨Nat.le_of_ble_eq_true rfl, Nat.le_of_ble_eq_true rfl⟩ rfl hl.1 (Nat.le_of_ble_eq_true rfl) dX4_tally_70 ⟨Nat.zero_le _, Nat.zero_le _⟩ rfl ?_
    exact p_iret hx hb hr hlocks (by (repeat' split) <;> first | omega | rfl | (exfalso; omega)) dX4_tally_73
  by_cases c4 : x = 3
  · refine j_tin (k := 3) (off := 73) (tgt := 74) hx hb c4 (by decide) dX4_tally_1 (by decide) (by decide) (by decide) (by decide) ?_
    refine lv_aload_n hx hb dX4_tally_74 rfl (lv_at hl 0 rfl) ?_
    refine Vg5 hx hb hts hin hown hK hP (by decide +kernel) dX4_tally_75 ?_
    exact p_iret hx hb hr hlocks (by (repeat' split) <;> first | omega | rfl | (exfalso; omega)) dX4_tally_78
  by_cases c5 : x = 4
  · refine j_tin (k := 4) (off := 78) (tgt := 79) hx hb c5 (by decide) dX4_tally_1 (by decide) (by decide) (by decide) (by decide) ?_
    refine lv_aload_n hx hb dX4_tally_79 rfl (lv_at hl 0 rfl) ?_
    refine Vg8 hx hb hts hin hown hK hP (by decide +kernel) dX4_tally_80 ?_
    exact p_iret hx hb hr hlocks (by (repeat' split) <;> first | omega | rfl | (exfalso; omega)) dX4_tally_83
  by_cases c6 : x = 5
  · refine j_tin (k := 5) (off := 83) (tgt := 84) hx hb c6 (by decide) dX4_tally_1 (by decide) (by decide) (by decide) (by decide) ?_
    refine lv_aload_n hx hb dX4_tally_84 rfl (lv_at hl 0 rfl) ?_
    refine Vg9 hx hb hts hin hown hK hP (by decide +kernel) dX4_tally_85 ?_
    exact p_iret hx hb hr hlocks (by (repeat' split) <;> first | omega | rfl | (exfalso; omega)) dX4_tally_88
  by_cases c7 : x = 6
  · refine j_tin (k := 6) (off := 88) (tgt := 89) hx hb c7 (by decide) dX4_tally_1 (by decide) (by decide) (by decide) (by decide) ?_
    refine lv_aload_n hx hb dX4_tally_89 rfl (lv_at hl 0 rfl) ?_
    refine p_callV (v := .int (iI (b2i (s 5 ≠ -9)))) (ci := 4) (n := 0) (As := []) (rest := []) ⟨hx, hb, hml, hown, hts⟩ hK (kX4_isChanging l D cI cV a s nz nw hV) hP rfl rfl gX4_tally_X4_isChanging rfl (by decide +kernel) ⟨Nat.le_of_ble_eq_true rfl, Nat.le_of_ble_eq_true rfl⟩ rfl hl.1 (Nat.le_of_ble_eq_true rfl) dX4_tally_90 ⟨Nat.zero_le _, Nat.zero_le _⟩ rfl ?_
    refine j_beq (tgt := 100) hx hb dX4_tally_93 (by decide) (fun c8 => ?_) (fun c8 => ?_)
    · refine j_c hx hb dX4_tally_100 ?_
      exact p_iret hx hb hr hlocks (by (repeat' split) <;> first | omega | rfl | (exfalso; omega)) dX4_tally_101
    · refine j_c hx hb dX4_tally_96 ?_
      refine lv_goto (tgt := 101) hx hb dX4_tally_97 (by decide) ?_
      exact p_iret hx hb hr hlocks (by (repeat' split) <;> first | omega | rfl | (exfalso; omega)) dX4_tally_101
  by_cases c9 : x = 7
  · refine j_tin (k := 7) (off := 101) (tgt := 102) hx hb c9 (by decide) dX4_tally_1 (by decide) (by decide) (by decide) (by decide) ?_
    refine lv_aload_n hx hb dX4_tally_102 rfl (lv_at hl 0 rfl) ?_
    refine Vg7 hx hb hts hin hown hK hP (by decide +kernel) dX4_tally_103 ?_
    refine p_callV (v := .int (iI (s 6))) (ci := 2) (n := 0) (As := []) (rest := []) ⟨hx, hb, hml, hown, hts⟩ hK (kX2_state l D cI cV a s) (vil_lot hP) rfl rfl gX4_tally_X2_state rfl (by decide +kernel) ⟨Nat.le_of_ble_eq_true rfl, Nat.le_of_ble_eq_true rfl⟩ rfl hl.1 (Nat.le_of_ble_eq_true rfl) dX4_tally_106 ⟨Nat.zero_le _, Nat.zero_le _⟩ rfl ?_
    exact p_iret hx hb hr hlocks (by (repeat' split) <;> first | omega | rfl | (exfalso; omega)) dX4_tally_109
  by_cases c10 : x = 8
  · refine j_tin (k := 8) (off := 109) (tgt := 110) hx hb c10 (by decide) dX4_tally_1 (by decide) (by decide) (by decide) (by decide) ?_
    refine lv_aload_n hx hb dX4_tally_110 rfl (lv_at hl 0 rfl) ?_
    refine Vg7 hx hb hts hin hown hK hP (by decide +kernel) dX4_tally_111 ?_
    refine p_callV (v := .int (iI (s 7))) (ci := 2) (n := 0) (As := []) (rest := []) ⟨hx, hb, hml, hown, hts⟩ hK (kX2_draws l D cI cV a s) (vil_lot hP) rfl rfl gX4_tally_X2_draws rfl (by decide +kernel) ⟨Nat.le_of_ble_eq_true rfl, Nat.le_of_ble_eq_true rfl⟩ rfl hl.1 (Nat.le_of_ble_eq_true rfl) dX4_tally_114 ⟨Nat.zero_le _, Nat.zero_le _⟩ rfl ?_
    exact p_iret hx hb hr hlocks (by (repeat' split) <;> first | omega | rfl | (exfalso; omega)) dX4_tally_117
  by_cases c11 : x = 9
  · refine j_tin (k := 9) (off := 117) (tgt := 118) hx hb c11 (by decide) dX4_tally_1 (by decide) (by decide) (by decide) (by decide) ?_
    refine lv_aload_n hx hb dX4_tally_118 rfl (lv_at hl 0 rfl) ?_
    refine Vg7 hx hb hts hin hown hK hP (by decide +kernel) dX4_tally_119 ?_
    refine p_callV (v := .int (iI (sm (fun i => b2i ((0 ≤ (i : Int) ∧ (i : Int) < s 7) ∧ s (224 + 5 * (i : Int).toNat) ≠ s (225 + 5 * (i : Int).toNat))) (s 7).toNat))) (ci := 2) (n := 0) (As := []) (rest := []) ⟨hx, hb, hml, hown, hts⟩ hK (kX2_forgedDraws l D cI cV a s hbs (by omega)) (vil_lot hP) rfl rfl gX4_tally_X2_forgedDraws rfl (by decide +kernel) ⟨Nat.le_of_ble_eq_true rfl, Nat.le_of_ble_eq_true rfl⟩ rfl hl.1 (Nat.le_of_ble_eq_true rfl) dX4_tally_122 ⟨Nat.zero_le _, Nat.zero_le _⟩ rfl ?_
    have f70 := sm_rg (f := (fun i => b2i ((0 ≤ (i : Int) ∧ (i : Int) < s 7) ∧ s (224 + 5 * (i : Int).toNat) ≠ s (225 + 5 * (i : Int).toNat)))) (fun k => b2i_rg) ((s 7).toNat)
    exact p_iret hx hb hr hlocks (by (repeat' split) <;> first | omega | rfl | (exfalso; omega)) dX4_tally_125
  refine j_tout (tgt := 126) hx hb (by omega) dX4_tally_1 (by omega) (by decide) ?_
  refine j_c hx hb dX4_tally_126 ?_
  exact p_iret hx hb hr hlocks (by (repeat' split) <;> first | omega | rfl | (exfalso; omega)) dX4_tally_127
