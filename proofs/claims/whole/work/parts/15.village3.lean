def runL (f : Nat → Int) (i : Nat) : Nat → Nat
  | 0 => i
  | n + 1 => if f i = 1 then runL f (i + 1) n else i
set_option maxHeartbeats 4000000 in
set_option maxRecDepth 100000 in
theorem kX4_elderOf (l : Launch) (D : va_G) (cI cV : ClassId) (a : Nat → Nat) (s : Nat → Int) (nz : Int) (nw : Nat → Int) (x : Int) (y : Int) (hV : VI s nz nw) (r_x : rg x) (r_y : rg y) (h_nz : nz = s 1) : PM l yX4_elderOf wsX4_elderOf 2 42 [.ref (a 0), .int (iI (x)), .int (iI (y))] (vilw cI a s nz nw) D cI cV (some (.int (iI (if (0 ≤ x ∧ x ≤ 1) ∧ (0 ≤ y ∧ y < s 1) then (if x = 0 then s (32 + y.toNat) else if s 5 ≠ -9 then nw y.toNat else -9) else -1)))) := by
  refine PM.of (cc := cX4_elderOf) (maxL := 3) (ret := (some .int)) (by decide) rfl (Nat.le_of_ble_eq_true rfl) ?_
  intro p e s0 m below meth c ls hx hb hr hts hown hlocks hml hP hK hl
  have hown : s0.vm.findClass RX4 = some m.cls := hown
  have hin : ∀ w ∈ u_ws RX4 TX4 13, w ∈ wsX4_elderOf := by decide +kernel
  have hl : lv_has ls 3 [(0, .ref (a 0)), (1, .int (iI (x))), (2, .int (iI (y)))] := hl
  obtain ⟨hbs, hbn, h00, h01, h10, h11, hz0, hz1, h30, h31, h40, h41, h70, h71, h60, h61⟩ := id hV
  have hb5 := hbs 5
  have hb2 := hbs 2
  refine lv_iload_n hx hb dX4_elderOf_0 rfl (lv_at hl 1 rfl) ?_
  refine j_zlt (tgt := 20) hx hb (by omega) dX4_elderOf_1 (by decide) (fun c1 => ?_) (fun c1 => ?_)
  · refine j_c hx hb dX4_elderOf_20 ?_
    exact p_iret hx hb hr hlocks (by (repeat' split) <;> first | omega | rfl | (exfalso; omega)) dX4_elderOf_21
  · refine lv_iload_n hx hb dX4_elderOf_4 rfl (lv_at hl 1 rfl) ?_
    refine j_c hx hb dX4_elderOf_5 ?_
    refine j_igt (tgt := 20) hx hb (by omega) (by omega) dX4_elderOf_6 (by decide) (fun c2 => ?_) (fun c2 => ?_)
    · refine j_c hx hb dX4_elderOf_20 ?_
      exact p_iret hx hb hr hlocks (by (repeat' split) <;> first | omega | rfl | (exfalso; omega)) dX4_elderOf_21
    · refine lv_aload_n hx hb dX4_elderOf_9 rfl (lv_at hl 0 rfl) ?_
      refine Vg3 hx hb hts hin hown hK hP (by decide +kernel) dX4_elderOf_10 ?_
      refine lv_iload_n hx hb dX4_elderOf_13 rfl (lv_at hl 2 rfl) ?_
      refine p_callV (v := .int (iI (b2i (0 ≤ y ∧ y < (s 1))))) (ci := 0) (n := 1) (As := [.int (iI (y))]) (rest := []) ⟨hx, hb, hml, hown, hts⟩ hK (kX0_hasSeat l D cI cV (a 6) (a 7) (s 1) (fun i => s (32 + i)) y (by omega) (by omega)) (vil_old hP) rfl rfl gX4_elderOf_X0_hasSeat rfl (by decide +kernel) ⟨Nat.le_of_ble_eq_true rfl, Nat.le_of_ble_eq_true rfl⟩ rfl hl.1 (Nat.le_of_ble_eq_true rfl) dX4_elderOf_14 ⟨Nat.zero_le _, Nat.zero_le _⟩ rfl ?_
      refine j_bne (tgt := 22) hx hb dX4_elderOf_17 (by decide) (fun c3 => ?_) (fun c3 => ?_)
      · refine lv_iload_n hx hb dX4_elderOf_22 rfl (lv_at hl 1 rfl) ?_
        refine j_zne (tgt := 35) hx hb (by omega) dX4_elderOf_23 (by decide) (fun c4 => ?_) (fun c4 => ?_)
        · refine lv_aload_n hx hb dX4_elderOf_35 rfl (lv_at hl 0 rfl) ?_
          refine p_callV (v := .int (iI (b2i (s 5 ≠ -9)))) (ci := 4) (n := 0) (As := []) (rest := []) ⟨hx, hb, hml, hown, hts⟩ hK (kX4_isChanging l D cI cV a s nz nw hV) hP rfl rfl gX4_elderOf_X4_isChanging rfl (by decide +kernel) ⟨Nat.le_of_ble_eq_true rfl, Nat.le_of_ble_eq_true rfl⟩ rfl hl.1 (Nat.le_of_ble_eq_true rfl) dX4_elderOf_36 ⟨Nat.zero_le _, Nat.zero_le _⟩ rfl ?_
          refine j_beq (tgt := 53) hx hb dX4_elderOf_39 (by decide) (fun c5 => ?_) (fun c5 => ?_)
          · refine j_bi hx hb dX4_elderOf_53 rfl ?_
            exact p_iret hx hb hr hlocks (by (repeat' split) <;> first | omega | rfl | (exfalso; omega)) dX4_elderOf_55
          · refine lv_aload_n hx hb dX4_elderOf_42 rfl (lv_at hl 0 rfl) ?_
            refine Vg4 hx hb hts hin hown hK hP (by decide +kernel) dX4_elderOf_43 ?_
            refine lv_iload_n hx hb dX4_elderOf_46 rfl (lv_at hl 2 rfl) ?_
            refine p_callV (v := .int (iI (nw y.toNat))) (ci := 0) (n := 1) (As := [.int (iI (y))]) (rest := []) ⟨hx, hb, hml, hown, hts⟩ hK (kX0_elderOn l D cI cV (a 8) (a 9) nz nw y (by omega) (by omega)) (vil_new hP) rfl rfl gX4_elderOf_X0_elderOn rfl (by decide +kernel) ⟨Nat.le_of_ble_eq_true rfl, Nat.le_of_ble_eq_true rfl⟩ rfl hl.1 (Nat.le_of_ble_eq_true rfl) dX4_elderOf_47 ⟨Nat.zero_le _, Nat.zero_le _⟩ rfl ?_
            have f36 : bd (nw y.toNat) := hbn _
            refine lv_goto (tgt := 55) hx hb dX4_elderOf_50 (by decide) ?_
            exact p_iret hx hb hr hlocks (by (repeat' split) <;> first | omega | rfl | (exfalso; omega)) dX4_elderOf_55
        · refine lv_aload_n hx hb dX4_elderOf_26 rfl (lv_at hl 0 rfl) ?_
          refine Vg3 hx hb hts hin hown hK hP (by decide +kernel) dX4_elderOf_27 ?_
          refine lv_iload_n hx hb dX4_elderOf_30 rfl (lv_at hl 2 rfl) ?_
          refine p_callV (v := .int (iI (s (32 + y.toNat)))) (ci := 0) (n := 1) (As := [.int (iI (y))]) (rest := []) ⟨hx, hb, hml, hown, hts⟩ hK (kX0_elderOn l D cI cV (a 6) (a 7) (s 1) (fun i => s (32 + i)) y (by omega) (by omega)) (vil_old hP) rfl rfl gX4_elderOf_X0_elderOn rfl (by decide +kernel) ⟨Nat.le_of_ble_eq_true rfl, Nat.le_of_ble_eq_true rfl⟩ rfl hl.1 (Nat.le_of_ble_eq_true rfl) dX4_elderOf_31 ⟨Nat.zero_le _, Nat.zero_le _⟩ rfl ?_
          have f43 : bd (s (32 + y.toNat)) := hbs _
          exact p_iret hx hb hr hlocks (by (repeat' split) <;> first | omega | rfl | (exfalso; omega)) dX4_elderOf_34
      · refine j_c hx hb dX4_elderOf_20 ?_
        exact p_iret hx hb hr hlocks (by (repeat' split) <;> first | omega | rfl | (exfalso; omega)) dX4_elderOf_21
set_option maxHeartbeats 4000000 in
set_option maxRecDepth 100000 in
theorem kX4_aboutVillager (l : Launch) (D : va_G) (cI cV : ClassId) (a : Nat → Nat) (s : Nat → Int) (nz : Int) (nw : Nat → Int) (x : Int) (q : Int) (hV : VI s nz nw) (r_x : rg x) (r_q : rg q) : PM l yX4_aboutVillager wsX4_aboutVillager 1 23 [.ref (a 0), .int (iI (x)), .int (iI (q))] (vilw cI a s nz nw) D cI cV (some (.int (iI (if 0 ≤ x ∧ x < s 0 then (if q = 0 then s (8 + x.toNat) else if q = 1 then s (20 + x.toNat) else if q = 2 then seatF (fun i => s (32 + i)) x (s 1).toNat else if q = 3 then seatF nw x nz.toNat else if q = 4 then sm (fun i => b2i (s (224 + 5 * i) = x)) (s 7).toNat else -1) else -1)))) := by
  refine PM.of (cc := cX4_aboutVillager) (maxL := 3) (ret := (some .int)) (by decide) rfl (Nat.le_of_ble_eq_true rfl) ?_
  intro p e s0 m below meth c ls hx hb hr hts hown hlocks hml hP hK hl
  have hown : s0.vm.findClass RX4 = some m.cls := hown
  have hin : ∀ w ∈ u_ws RX4 TX4 13, w ∈ wsX4_aboutVillager := by decide +kernel
  have hl : lv_has ls 3 [(0, .ref (a 0)), (1, .int (iI (x))), (2, .int (iI (q)))] := hl
  obtain ⟨hbs, hbn, h00, h01, h10, h11, hz0, hz1, h30, h31, h40, h41, h70, h71, h60, h61⟩ := id hV
  have hb5 := hbs 5
  have hb2 := hbs 2
  refine lv_aload_n hx hb dX4_aboutVillager_0 rfl (lv_at hl 0 rfl) ?_
  refine lv_iload_n hx hb dX4_aboutVillager_1 rfl (lv_at hl 1 rfl) ?_
  refine p_callV (v := .int (iI (b2i (0 ≤ (x) ∧ (x) < s 0)))) (ci := 4) (n := 1) (As := [.int (iI (x))]) (rest := []) ⟨hx, hb, hml, hown, hts⟩ hK (kX4_isVillager l D cI cV a s nz nw x hV (by omega)) hP rfl rfl gX4_aboutVillager_X4_isVillager rfl (by decide +kernel) ⟨Nat.le_of_ble_eq_true rfl, Nat.le_of_ble_eq_true rfl⟩ rfl hl.1 (Nat.le_of_ble_eq_true rfl) dX4_aboutVillager_2 ⟨Nat.zero_le _, Nat.zero_le _⟩ rfl ?_
  refine j_bne (tgt := 10) hx hb dX4_aboutVillager_5 (by decide) (fun c1 => ?_) (fun c1 => ?_)
  · refine lv_iload_n hx hb dX4_aboutVillager_10 rfl (lv_at hl 2 rfl) ?_
    by_cases c2 : q = 0
    · refine j_tin (k := 0) (off := 33) (tgt := 44) hx hb c2 (by decide) dX4_aboutVillager_11 (by decide) (by decide) (by decide) (by decide) ?_
      refine lv_aload_n hx hb dX4_aboutVillager_44 rfl (lv_at hl 0 rfl) ?_
      refine Vg1 hx hb hts hin hown hK hP (by decide +kernel) dX4_aboutVillager_45 ?_
      refine lv_iload_n hx hb dX4_aboutVillager_48 rfl (lv_at hl 1 rfl) ?_
      refine Va0 hx hb hK hP (by omega) dX4_aboutVillager_49 ?_
      have r2_22 : bd (s (8 + x.toNat)) := hbs _
      exact p_iret hx hb hr hlocks (by (repeat' split) <;> first | omega | rfl | (exfalso; omega)) dX4_aboutVillager_50
    by_cases c3 : q = 1
    · refine j_tin (k := 1) (off := 40) (tgt := 51) hx hb c3 (by decide) dX4_aboutVillager_11 (by decide) (by decide) (by decide) (by decide) ?_
      refine lv_aload_n hx hb dX4_aboutVillager_51 rfl (lv_at hl 0 rfl) ?_
      refine Vg2 hx hb hts hin hown hK hP (by decide +kernel) dX4_aboutVillager_52 ?_
      refine lv_iload_n hx hb dX4_aboutVillager_55 rfl (lv_at hl 1 rfl) ?_
      refine Va1 hx hb hK hP (by omega) dX4_aboutVillager_56 ?_
      have r3_30 : bd (s (20 + x.toNat)) := hbs _
      exact p_iret hx hb hr hlocks (by (repeat' split) <;> first | omega | rfl | (exfalso; omega)) dX4_aboutVillager_57
    by_cases c4 : q = 2
    · refine j_tin (k := 2) (off := 47) (tgt := 58) hx hb c4 (by decide) dX4_aboutVillager_11 (by decide) (by decide) (by decide) (by decide) ?_
      refine lv_aload_n hx hb dX4_aboutVillager_58 rfl (lv_at hl 0 rfl) ?_
      refine Vg3 hx hb hts hin hown hK hP (by decide +kernel) dX4_aboutVillager_59 ?_
      refine lv_iload_n hx hb dX4_aboutVillager_62 rfl (lv_at hl 1 rfl) ?_
      refine p_callV (v := .int (iI (seatF (fun i => s (32 + i)) x (s 1).toNat))) (ci := 0) (n := 1) (As := [.int (iI (x))]) (rest := []) ⟨hx, hb, hml, hown, hts⟩ hK (kX0_seatOf l D cI cV (a 6) (a 7) (s 1) (fun i => s (32 + i)) x (by omega) (by omega) (fun k => hbs _)) (vil_old hP) rfl rfl gX4_aboutVillager_X0_seatOf rfl (by decide +kernel) ⟨Nat.le_of_ble_eq_true rfl, Nat.le_of_ble_eq_true rfl⟩ rfl hl.1 (Nat.le_of_ble_eq_true rfl) dX4_aboutVillager_63 ⟨Nat.zero_le _, Nat.zero_le _⟩ rfl ?_
      exact p_iret hx hb hr hlocks (by (repeat' split) <;> first | omega | rfl | (exfalso; omega)) dX4_aboutVillager_66
    by_cases c5 : q = 3
    · refine j_tin (k := 3) (off := 56) (tgt := 67) hx hb c5 (by decide) dX4_aboutVillager_11 (by decide) (by decide) (by decide) (by decide) ?_
      refine lv_aload_n hx hb dX4_aboutVillager_67 rfl (lv_at hl 0 rfl) ?_
      refine Vg4 hx hb hts hin hown hK hP (by decide +kernel) dX4_aboutVillager_68 ?_
      refine lv_iload_n hx hb dX4_aboutVillager_71 rfl (lv_at hl 1 rfl) ?_
      refine p_callV (v := .int (iI (seatF nw x nz.toNat))) (ci := 0) (n := 1) (As := [.int (iI (x))]) (rest := []) ⟨hx, hb, hml, hown, hts⟩ hK (kX0_seatOf l D cI cV (a 8) (a 9) nz nw x (by omega) (by omega) (fun k => hbn _)) (vil_new hP) rfl rfl gX4_aboutVillager_X0_seatOf rfl (by decide +kernel) ⟨Nat.le_of_ble_eq_true rfl, Nat.le_of_ble_eq_true rfl⟩ rfl hl.1 (Nat.le_of_ble_eq_true rfl) dX4_aboutVillager_72 ⟨Nat.zero_le _, Nat.zero_le _⟩ rfl ?_
      exact p_iret hx hb hr hlocks (by (repeat' split) <;> first | omega | rfl | (exfalso; omega)) dX4_aboutVillager_75
    by_cases c6 : q = 4
    · refine j_tin (k := 4) (off := 65) (tgt := 76) hx hb c6 (by decide) dX4_aboutVillager_11 (by decide) (by decide) (by decide) (by decide) ?_
      refine lv_aload_n hx hb dX4_aboutVillager_76 rfl (lv_at hl 0 rfl) ?_
      refine Vg7 hx hb hts hin hown hK hP (by decide +kernel) dX4_aboutVillager_77 ?_
      refine lv_iload_n hx hb dX4_aboutVillager_80 rfl (lv_at hl 1 rfl) ?_
      refine p_callV (v := .int (iI (sm (fun i => b2i (s (224 + 5 * i) = x)) (s 7).toNat))) (ci := 2) (n := 1) (As := [.int (iI (x))]) (rest := []) ⟨hx, hb, hml, hown, hts⟩ hK (kX2_drawsOf l D cI cV a s x (by omega) hbs (by omega)) (vil_lot hP) rfl rfl gX4_aboutVillager_X2_drawsOf rfl (by decide +kernel) ⟨Nat.le_of_ble_eq_true rfl, Nat.le_of_ble_eq_true rfl⟩ rfl hl.1 (Nat.le_of_ble_eq_true rfl) dX4_aboutVillager_81 ⟨Nat.zero_le _, Nat.zero_le _⟩ rfl ?_
      have f52 := sm_rg (f := (fun i => b2i (s (224 + 5 * i) = x))) (fun k => b2i_rg) ((s 7).toNat)
      exact p_iret hx hb hr hlocks (by (repeat' split) <;> first | omega | rfl | (exfalso; omega)) dX4_aboutVillager_84
    refine j_tout (tgt := 85) hx hb (by omega) dX4_aboutVillager_11 (by omega) (by decide) ?_
    refine j_c hx hb dX4_aboutVillager_85 ?_
    exact p_iret hx hb hr hlocks (by (repeat' split) <;> first | omega | rfl | (exfalso; omega)) dX4_aboutVillager_86
  · refine j_c hx hb dX4_aboutVillager_8 ?_
    exact p_iret hx hb hr hlocks (by (repeat' split) <;> first | omega | rfl | (exfalso; omega)) dX4_aboutVillager_9
set_option maxHeartbeats 4000000 in
set_option maxRecDepth 100000 in
theorem kX4_aboutEntry (l : Launch) (D : va_G) (cI cV : ClassId) (a : Nat → Nat) (s : Nat → Int) (nz : Int) (nw : Nat → Int) (y : Int) (q : Int) (hV : VI s nz nw) (r_y : rg y) (r_q : rg q) : PM l yX4_aboutEntry wsX4_aboutEntry 3 69 [.ref (a 0), .int (iI (y)), .int (iI (q))] (vilw cI a s nz nw) D cI cV (some (.int (iI (if 0 ≤ y ∧ y < s 3 then (if q = 0 then s (42 + 3 * y.toNat) else if q = 1 then s (43 + 3 * y.toNat) else if q = 2 then (if y < s 4 then 1 else 0) else if q = 3 then sm (fun i => b2i ((0 ≤ ((i : Int)) ∧ ((i : Int)) < s 0) ∧ (y) < s (20 + ((i : Int)).toNat))) (s 0).toNat else if q = 4 then s (44 + 3 * y.toNat) else if q = 5 then sm (fun i => b2i (((0 ≤ (s (32 + i)) ∧ (s (32 + i)) < s 0) ∧ (y) < s (20 + (s (32 + i)).toNat)) ∨ (((0) : Int) ≠ 0 ∧ ((0 ≤ (s (32 + i)) ∧ (s (32 + i)) < s 0) ∧ s (8 + (s (32 + i)).toNat) = 1)))) (s 1).toNat else if q = 6 then sm (fun i => b2i (((0 ≤ (nw i) ∧ (nw i) < s 0) ∧ (y) < s (20 + (nw i).toNat)) ∨ (((0) : Int) ≠ 0 ∧ ((0 ≤ (nw i) ∧ (nw i) < s 0) ∧ s (8 + (nw i).toNat) = 1)))) nz.toNat else -1) else -1)))) := by
  refine PM.of (cc := cX4_aboutEntry) (maxL := 3) (ret := (some .int)) (by decide) rfl (Nat.le_of_ble_eq_true rfl) ?_
  intro p e s0 m below meth c ls hx hb hr hts hown hlocks hml hP hK hl
  have hown : s0.vm.findClass RX4 = some m.cls := hown
  have hin : ∀ w ∈ u_ws RX4 TX4 13, w ∈ wsX4_aboutEntry := by decide +kernel
  have hl : lv_has ls 3 [(0, .ref (a 0)), (1, .int (iI (y))), (2, .int (iI (q)))] := hl
  obtain ⟨hbs, hbn, h00, h01, h10, h11, hz0, hz1, h30, h31, h40, h41, h70, h71, h60, h61⟩ := id hV
  have hb5 := hbs 5
  have hb2 := hbs 2
  refine lv_aload_n hx hb dX4_aboutEntry_0 rfl (lv_at hl 0 rfl) ?_
  refine lv_iload_n hx hb dX4_aboutEntry_1 rfl (lv_at hl 1 rfl) ?_
  refine p_callV (v := .int (iI (b2i (0 ≤ y ∧ y < s 3)))) (ci := 4) (n := 1) (As := [.int (iI (y))]) (rest := []) ⟨hx, hb, hml, hown, hts⟩ hK (kX4_isEntry l D cI cV a s nz nw y hV (by omega)) hP rfl rfl gX4_aboutEntry_X4_isEntry rfl (by decide +kernel) ⟨Nat.le_of_ble_eq_true rfl, Nat.le_of_ble_eq_true rfl⟩ rfl hl.1 (Nat.le_of_ble_eq_true rfl) dX4_aboutEntry_2 ⟨Nat.zero_le _, Nat.zero_le _⟩ rfl ?_
  refine j_bne (tgt := 10) hx hb dX4_aboutEntry_5 (by decide) (fun c1 => ?_) (fun c1 => ?_)
  · refine lv_iload_n hx hb dX4_aboutEntry_10 rfl (lv_at hl 2 rfl) ?_
    by_cases c2 : q = 0
    · refine j_tin (k := 0) (off := 41) (tgt := 52) hx hb c2 (by decide) dX4_aboutEntry_11 (by decide) (by decide) (by decide) (by decide) ?_
      refine lv_aload_n hx hb dX4_aboutEntry_52 rfl (lv_at hl 0 rfl) ?_
      refine Vg10 hx hb hts hin hown hK hP (by decide +kernel) dX4_aboutEntry_53 ?_
      refine lv_iload_n hx hb dX4_aboutEntry_56 rfl (lv_at hl 1 rfl) ?_
      refine Va2 hx hb hK hP (by omega) dX4_aboutEntry_57 ?_
      have r2_22 : bd (s (42 + 3 * y.toNat)) := hbs _
      exact p_iret hx hb hr hlocks (by (repeat' split) <;> first | omega | rfl | (exfalso; omega)) dX4_aboutEntry_58
    by_cases c3 : q = 1
    · refine j_tin (k := 1) (off := 48) (tgt := 59) hx hb c3 (by decide) dX4_aboutEntry_11 (by decide) (by decide) (by decide) (by decide) ?_
      refine lv_aload_n hx hb dX4_aboutEntry_59 rfl (lv_at hl 0 rfl) ?_
      refine Vg11 hx hb hts hin hown hK hP (by decide +kernel) dX4_aboutEntry_60 ?_
      refine lv_iload_n hx hb dX4_aboutEntry_63 rfl (lv_at hl 1 rfl) ?_
      refine Va3 hx hb hK hP (by omega) dX4_aboutEntry_64 ?_
      have r3_30 : bd (s (43 + 3 * y.toNat)) := hbs _
      exact p_iret hx hb hr hlocks (by (repeat' split) <;> first | omega | rfl | (exfalso; omega)) dX4_aboutEntry_65
    by_cases c4 : q = 2
    · refine j_tin (k := 2) (off := 55) (tgt := 66) hx hb c4 (by decide) dX4_aboutEntry_11 (by decide) (by decide) (by decide) (by decide) ?_
      refine lv_iload_n hx hb dX4_aboutEntry_66 rfl (lv_at hl 1 rfl) ?_
      refine lv_aload_n hx hb dX4_aboutEntry_67 rfl (lv_at hl 0 rfl) ?_
      refine Vg9 hx hb hts hin hown hK hP (by decide +kernel) dX4_aboutEntry_68 ?_
      refine j_ige (tgt := 78) hx hb (by omega) (by omega) dX4_aboutEntry_71 (by decide) (fun c5 => ?_) (fun c5 => ?_)
      · refine j_c hx hb dX4_aboutEntry_78 ?_
        exact p_iret hx hb hr hlocks (by (repeat' split) <;> first | omega | rfl | (exfalso; omega)) dX4_aboutEntry_79
      · refine j_c hx hb dX4_aboutEntry_74 ?_
        refine lv_goto (tgt := 79) hx hb dX4_aboutEntry_75 (by decide) ?_
        exact p_iret hx hb hr hlocks (by (repeat' split) <;> first | omega | rfl | (exfalso; omega)) dX4_aboutEntry_79
    by_cases c6 : q = 3
    · refine j_tin (k := 3) (off := 69) (tgt := 80) hx hb c6 (by decide) dX4_aboutEntry_11 (by decide) (by decide) (by decide) (by decide) ?_
      refine lv_aload_n hx hb dX4_aboutEntry_80 rfl (lv_at hl 0 rfl) ?_
      refine lv_iload_n hx hb dX4_aboutEntry_81 rfl (lv_at hl 1 rfl) ?_
      refine p_callV (v := .int (iI (sm (fun i => b2i ((0 ≤ ((i : Int)) ∧ ((i : Int)) < s 0) ∧ (y) < s (20 + ((i : Int)).toNat))) (s 0).toNat))) (ci := 4) (n := 1) (As := [.int (iI (y))]) (rest := []) ⟨hx, hb, hml, hown, hts⟩ hK (kX4_copies l D cI cV a s nz nw y hV (by omega)) hP rfl rfl gX4_aboutEntry_X4_copies rfl (by decide +kernel) ⟨Nat.le_of_ble_eq_true rfl, Nat.le_of_ble_eq_true rfl⟩ rfl hl.1 (Nat.le_of_ble_eq_true rfl) dX4_aboutEntry_82 ⟨Nat.zero_le _, Nat.zero_le _⟩ rfl ?_
      have f48 := sm_rg (f := (fun i => b2i ((0 ≤ ((i : Int)) ∧ ((i : Int)) < s 0) ∧ (y) < s (20 + ((i : Int)).toNat)))) (fun k => b2i_rg) ((s 0).toNat)
      exact p_iret hx hb hr hlocks (by (repeat' split) <;> first | omega | rfl | (exfalso; omega)) dX4_aboutEntry_85
    by_cases c7 : q = 4
    · refine j_tin (k := 4) (off := 75) (tgt := 86) hx hb c7 (by decide) dX4_aboutEntry_11 (by decide) (by decide) (by decide) (by decide) ?_
      refine lv_aload_n hx hb dX4_aboutEntry_86 rfl (lv_at hl 0 rfl) ?_
      refine Vg12 hx hb hts hin hown hK hP (by decide +kernel) dX4_aboutEntry_87 ?_
      refine lv_iload_n hx hb dX4_aboutEntry_90 rfl (lv_at hl 1 rfl) ?_
      refine Va4 hx hb hK hP (by omega) dX4_aboutEntry_91 ?_
      have r7_56 : bd (s (44 + 3 * y.toNat)) := hbs _
      exact p_iret hx hb hr hlocks (by (repeat' split) <;> first | omega | rfl | (exfalso; omega)) dX4_aboutEntry_92
    by_cases c8 : q = 5
    · refine j_tin (k := 5) (off := 82) (tgt := 93) hx hb c8 (by decide) dX4_aboutEntry_11 (by decide) (by decide) (by decide) (by decide) ?_
      refine lv_aload_n hx hb dX4_aboutEntry_93 rfl (lv_at hl 0 rfl) ?_
      refine lv_aload_n hx hb dX4_aboutEntry_94 rfl (lv_at hl 0 rfl) ?_
      refine Vg3 hx hb hts hin hown hK hP (by decide +kernel) dX4_aboutEntry_95 ?_
      refine lv_iload_n hx hb dX4_aboutEntry_98 rfl (lv_at hl 1 rfl) ?_
      refine j_c hx hb dX4_aboutEntry_99 ?_
      refine p_callV (v := .int (iI (sm (fun i => b2i (((0 ≤ (s (32 + i)) ∧ (s (32 + i)) < s 0) ∧ (y) < s (20 + (s (32 + i)).toNat)) ∨ (((0) : Int) ≠ 0 ∧ ((0 ≤ (s (32 + i)) ∧ (s (32 + i)) < s 0) ∧ s (8 + (s (32 + i)).toNat) = 1)))) (s 1).toNat))) (ci := 4) (n := 3) (As := [.ref (a 6), .int (iI (y)), .int (iI (0))]) (rest := []) ⟨hx, hb, hml, hown, hts⟩ hK (kX4_holders_old l D cI cV a s nz nw y 0 hV (by omega) (by first | decide | exact b2i_or | omega)) hP rfl rfl gX4_aboutEntry_X4_holders rfl (by decide +kernel) ⟨Nat.le_of_ble_eq_true rfl, Nat.le_of_ble_eq_true rfl⟩ rfl hl.1 (Nat.le_of_ble_eq_true rfl) dX4_aboutEntry_100 ⟨Nat.zero_le _, Nat.zero_le _⟩ rfl ?_
      have f66 := sm_rg (f := (fun i => b2i (((0 ≤ (s (32 + i)) ∧ (s (32 + i)) < s 0) ∧ (y) < s (20 + (s (32 + i)).toNat)) ∨ (((0) : Int) ≠ 0 ∧ ((0 ≤ (s (32 + i)) ∧ (s (32 + i)) < s 0) ∧ s (8 + (s (32 + i)).toNat) = 1))))) (fun k => b2i_rg) ((s 1).toNat)
      exact p_iret hx hb hr hlocks (by (repeat' split) <;> first | omega | rfl | (exfalso; omega)) dX4_aboutEntry_103
    by_cases c9 : q = 6
    · refine j_tin (k := 6) (off := 93) (tgt := 104) hx hb c9 (by decide) dX4_aboutEntry_11 (by decide) (by decide) (by decide) (by decide) ?_
      refine lv_aload_n hx hb dX4_aboutEntry_104 rfl (lv_at hl 0 rfl) ?_
      refine lv_aload_n hx hb dX4_aboutEntry_105 rfl (lv_at hl 0 rfl) ?_
      refine Vg4 hx hb hts hin hown hK hP (by decide +kernel) dX4_aboutEntry_106 ?_
      refine lv_iload_n hx hb dX4_aboutEntry_109 rfl (lv_at hl 1 rfl) ?_
      refine j_c hx hb dX4_aboutEntry_110 ?_
      refine p_callV (v := .int (iI (sm (fun i => b2i (((0 ≤ (nw i) ∧ (nw i) < s 0) ∧ (y) < s (20 + (nw i).toNat)) ∨ (((0) : Int) ≠ 0 ∧ ((0 ≤ (nw i) ∧ (nw i) < s 0) ∧ s (8 + (nw i).toNat) = 1)))) nz.toNat))) (ci := 4) (n := 3) (As := [.ref (a 8), .int (iI (y)), .int (iI (0))]) (rest := []) ⟨hx, hb, hml, hown, hts⟩ hK (kX4_holders_new l D cI cV a s nz nw y 0 hV (by omega) (by first | decide | exact b2i_or | omega)) hP rfl rfl gX4_aboutEntry_X4_holders rfl (by decide +kernel) ⟨Nat.le_of_ble_eq_true rfl, Nat.le_of_ble_eq_true rfl⟩ rfl hl.1 (Nat.le_of_ble_eq_true rfl) dX4_aboutEntry_111 ⟨Nat.zero_le _, Nat.zero_le _⟩ rfl ?_
      have f76 := sm_rg (f := (fun i => b2i (((0 ≤ (nw i) ∧ (nw i) < s 0) ∧ (y) < s (20 + (nw i).toNat)) ∨ (((0) : Int) ≠ 0 ∧ ((0 ≤ (nw i) ∧ (nw i) < s 0) ∧ s (8 + (nw i).toNat) = 1))))) (fun k => b2i_rg) (nz.toNat)
      exact p_iret hx hb hr hlocks (by (repeat' split) <;> first | omega | rfl | (exfalso; omega)) dX4_aboutEntry_114
    refine j_tout (tgt := 115) hx hb (by omega) dX4_aboutEntry_11 (by omega) (by decide) ?_
    refine j_c hx hb dX4_aboutEntry_115 ?_
    exact p_iret hx hb hr hlocks (by (repeat' split) <;> first | omega | rfl | (exfalso; omega)) dX4_aboutEntry_116
  · refine j_c hx hb dX4_aboutEntry_8 ?_
    exact p_iret hx hb hr hlocks (by (repeat' split) <;> first | omega | rfl | (exfalso; omega)) dX4_aboutEntry_9
set_option maxHeartbeats 4000000 in
set_option maxRecDepth 100000 in
theorem kX4_aboutDraw (l : Launch) (D : va_G) (cI cV : ClassId) (a : Nat → Nat) (s : Nat → Int) (nz : Int) (nw : Nat → Int) (x : Int) (q : Int) (hV : VI s nz nw) (r_x : rg x) (r_q : rg q) : PM l yX4_aboutDraw wsX4_aboutDraw 2 43 [.ref (a 0), .int (iI (x)), .int (iI (q))] (vilw cI a s nz nw) D cI cV (some (.int (iI (if 0 ≤ x ∧ x < s 7 then (if q = 0 then s (222 + 5 * x.toNat) else if q = 1 then s (223 + 5 * x.toNat) else if q = 2 then s (224 + 5 * x.toNat) else if q = 3 then b2i ((0 ≤ x ∧ x < s 7) ∧ s (224 + 5 * x.toNat) ≠ s (225 + 5 * x.toNat)) else if q = 4 then s (226 + 5 * x.toNat) else -1) else -1)))) := by
  refine PM.of (cc := cX4_aboutDraw) (maxL := 3) (ret := (some .int)) (by decide) rfl (Nat.le_of_ble_eq_true rfl) ?_
  intro p e s0 m below meth c ls hx hb hr hts hown hlocks hml hP hK hl
  have hown : s0.vm.findClass RX4 = some m.cls := hown
  have hin : ∀ w ∈ u_ws RX4 TX4 13, w ∈ wsX4_aboutDraw := by decide +kernel
  have hl : lv_has ls 3 [(0, .ref (a 0)), (1, .int (iI (x))), (2, .int (iI (q)))] := hl
  obtain ⟨hbs, hbn, h00, h01, h10, h11, hz0, hz1, h30, h31, h40, h41, h70, h71, h60, h61⟩ := id hV
  have hb5 := hbs 5
  have hb2 := hbs 2
  refine lv_aload_n hx hb dX4_aboutDraw_0 rfl (lv_at hl 0 rfl) ?_
  refine Vg7 hx hb hts hin hown hK hP (by decide +kernel) dX4_aboutDraw_1 ?_
  refine lv_iload_n hx hb dX4_aboutDraw_4 rfl (lv_at hl 1 rfl) ?_
  refine lv_iload_n hx hb dX4_aboutDraw_5 rfl (lv_at hl 2 rfl) ?_
  refine p_callV (v := .int (iI (if 0 ≤ x ∧ x < s 7 then (if q = 0 then s (222 + 5 * x.toNat) else if q = 1 then s (223 + 5 * x.toNat) else if q = 2 then s (224 + 5 * x.toNat) else if q = 3 then b2i ((0 ≤ x ∧ x < s 7) ∧ s (224 + 5 * x.toNat) ≠ s (225 + 5 * x.toNat)) else if q = 4 then s (226 + 5 * x.toNat) else -1) else -1))) (ci := 2) (n := 2) (As := [.int (iI (x)), .int (iI (q))]) (rest := []) ⟨hx, hb, hml, hown, hts⟩ hK (kX2_about l D cI cV a s x q (by omega) (by omega) hbs (by omega)) (vil_lot hP) rfl rfl gX4_aboutDraw_X2_about rfl (by decide +kernel) ⟨Nat.le_of_ble_eq_true rfl, Nat.le_of_ble_eq_true rfl⟩ rfl hl.1 (Nat.le_of_ble_eq_true rfl) dX4_aboutDraw_6 ⟨Nat.zero_le _, Nat.zero_le _⟩ rfl ?_
  exact p_iret hx hb hr hlocks (by first | rfl | omega | exact (b2i_t (by omega)).symm | exact (b2i_f (by omega)).symm | (simp only [b2i]; (repeat' split) <;> first | rfl | omega | (exfalso; omega))) dX4_aboutDraw_9
set_option maxHeartbeats 4000000 in
set_option maxRecDepth 100000 in
theorem kX4_missingElders (l : Launch) (D : va_G) (cI cV : ClassId) (a : Nat → Nat) (s : Nat → Int) (nz : Int) (nw : Nat → Int) (y : Int) (hV : VI s nz nw) (r_y : rg y) : PM l yX4_missingElders wsX4_missingElders 5 116 [.ref (a 0), .int (iI (y))] (vilw cI a s nz nw) D cI cV (some (.int (iI (if 0 ≤ y ∧ y < s 3 then (if y < s 4 then 0 else (if ((b2i (s 5 ≠ -9 ∧ (y) ≤ s 5)) : Int) = 0 then max 0 (nz / 2 + 1 - sm (fun i => b2i (((0 ≤ (nw i) ∧ (nw i) < s 0) ∧ (y) < s (20 + (nw i).toNat)) ∨ (((0) : Int) ≠ 0 ∧ ((0 ≤ (nw i) ∧ (nw i) < s 0) ∧ s (8 + (nw i).toNat) = 1)))) nz.toNat) else max 0 (s 1 / 2 + 1 - sm (fun i => b2i (((0 ≤ (s (32 + i)) ∧ (s (32 + i)) < s 0) ∧ (y) < s (20 + (s (32 + i)).toNat)) ∨ (((0) : Int) ≠ 0 ∧ ((0 ≤ (s (32 + i)) ∧ (s (32 + i)) < s 0) ∧ s (8 + (s (32 + i)).toNat) = 1)))) (s 1).toNat) + max 0 (nz / 2 + 1 - sm (fun i => b2i (((0 ≤ (nw i) ∧ (nw i) < s 0) ∧ (y) < s (20 + (nw i).toNat)) ∨ (((0) : Int) ≠ 0 ∧ ((0 ≤ (nw i) ∧ (nw i) < s 0) ∧ s (8 + (nw i).toNat) = 1)))) nz.toNat) - min (min (max 0 (s 1 / 2 + 1 - sm (fun i => b2i (((0 ≤ (s (32 + i)) ∧ (s (32 + i)) < s 0) ∧ (y) < s (20 + (s (32 + i)).toNat)) ∨ (((0) : Int) ≠ 0 ∧ ((0 ≤ (s (32 + i)) ∧ (s (32 + i)) < s 0) ∧ s (8 + (s (32 + i)).toNat) = 1)))) (s 1).toNat)) (max 0 (nz / 2 + 1 - sm (fun i => b2i (((0 ≤ (nw i) ∧ (nw i) < s 0) ∧ (y) < s (20 + (nw i).toNat)) ∨ (((0) : Int) ≠ 0 ∧ ((0 ≤ (nw i) ∧ (nw i) < s 0) ∧ s (8 + (nw i).toNat) = 1)))) nz.toNat))) (sm (fun i => b2i ((seatF nw (s (32 + i)) nz.toNat ≠ -9) ∧ ¬ ((0 ≤ (s (32 + i)) ∧ (s (32 + i)) < s 0) ∧ (y) < s (20 + (s (32 + i)).toNat)))) (s 1).toNat))) else -1)))) := by
  refine PM.of (cc := cX4_missingElders) (maxL := 2) (ret := (some .int)) (by decide) rfl (Nat.le_of_ble_eq_true rfl) ?_
  intro p e s0 m below meth c ls hx hb hr hts hown hlocks hml hP hK hl
  have hown : s0.vm.findClass RX4 = some m.cls := hown
  have hin : ∀ w ∈ u_ws RX4 TX4 13, w ∈ wsX4_missingElders := by decide +kernel
  have hl : lv_has ls 2 [(0, .ref (a 0)), (1, .int (iI (y)))] := hl
  obtain ⟨hbs, hbn, h00, h01, h10, h11, hz0, hz1, h30, h31, h40, h41, h70, h71, h60, h61⟩ := id hV
  have hb5 := hbs 5
  have hb2 := hbs 2
  refine lv_aload_n hx hb dX4_missingElders_0 rfl (lv_at hl 0 rfl) ?_
  refine lv_iload_n hx hb dX4_missingElders_1 rfl (lv_at hl 1 rfl) ?_
  refine p_callV (v := .int (iI (b2i (0 ≤ y ∧ y < s 3)))) (ci := 4) (n := 1) (As := [.int (iI (y))]) (rest := []) ⟨hx, hb, hml, hown, hts⟩ hK (kX4_isEntry l D cI cV a s nz nw y hV (by omega)) hP rfl rfl gX4_missingElders_X4_isEntry rfl (by decide +kernel) ⟨Nat.le_of_ble_eq_true rfl, Nat.le_of_ble_eq_true rfl⟩ rfl hl.1 (Nat.le_of_ble_eq_true rfl) dX4_missingElders_2 ⟨Nat.zero_le _, Nat.zero_le _⟩ rfl ?_
  refine j_bne (tgt := 10) hx hb dX4_missingElders_5 (by decide) (fun c1 => ?_) (fun c1 => ?_)
  · refine lv_iload_n hx hb dX4_missingElders_10 rfl (lv_at hl 1 rfl) ?_
    refine lv_aload_n hx hb dX4_missingElders_11 rfl (lv_at hl 0 rfl) ?_
    refine Vg9 hx hb hts hin hown hK hP (by decide +kernel) dX4_missingElders_12 ?_
    refine j_ige (tgt := 22) hx hb (by omega) (by omega) dX4_missingElders_15 (by decide) (fun c2 => ?_) (fun c2 => ?_)
    · refine lv_aload_n hx hb dX4_missingElders_22 rfl (lv_at hl 0 rfl) ?_
      refine lv_iload_n hx hb dX4_missingElders_23 rfl (lv_at hl 1 rfl) ?_
      refine lv_aload_n hx hb dX4_missingElders_24 rfl (lv_at hl 0 rfl) ?_
      refine lv_iload_n hx hb dX4_missingElders_25 rfl (lv_at hl 1 rfl) ?_
      refine p_callV (v := .int (iI (b2i (s 5 ≠ -9 ∧ (y) ≤ s 5)))) (ci := 4) (n := 1) (As := [.int (iI (y))]) (rest := [.int (iI (y)), .ref (a 0)]) ⟨hx, hb, hml, hown, hts⟩ hK (kX4_oldCounts l D cI cV a s nz nw y hV (by omega)) hP rfl rfl gX4_missingElders_X4_oldCounts rfl (by decide +kernel) ⟨Nat.le_of_ble_eq_true rfl, Nat.le_of_ble_eq_true rfl⟩ rfl hl.1 (Nat.le_of_ble_eq_true rfl) dX4_missingElders_26 ⟨Nat.zero_le _, Nat.zero_le _⟩ rfl ?_
      refine p_callV (v := .int (iI (if (((b2i (s 5 ≠ -9 ∧ (y) ≤ s 5))) : Int) = 0 then max 0 (nz / 2 + 1 - sm (fun i => b2i (((0 ≤ (nw i) ∧ (nw i) < s 0) ∧ (y) < s (20 + (nw i).toNat)) ∨ (((0) : Int) ≠ 0 ∧ ((0 ≤ (nw i) ∧ (nw i) < s 0) ∧ s (8 + (nw i).toNat) = 1)))) nz.toNat) else max 0 (s 1 / 2 + 1 - sm (fun i => b2i (((0 ≤ (s (32 + i)) ∧ (s (32 + i)) < s 0) ∧ (y) < s (20 + (s (32 + i)).toNat)) ∨ (((0) : Int) ≠ 0 ∧ ((0 ≤ (s (32 + i)) ∧ (s (32 + i)) < s 0) ∧ s (8 + (s (32 + i)).toNat) = 1)))) (s 1).toNat) + max 0 (nz / 2 + 1 - sm (fun i => b2i (((0 ≤ (nw i) ∧ (nw i) < s 0) ∧ (y) < s (20 + (nw i).toNat)) ∨ (((0) : Int) ≠ 0 ∧ ((0 ≤ (nw i) ∧ (nw i) < s 0) ∧ s (8 + (nw i).toNat) = 1)))) nz.toNat) - min (min (max 0 (s 1 / 2 + 1 - sm (fun i => b2i (((0 ≤ (s (32 + i)) ∧ (s (32 + i)) < s 0) ∧ (y) < s (20 + (s (32 + i)).toNat)) ∨ (((0) : Int) ≠ 0 ∧ ((0 ≤ (s (32 + i)) ∧ (s (32 + i)) < s 0) ∧ s (8 + (s (32 + i)).toNat) = 1)))) (s 1).toNat)) (max 0 (nz / 2 + 1 - sm (fun i => b2i (((0 ≤ (nw i) ∧ (nw i) < s 0) ∧ (y) < s (20 + (nw i).toNat)) ∨ (((0) : Int) ≠ 0 ∧ ((0 ≤ (nw i) ∧ (nw i) < s 0) ∧ s (8 + (nw i).toNat) = 1)))) nz.toNat))) (sm (fun i => b2i ((seatF nw (s (32 + i)) nz.toNat ≠ -9) ∧ ¬ ((0 ≤ (s (32 + i)) ∧ (s (32 + i)) < s 0) ∧ (y) < s (20 + (s (32 + i)).toNat)))) (s 1).toNat)))) (ci := 4) (n := 2) (As := [.int (iI (y)), .int (iI (b2i (s 5 ≠ -9 ∧ (y) ≤ s 5)))]) (rest := []) ⟨hx, hb, hml, hown, hts⟩ hK (kX4_fewestToSecond l D cI cV a s nz nw y (b2i (s 5 ≠ -9 ∧ (y) ≤ s 5)) hV (by omega) (by first | decide | exact b2i_or | omega)) hP rfl rfl gX4_missingElders_X4_fewestToSecond rfl (by decide +kernel) ⟨Nat.le_of_ble_eq_true rfl, Nat.le_of_ble_eq_true rfl⟩ rfl hl.1 (Nat.le_of_ble_eq_true rfl) dX4_missingElders_29 ⟨Nat.zero_le _, Nat.zero_le _⟩ rfl ?_
      have f25 := sm_rg (f := (fun i => b2i (((0 ≤ (nw i) ∧ (nw i) < s 0) ∧ (y) < s (20 + (nw i).toNat)) ∨ (((0) : Int) ≠ 0 ∧ ((0 ≤ (nw i) ∧ (nw i) < s 0) ∧ s (8 + (nw i).toNat) = 1))))) (fun k => b2i_rg) (nz.toNat)
      have f26 := sm_rg (f := (fun i => b2i (((0 ≤ (s (32 + i)) ∧ (s (32 + i)) < s 0) ∧ (y) < s (20 + (s (32 + i)).toNat)) ∨ (((0) : Int) ≠ 0 ∧ ((0 ≤ (s (32 + i)) ∧ (s (32 + i)) < s 0) ∧ s (8 + (s (32 + i)).toNat) = 1))))) (fun k => b2i_rg) ((s 1).toNat)
      have f27 := sm_rg (f := (fun i => b2i ((seatF nw (s (32 + i)) nz.toNat ≠ -9) ∧ ¬ ((0 ≤ (s (32 + i)) ∧ (s (32 + i)) < s 0) ∧ (y) < s (20 + (s (32 + i)).toNat))))) (fun k => b2i_rg) ((s 1).toNat)
      exact p_iret hx hb hr hlocks (by (split; (try split)) <;> first | omega | rfl | (exfalso; omega)) dX4_missingElders_32
    · refine j_c hx hb dX4_missingElders_18 ?_
      refine lv_goto (tgt := 32) hx hb dX4_missingElders_19 (by decide) ?_
      exact p_iret hx hb hr hlocks (by (split; (try split)) <;> first | omega | rfl | (exfalso; omega)) dX4_missingElders_32
  · refine j_c hx hb dX4_missingElders_8 ?_
    exact p_iret hx hb hr hlocks (by (split; (try split)) <;> first | omega | rfl | (exfalso; omega)) dX4_missingElders_9
set_option maxHeartbeats 4000000 in
set_option maxRecDepth 100000 in
theorem kX4_reachableEntries (l : Launch) (D : va_G) (cI cV : ClassId) (a : Nat → Nat) (s : Nat → Int) (nz : Int) (nw : Nat → Int)  (hV : VI s nz nw) : PM l yX4_reachableEntries wsX4_reachableEntries 4 91 [.ref (a 0)] (vilw cI a s nz nw) D cI cV (some (.int (iI ((runL (fun i => b2i (nz / 2 + 1 ≤ sm (fun k => b2i (((0 ≤ (nw k) ∧ (nw k) < s 0) ∧ ((i : Int)) < s (20 + (nw k).toNat)) ∨ (((1) : Int) ≠ 0 ∧ ((0 ≤ (nw k) ∧ (nw k) < s 0) ∧ s (8 + (nw k).toNat) = 1)))) nz.toNat ∧ (¬ (s 5 ≠ -9 ∧ ((i : Int)) ≤ s 5) ∨ s 1 / 2 + 1 ≤ sm (fun k => b2i (((0 ≤ (s (32 + k)) ∧ (s (32 + k)) < s 0) ∧ ((i : Int)) < s (20 + (s (32 + k)).toNat)) ∨ (((1) : Int) ≠ 0 ∧ ((0 ≤ (s (32 + k)) ∧ (s (32 + k)) < s 0) ∧ s (8 + (s (32 + k)).toNat) = 1)))) (s 1).toNat))) (s 4).toNat (s 3 - s 4).toNat : Int) - s 4)))) := by
  refine PM.of (cc := cX4_reachableEntries) (maxL := 2) (ret := (some .int)) (by decide) rfl (Nat.le_of_ble_eq_true rfl) ?_
  intro p e s0 m below meth c ls hx hb hr hts hown hlocks hml hP hK hl
  have hown : s0.vm.findClass RX4 = some m.cls := hown
  have hin : ∀ w ∈ u_ws RX4 TX4 13, w ∈ wsX4_reachableEntries := by decide +kernel
  have hl : lv_has ls 2 [(0, .ref (a 0))] := hl
  obtain ⟨hbs, hbn, h00, h01, h10, h11, hz0, hz1, h30, h31, h40, h41, h70, h71, h60, h61⟩ := id hV
  have hb5 := hbs 5
  have hb2 := hbs 2
  refine lv_aload_n hx hb dX4_reachableEntries_0 rfl (lv_at hl 0 rfl) ?_
  refine Vg9 hx hb hts hin hown hK hP (by decide +kernel) dX4_reachableEntries_1 ?_
  refine lv_istore_n (lv' := [(1, .int (iI (s 4))), (0, .ref (a 0))]) hx hb dX4_reachableEntries_4 rfl hl (by decide) rfl (fun ls hl => ?_)
  have LP5 : ∀ (fu : Nat) (j : Nat) (x1 : Int), x1 = (j : Int) → ((j : Int) ≤ s 3 ∧ runL (fun i => b2i (nz / 2 + 1 ≤ sm (fun k => b2i (((0 ≤ (nw k) ∧ (nw k) < s 0) ∧ ((i : Int)) < s (20 + (nw k).toNat)) ∨ (((1) : Int) ≠ 0 ∧ ((0 ≤ (nw k) ∧ (nw k) < s 0) ∧ s (8 + (nw k).toNat) = 1)))) nz.toNat ∧ (¬ (s 5 ≠ -9 ∧ ((i : Int)) ≤ s 5) ∨ s 1 / 2 + 1 ≤ sm (fun k => b2i (((0 ≤ (s (32 + k)) ∧ (s (32 + k)) < s 0) ∧ ((i : Int)) < s (20 + (s (32 + k)).toNat)) ∨ (((1) : Int) ≠ 0 ∧ ((0 ≤ (s (32 + k)) ∧ (s (32 + k)) < s 0) ∧ s (8 + (s (32 + k)).toNat) = 1)))) (s 1).toNat))) (s 4).toNat (s 3 - s 4).toNat = runL (fun i => b2i (nz / 2 + 1 ≤ sm (fun k => b2i (((0 ≤ (nw k) ∧ (nw k) < s 0) ∧ ((i : Int)) < s (20 + (nw k).toNat)) ∨ (((1) : Int) ≠ 0 ∧ ((0 ≤ (nw k) ∧ (nw k) < s 0) ∧ s (8 + (nw k).toNat) = 1)))) nz.toNat ∧ (¬ (s 5 ≠ -9 ∧ ((i : Int)) ≤ s 5) ∨ s 1 / 2 + 1 ≤ sm (fun k => b2i (((0 ≤ (s (32 + k)) ∧ (s (32 + k)) < s 0) ∧ ((i : Int)) < s (20 + (s (32 + k)).toNat)) ∨ (((1) : Int) ≠ 0 ∧ ((0 ≤ (s (32 + k)) ∧ (s (32 + k)) < s 0) ∧ s (8 + (s (32 + k)).toNat) = 1)))) (s 1).toNat))) j (s 3 - j).toNat) → (s 3).toNat - j < fu → ∀ ls : Array Slot, lv_has ls 2 [(1, .int (iI (x1))), (0, .ref (a 0))] → W p l e (headSpec wsX4_reachableEntries (rmK 4 91)).room s0 m ([.ref (a 0)] : List Value).toArray below meth c s0.heap [] 0 0 (MQ below (pQ (some (.int (iI ((runL (fun i => b2i (nz / 2 + 1 ≤ sm (fun k => b2i (((0 ≤ (nw k) ∧ (nw k) < s 0) ∧ ((i : Int)) < s (20 + (nw k).toNat)) ∨ (((1) : Int) ≠ 0 ∧ ((0 ≤ (nw k) ∧ (nw k) < s 0) ∧ s (8 + (nw k).toNat) = 1)))) nz.toNat ∧ (¬ (s 5 ≠ -9 ∧ ((i : Int)) ≤ s 5) ∨ s 1 / 2 + 1 ≤ sm (fun k => b2i (((0 ≤ (s (32 + k)) ∧ (s (32 + k)) < s 0) ∧ ((i : Int)) < s (20 + (s (32 + k)).toNat)) ∨ (((1) : Int) ≠ 0 ∧ ((0 ≤ (s (32 + k)) ∧ (s (32 + k)) < s 0) ∧ s (8 + (s (32 + k)).toNat) = 1)))) (s 1).toNat))) (s 4).toNat (s 3 - s 4).toNat : Int) - s 4))))) ([.ref (a 0)] : List Value).toArray s0 0 0 (fun _ => False)) (F0 m 5 ls []) := by
    intro fu
    induction fu with
    | zero =>
      intros
      omega
    | succ fu ih =>
      intro j x1 ex1 hinv hmeas  ls hl
      subst ex1
      refine lv_iload_n hx hb dX4_reachableEntries_5 rfl (lv_at hl 0 rfl) ?_
      refine lv_aload_n hx hb dX4_reachableEntries_6 rfl (lv_at hl 1 rfl) ?_
      refine Vg8 hx hb hts hin hown hK hP (by decide +kernel) dX4_reachableEntries_7 ?_
      refine j_ige (tgt := 28) hx hb (by omega) (by omega) dX4_reachableEntries_10 (by decide) (fun c1 => ?_) (fun c1 => ?_)
      · have hrun := hinv.2
        refine lv_iload_n hx hb dX4_reachableEntries_28 rfl (lv_at hl 0 rfl) ?_
        refine lv_aload_n hx hb dX4_reachableEntries_29 rfl (lv_at hl 1 rfl) ?_
        refine Vg9 hx hb hts hin hown hK hP (by decide +kernel) dX4_reachableEntries_30 ?_
        refine j_sub hx hb dX4_reachableEntries_33 ?_
        exact p_iret hx hb hr hlocks (by first | (rw [hinv.2, show (s 3 - (j : Int)).toNat = 0 from by omega]; simp only [runL]) | (rw [hinv.2, show (s 3 - (j : Int)).toNat = ((s 3 - (j : Int)).toNat - 1) + 1 from by omega]; simp only [runL]; rw [if_neg (by rw [b2i_f (by assumption)]; decide)])) dX4_reachableEntries_34
      · refine lv_aload_n hx hb dX4_reachableEntries_13 rfl (lv_at hl 1 rfl) ?_
        refine lv_iload_n hx hb dX4_reachableEntries_14 rfl (lv_at hl 0 rfl) ?_
        refine j_c hx hb dX4_reachableEntries_15 ?_
        refine p_callV (v := .int (iI (b2i (nz / 2 + 1 ≤ sm (fun i => b2i (((0 ≤ (nw i) ∧ (nw i) < s 0) ∧ ((j : Int)) < s (20 + (nw i).toNat)) ∨ (((1) : Int) ≠ 0 ∧ ((0 ≤ (nw i) ∧ (nw i) < s 0) ∧ s (8 + (nw i).toNat) = 1)))) nz.toNat ∧ (¬ (s 5 ≠ -9 ∧ ((j : Int)) ≤ s 5) ∨ s 1 / 2 + 1 ≤ sm (fun i => b2i (((0 ≤ (s (32 + i)) ∧ (s (32 + i)) < s 0) ∧ ((j : Int)) < s (20 + (s (32 + i)).toNat)) ∨ (((1) : Int) ≠ 0 ∧ ((0 ≤ (s (32 + i)) ∧ (s (32 + i)) < s 0) ∧ s (8 + (s (32 + i)).toNat) = 1)))) (s 1).toNat))))) (ci := 4) (n := 2) (As := [.int (iI ((j : Int))), .int (iI (1))]) (rest := []) ⟨hx, hb, hml, hown, hts⟩ hK (kX4_isSupported l D cI cV a s nz nw (j : Int) 1 hV (by omega) (by first | decide | exact b2i_or | omega)) hP rfl rfl gX4_reachableEntries_X4_isSupported rfl (by decide +kernel) ⟨Nat.le_of_ble_eq_true rfl, Nat.le_of_ble_eq_true rfl⟩ rfl hl.1 (Nat.le_of_ble_eq_true rfl) dX4_reachableEntries_16 ⟨Nat.zero_le _, Nat.zero_le _⟩ rfl ?_
        have f37 := sm_rg (f := (fun i => b2i (((0 ≤ (nw i) ∧ (nw i) < s 0) ∧ ((j : Int)) < s (20 + (nw i).toNat)) ∨ (((1) : Int) ≠ 0 ∧ ((0 ≤ (nw i) ∧ (nw i) < s 0) ∧ s (8 + (nw i).toNat) = 1))))) (fun k => b2i_rg) (nz.toNat)
        have f38 := sm_rg (f := (fun i => b2i (((0 ≤ (s (32 + i)) ∧ (s (32 + i)) < s 0) ∧ ((j : Int)) < s (20 + (s (32 + i)).toNat)) ∨ (((1) : Int) ≠ 0 ∧ ((0 ≤ (s (32 + i)) ∧ (s (32 + i)) < s 0) ∧ s (8 + (s (32 + i)).toNat) = 1))))) (fun k => b2i_rg) ((s 1).toNat)
        refine j_beq (tgt := 28) hx hb dX4_reachableEntries_19 (by decide) (fun c2 => ?_) (fun c2 => ?_)
        · have hrun := hinv.2
          refine lv_iload_n hx hb dX4_reachableEntries_28 rfl (lv_at hl 0 rfl) ?_
          refine lv_aload_n hx hb dX4_reachableEntries_29 rfl (lv_at hl 1 rfl) ?_
          refine Vg9 hx hb hts hin hown hK hP (by decide +kernel) dX4_reachableEntries_30 ?_
          refine j_sub hx hb dX4_reachableEntries_33 ?_
          exact p_iret hx hb hr hlocks (by first | (rw [hinv.2, show (s 3 - (j : Int)).toNat = 0 from by omega]; simp only [runL]) | (rw [hinv.2, show (s 3 - (j : Int)).toNat = ((s 3 - (j : Int)).toNat - 1) + 1 from by omega]; simp only [runL]; rw [if_neg (by rw [b2i_f (by assumption)]; decide)])) dX4_reachableEntries_34
        · refine lv_iinc (v := iI ((j : Int) + 1)) (lv' := [(1, .int (iI ((j : Int) + 1))), (0, .ref (a 0))]) hx hb dX4_reachableEntries_22 hl (k := 0) rfl (iI_add _ _) (by decide) rfl (fun ls hl => ?_)
          refine lv_goto (tgt := 5) hx hb dX4_reachableEntries_25 (by decide) ?_
          exact ih (j + 1) ((j : Int) + 1) (by first | rfl | omega | (simp only [sm, b2i]; (repeat' split) <;> first | rfl | omega | (exfalso; omega) | (exfalso; simp_all))) (by exact ⟨by omega, by rw [hinv.2, show (s 3 - (j : Int)).toNat = (s 3 - ((j + 1 : Nat) : Int)).toNat + 1 from by omega]; simp only [runL]; rw [if_pos (b2i_t (by assumption))]⟩) (by omega) ls (lv_sub hl [0, 1] rfl)
  exact LP5 (_) ((s 4).toNat) (s 4) (by first | rfl | omega) (by exact ⟨by omega, by rw [show s 3 - ((s 4).toNat : Int) = s 3 - s 4 from by omega]⟩) (by exact Nat.lt_succ_self _) ls (lv_sub hl [0, 1] rfl)
set_option maxHeartbeats 4000000 in
set_option maxRecDepth 100000 in
theorem kX4_drawnNext (l : Launch) (D : va_G) (cI cV : ClassId) (a : Nat → Nat) (s : Nat → Int) (nz : Int) (nw : Nat → Int) (y : Int) (hV : VI s nz nw) (r_y : rg y) : PM l yX4_drawnNext wsX4_drawnNext 5 110 [.ref (a 0), .int (iI (y))] (vilw cI a s nz nw) D cI cV (some (.int (iI (if 0 ≤ y ∧ y < s 1 then (if s 5 ≠ -9 then -2 else (if sm (fun i => b2i (¬ (seatF (fun i => s (32 + i)) ((i : Int)) (s 1).toNat ≠ -9))) (s 0).toNat ≤ 0 then -9 else pick (fun i => b2i (¬ (seatF (fun i => s (32 + i)) ((i : Int)) (s 1).toNat ≠ -9))) (((s 6) * 25173 + 13849) % 65536 % sm (fun i => b2i (¬ (seatF (fun i => s (32 + i)) ((i : Int)) (s 1).toNat ≠ -9))) (s 0).toNat) (s 0).toNat)) else -1)))) := by
  refine PM.of (cc := cX4_drawnNext) (maxL := 2) (ret := (some .int)) (by decide) rfl (Nat.le_of_ble_eq_true rfl) ?_
  intro p e s0 m below meth c ls hx hb hr hts hown hlocks hml hP hK hl
  have hown : s0.vm.findClass RX4 = some m.cls := hown
  have hin : ∀ w ∈ u_ws RX4 TX4 13, w ∈ wsX4_drawnNext := by decide +kernel
  have hl : lv_has ls 2 [(0, .ref (a 0)), (1, .int (iI (y)))] := hl
  obtain ⟨hbs, hbn, h00, h01, h10, h11, hz0, hz1, h30, h31, h40, h41, h70, h71, h60, h61⟩ := id hV
  have hb5 := hbs 5
  have hb2 := hbs 2
  refine lv_aload_n hx hb dX4_drawnNext_0 rfl (lv_at hl 0 rfl) ?_
  refine Vg3 hx hb hts hin hown hK hP (by decide +kernel) dX4_drawnNext_1 ?_
  refine lv_iload_n hx hb dX4_drawnNext_4 rfl (lv_at hl 1 rfl) ?_
  refine p_callV (v := .int (iI (b2i (0 ≤ y ∧ y < (s 1))))) (ci := 0) (n := 1) (As := [.int (iI (y))]) (rest := []) ⟨hx, hb, hml, hown, hts⟩ hK (kX0_hasSeat l D cI cV (a 6) (a 7) (s 1) (fun i => s (32 + i)) y (by omega) (by omega)) (vil_old hP) rfl rfl gX4_drawnNext_X0_hasSeat rfl (by decide +kernel) ⟨Nat.le_of_ble_eq_true rfl, Nat.le_of_ble_eq_true rfl⟩ rfl hl.1 (Nat.le_of_ble_eq_true rfl) dX4_drawnNext_5 ⟨Nat.zero_le _, Nat.zero_le _⟩ rfl ?_
  refine j_bne (tgt := 13) hx hb dX4_drawnNext_8 (by decide) (fun c1 => ?_) (fun c1 => ?_)
  · refine lv_aload_n hx hb dX4_drawnNext_13 rfl (lv_at hl 0 rfl) ?_
    refine p_callV (v := .int (iI (b2i (s 5 ≠ -9)))) (ci := 4) (n := 0) (As := []) (rest := []) ⟨hx, hb, hml, hown, hts⟩ hK (kX4_isChanging l D cI cV a s nz nw hV) hP rfl rfl gX4_drawnNext_X4_isChanging rfl (by decide +kernel) ⟨Nat.le_of_ble_eq_true rfl, Nat.le_of_ble_eq_true rfl⟩ rfl hl.1 (Nat.le_of_ble_eq_true rfl) dX4_drawnNext_14 ⟨Nat.zero_le _, Nat.zero_le _⟩ rfl ?_
    refine j_beq (tgt := 25) hx hb dX4_drawnNext_17 (by decide) (fun c2 => ?_) (fun c2 => ?_)
    · refine lv_aload_n hx hb dX4_drawnNext_25 rfl (lv_at hl 0 rfl) ?_
      refine lv_aload_n hx hb dX4_drawnNext_26 rfl (lv_at hl 0 rfl) ?_
      refine Vg7 hx hb hts hin hown hK hP (by decide +kernel) dX4_drawnNext_27 ?_
      refine p_callV (v := .int (iI (s 6))) (ci := 2) (n := 0) (As := []) (rest := [.ref (a 0)]) ⟨hx, hb, hml, hown, hts⟩ hK (kX2_state l D cI cV a s) (vil_lot hP) rfl rfl gX4_drawnNext_X2_state rfl (by decide +kernel) ⟨Nat.le_of_ble_eq_true rfl, Nat.le_of_ble_eq_true rfl⟩ rfl hl.1 (Nat.le_of_ble_eq_true rfl) dX4_drawnNext_30 ⟨Nat.zero_le _, Nat.zero_le _⟩ rfl ?_
      refine p_callV (v := .int (iI (if sm (fun i => b2i (¬ (seatF (fun i => s (32 + i)) ((i : Int)) (s 1).toNat ≠ -9))) (s 0).toNat ≤ 0 then -9 else pick (fun i => b2i (¬ (seatF (fun i => s (32 + i)) ((i : Int)) (s 1).toNat ≠ -9))) ((((s 6)) * 25173 + 13849) % 65536 % sm (fun i => b2i (¬ (seatF (fun i => s (32 + i)) ((i : Int)) (s 1).toNat ≠ -9))) (s 0).toNat) (s 0).toNat))) (ci := 4) (n := 1) (As := [.int (iI (s 6))]) (rest := []) ⟨hx, hb, hml, hown, hts⟩ hK (kX4_drawnWith l D cI cV a s nz nw (s 6) hV (by omega)) hP rfl rfl gX4_drawnNext_X4_drawnWith rfl (by decide +kernel) ⟨Nat.le_of_ble_eq_true rfl, Nat.le_of_ble_eq_true rfl⟩ rfl hl.1 (Nat.le_of_ble_eq_true rfl) dX4_drawnNext_33 ⟨Nat.zero_le _, Nat.zero_le _⟩ rfl ?_
      have f24 := sm_rg (f := (fun i => b2i (¬ (seatF (fun i => s (32 + i)) ((i : Int)) (s 1).toNat ≠ -9)))) (fun k => b2i_rg) ((s 0).toNat)
      exact p_iret hx hb hr hlocks (by (split; (try split)) <;> first | omega | rfl | (exfalso; omega)) dX4_drawnNext_36
    · refine j_bi hx hb dX4_drawnNext_20 rfl ?_
      refine lv_goto (tgt := 36) hx hb dX4_drawnNext_22 (by decide) ?_
      exact p_iret hx hb hr hlocks (by (split; (try split)) <;> first | omega | rfl | (exfalso; omega)) dX4_drawnNext_36
  · refine j_c hx hb dX4_drawnNext_11 ?_
    exact p_iret hx hb hr hlocks (by (split; (try split)) <;> first | omega | rfl | (exfalso; omega)) dX4_drawnNext_12
set_option maxHeartbeats 4000000 in
set_option maxRecDepth 100000 in
theorem kX4_spareVillagers (l : Launch) (D : va_G) (cI cV : ClassId) (a : Nat → Nat) (s : Nat → Int) (nz : Int) (nw : Nat → Int)  (hV : VI s nz nw) : PM l yX4_spareVillagers wsX4_spareVillagers 5 116 [.ref (a 0)] (vilw cI a s nz nw) D cI cV (some (.int (iI (if s 1 = 0 then -9 else s 0 - (if ((b2i (s 5 ≠ -9)) : Int) = 0 then max 0 (nz / 2 + 1 - sm (fun i => b2i (((0 ≤ (nw i) ∧ (nw i) < s 0) ∧ (s 3) < s (20 + (nw i).toNat)) ∨ (((0) : Int) ≠ 0 ∧ ((0 ≤ (nw i) ∧ (nw i) < s 0) ∧ s (8 + (nw i).toNat) = 1)))) nz.toNat) else max 0 (s 1 / 2 + 1 - sm (fun i => b2i (((0 ≤ (s (32 + i)) ∧ (s (32 + i)) < s 0) ∧ (s 3) < s (20 + (s (32 + i)).toNat)) ∨ (((0) : Int) ≠ 0 ∧ ((0 ≤ (s (32 + i)) ∧ (s (32 + i)) < s 0) ∧ s (8 + (s (32 + i)).toNat) = 1)))) (s 1).toNat) + max 0 (nz / 2 + 1 - sm (fun i => b2i (((0 ≤ (nw i) ∧ (nw i) < s 0) ∧ (s 3) < s (20 + (nw i).toNat)) ∨ (((0) : Int) ≠ 0 ∧ ((0 ≤ (nw i) ∧ (nw i) < s 0) ∧ s (8 + (nw i).toNat) = 1)))) nz.toNat) - min (min (max 0 (s 1 / 2 + 1 - sm (fun i => b2i (((0 ≤ (s (32 + i)) ∧ (s (32 + i)) < s 0) ∧ (s 3) < s (20 + (s (32 + i)).toNat)) ∨ (((0) : Int) ≠ 0 ∧ ((0 ≤ (s (32 + i)) ∧ (s (32 + i)) < s 0) ∧ s (8 + (s (32 + i)).toNat) = 1)))) (s 1).toNat)) (max 0 (nz / 2 + 1 - sm (fun i => b2i (((0 ≤ (nw i) ∧ (nw i) < s 0) ∧ (s 3) < s (20 + (nw i).toNat)) ∨ (((0) : Int) ≠ 0 ∧ ((0 ≤ (nw i) ∧ (nw i) < s 0) ∧ s (8 + (nw i).toNat) = 1)))) nz.toNat))) (sm (fun i => b2i ((seatF nw (s (32 + i)) nz.toNat ≠ -9) ∧ ¬ ((0 ≤ (s (32 + i)) ∧ (s (32 + i)) < s 0) ∧ (s 3) < s (20 + (s (32 + i)).toNat)))) (s 1).toNat)))))) := by
  refine PM.of (cc := cX4_spareVillagers) (maxL := 1) (ret := (some .int)) (by decide) rfl (Nat.le_of_ble_eq_true rfl) ?_
  intro p e s0 m below meth c ls hx hb hr hts hown hlocks hml hP hK hl
  have hown : s0.vm.findClass RX4 = some m.cls := hown
  have hin : ∀ w ∈ u_ws RX4 TX4 13, w ∈ wsX4_spareVillagers := by decide +kernel
  have hl : lv_has ls 1 [(0, .ref (a 0))] := hl
  obtain ⟨hbs, hbn, h00, h01, h10, h11, hz0, hz1, h30, h31, h40, h41, h70, h71, h60, h61⟩ := id hV
  have hb5 := hbs 5
  have hb2 := hbs 2
  refine lv_aload_n hx hb dX4_spareVillagers_0 rfl (lv_at hl 0 rfl) ?_
  refine Vg3 hx hb hts hin hown hK hP (by decide +kernel) dX4_spareVillagers_1 ?_
  refine p_callV (v := .int (iI (b2i ((s 1) = 0)))) (ci := 0) (n := 0) (As := []) (rest := []) ⟨hx, hb, hml, hown, hts⟩ hK (kX0_isEmpty l D cI cV (a 6) (a 7) (s 1) (fun i => s (32 + i)) (by omega)) (vil_old hP) rfl rfl gX4_spareVillagers_X0_isEmpty rfl (by decide +kernel) ⟨Nat.le_of_ble_eq_true rfl, Nat.le_of_ble_eq_true rfl⟩ rfl hl.1 (Nat.le_of_ble_eq_true rfl) dX4_spareVillagers_4 ⟨Nat.zero_le _, Nat.zero_le _⟩ rfl ?_
  refine j_beq (tgt := 13) hx hb dX4_spareVillagers_7 (by decide) (fun c1 => ?_) (fun c1 => ?_)
  · refine lv_aload_n hx hb dX4_spareVillagers_13 rfl (lv_at hl 0 rfl) ?_
    refine Vg0 hx hb hts hin hown hK hP (by decide +kernel) dX4_spareVillagers_14 ?_
    refine lv_aload_n hx hb dX4_spareVillagers_17 rfl (lv_at hl 0 rfl) ?_
    refine lv_aload_n hx hb dX4_spareVillagers_18 rfl (lv_at hl 0 rfl) ?_
    refine Vg8 hx hb hts hin hown hK hP (by decide +kernel) dX4_spareVillagers_19 ?_
    refine lv_aload_n hx hb dX4_spareVillagers_22 rfl (lv_at hl 0 rfl) ?_
    refine p_callV (v := .int (iI (b2i (s 5 ≠ -9)))) (ci := 4) (n := 0) (As := []) (rest := [.int (iI (s 3)), .ref (a 0), .int (iI (s 0))]) ⟨hx, hb, hml, hown, hts⟩ hK (kX4_isChanging l D cI cV a s nz nw hV) hP rfl rfl gX4_spareVillagers_X4_isChanging rfl (by decide +kernel) ⟨Nat.le_of_ble_eq_true rfl, Nat.le_of_ble_eq_true rfl⟩ rfl hl.1 (Nat.le_of_ble_eq_true rfl) dX4_spareVillagers_23 ⟨Nat.zero_le _, Nat.zero_le _⟩ rfl ?_
    refine p_callV (v := .int (iI (if (((b2i (s 5 ≠ -9))) : Int) = 0 then max 0 (nz / 2 + 1 - sm (fun i => b2i (((0 ≤ (nw i) ∧ (nw i) < s 0) ∧ ((s 3)) < s (20 + (nw i).toNat)) ∨ (((0) : Int) ≠ 0 ∧ ((0 ≤ (nw i) ∧ (nw i) < s 0) ∧ s (8 + (nw i).toNat) = 1)))) nz.toNat) else max 0 (s 1 / 2 + 1 - sm (fun i => b2i (((0 ≤ (s (32 + i)) ∧ (s (32 + i)) < s 0) ∧ ((s 3)) < s (20 + (s (32 + i)).toNat)) ∨ (((0) : Int) ≠ 0 ∧ ((0 ≤ (s (32 + i)) ∧ (s (32 + i)) < s 0) ∧ s (8 + (s (32 + i)).toNat) = 1)))) (s 1).toNat) + max 0 (nz / 2 + 1 - sm (fun i => b2i (((0 ≤ (nw i) ∧ (nw i) < s 0) ∧ ((s 3)) < s (20 + (nw i).toNat)) ∨ (((0) : Int) ≠ 0 ∧ ((0 ≤ (nw i) ∧ (nw i) < s 0) ∧ s (8 + (nw i).toNat) = 1)))) nz.toNat) - min (min (max 0 (s 1 / 2 + 1 - sm (fun i => b2i (((0 ≤ (s (32 + i)) ∧ (s (32 + i)) < s 0) ∧ ((s 3)) < s (20 + (s (32 + i)).toNat)) ∨ (((0) : Int) ≠ 0 ∧ ((0 ≤ (s (32 + i)) ∧ (s (32 + i)) < s 0) ∧ s (8 + (s (32 + i)).toNat) = 1)))) (s 1).toNat)) (max 0 (nz / 2 + 1 - sm (fun i => b2i (((0 ≤ (nw i) ∧ (nw i) < s 0) ∧ ((s 3)) < s (20 + (nw i).toNat)) ∨ (((0) : Int) ≠ 0 ∧ ((0 ≤ (nw i) ∧ (nw i) < s 0) ∧ s (8 + (nw i).toNat) = 1)))) nz.toNat))) (sm (fun i => b2i ((seatF nw (s (32 + i)) nz.toNat ≠ -9) ∧ ¬ ((0 ≤ (s (32 + i)) ∧ (s (32 + i)) < s 0) ∧ ((s 3)) < s (20 + (s (32 + i)).toNat)))) (s 1).toNat)))) (ci := 4) (n := 2) (As := [.int (iI (s 3)), .int (iI (b2i (s 5 ≠ -9)))]) (rest := [.int (iI (s 0))]) ⟨hx, hb, hml, hown, hts⟩ hK (kX4_fewestToSecond l D cI cV a s nz nw (s 3) (b2i (s 5 ≠ -9)) hV (by omega) (by first | decide | exact b2i_or | omega)) hP rfl rfl gX4_spareVillagers_X4_fewestToSecond rfl (by decide +kernel) ⟨Nat.le_of_ble_eq_true rfl, Nat.le_of_ble_eq_true rfl⟩ rfl hl.1 (Nat.le_of_ble_eq_true rfl) dX4_spareVillagers_26 ⟨Nat.zero_le _, Nat.zero_le _⟩ rfl ?_
    have f23 := sm_rg (f := (fun i => b2i (((0 ≤ (nw i) ∧ (nw i) < s 0) ∧ ((s 3)) < s (20 + (nw i).toNat)) ∨ (((0) : Int) ≠ 0 ∧ ((0 ≤ (nw i) ∧ (nw i) < s 0) ∧ s (8 + (nw i).toNat) = 1))))) (fun k => b2i_rg) (nz.toNat)
    have f24 := sm_rg (f := (fun i => b2i (((0 ≤ (s (32 + i)) ∧ (s (32 + i)) < s 0) ∧ ((s 3)) < s (20 + (s (32 + i)).toNat)) ∨ (((0) : Int) ≠ 0 ∧ ((0 ≤ (s (32 + i)) ∧ (s (32 + i)) < s 0) ∧ s (8 + (s (32 + i)).toNat) = 1))))) (fun k => b2i_rg) ((s 1).toNat)
    have f25 := sm_rg (f := (fun i => b2i ((seatF nw (s (32 + i)) nz.toNat ≠ -9) ∧ ¬ ((0 ≤ (s (32 + i)) ∧ (s (32 + i)) < s 0) ∧ ((s 3)) < s (20 + (s (32 + i)).toNat))))) (fun k => b2i_rg) ((s 1).toNat)
    refine j_sub hx hb dX4_spareVillagers_29 ?_
    exact p_iret hx hb hr hlocks (by split <;> first | omega | rfl | (exfalso; omega)) dX4_spareVillagers_30
  · refine j_bi hx hb dX4_spareVillagers_10 rfl ?_
    exact p_iret hx hb hr hlocks (by split <;> first | omega | rfl | (exfalso; omega)) dX4_spareVillagers_12
set_option maxHeartbeats 4000000 in
set_option maxRecDepth 100000 in
theorem kX4_lotToDraw (l : Launch) (D : va_G) (cI cV : ClassId) (a : Nat → Nat) (s : Nat → Int) (nz : Int) (nw : Nat → Int) (x : Int) (y : Int) (hV : VI s nz nw) (r_x : rg x) (r_y : rg y) : PM l yX4_lotToDraw wsX4_lotToDraw 4 86 [.ref (a 0), .int (iI (x)), .int (iI (y))] (vilw cI a s nz nw) D cI cV (some (.int (iI (if (0 ≤ x ∧ x < s 0) ∧ (0 ≤ y ∧ y < s 1) then (if s 5 ≠ -9 then -2 else if (seatF (fun i => s (32 + i)) (x) (s 1).toNat ≠ -9) ∨ sm (fun i => b2i (¬ (seatF (fun i => s (32 + i)) ((i : Int)) (s 1).toNat ≠ -9))) (s 0).toNat ≤ 0 then -9 else seatF (fun i => (((i : Int)) * 25173 + 13849) % 65536 % sm (fun i => b2i (¬ (seatF (fun i => s (32 + i)) ((i : Int)) (s 1).toNat ≠ -9))) (s 0).toNat) (sm (fun i => b2i (¬ (seatF (fun i => s (32 + i)) ((i : Int)) (s 1).toNat ≠ -9))) x.toNat) 65536) else -1)))) := by
  refine PM.of (cc := cX4_lotToDraw) (maxL := 6) (ret := (some .int)) (by decide) rfl (Nat.le_of_ble_eq_true rfl) ?_
  intro p e s0 m below meth c ls hx hb hr hts hown hlocks hml hP hK hl
  have hown : s0.vm.findClass RX4 = some m.cls := hown
  have hin : ∀ w ∈ u_ws RX4 TX4 13, w ∈ wsX4_lotToDraw := by decide +kernel
  have hl : lv_has ls 6 [(0, .ref (a 0)), (1, .int (iI (x))), (2, .int (iI (y)))] := hl
  obtain ⟨hbs, hbn, h00, h01, h10, h11, hz0, hz1, h30, h31, h40, h41, h70, h71, h60, h61⟩ := id hV
  have hb5 := hbs 5
  have hb2 := hbs 2
  refine lv_aload_n hx hb dX4_lotToDraw_0 rfl (lv_at hl 0 rfl) ?_
  refine lv_iload_n hx hb dX4_lotToDraw_1 rfl (lv_at hl 1 rfl) ?_
  refine p_callV (v := .int (iI (b2i (0 ≤ (x) ∧ (x) < s 0)))) (ci := 4) (n := 1) (As := [.int (iI (x))]) (rest := []) ⟨hx, hb, hml, hown, hts⟩ hK (kX4_isVillager l D cI cV a s nz nw x hV (by omega)) hP rfl rfl gX4_lotToDraw_X4_isVillager rfl (by decide +kernel) ⟨Nat.le_of_ble_eq_true rfl, Nat.le_of_ble_eq_true rfl⟩ rfl hl.1 (Nat.le_of_ble_eq_true rfl) dX4_lotToDraw_2 ⟨Nat.zero_le _, Nat.zero_le _⟩ rfl ?_
  refine j_beq (tgt := 19) hx hb dX4_lotToDraw_5 (by decide) (fun c1 => ?_) (fun c1 => ?_)
  · refine j_c hx hb dX4_lotToDraw_19 ?_
    exact p_iret hx hb hr hlocks (by ((try split) <;> (try split) <;> (try split)) <;> first | omega | (exfalso; omega)) dX4_lotToDraw_20
  · refine lv_aload_n hx hb dX4_lotToDraw_8 rfl (lv_at hl 0 rfl) ?_
    refine Vg3 hx hb hts hin hown hK hP (by decide +kernel) dX4_lotToDraw_9 ?_
    refine lv_iload_n hx hb dX4_lotToDraw_12 rfl (lv_at hl 2 rfl) ?_
    refine p_callV (v := .int (iI (b2i (0 ≤ y ∧ y < (s 1))))) (ci := 0) (n := 1) (As := [.int (iI (y))]) (rest := []) ⟨hx, hb, hml, hown, hts⟩ hK (kX0_hasSeat l D cI cV (a 6) (a 7) (s 1) (fun i => s (32 + i)) y (by omega) (by omega)) (vil_old hP) rfl rfl gX4_lotToDraw_X0_hasSeat rfl (by decide +kernel) ⟨Nat.le_of_ble_eq_true rfl, Nat.le_of_ble_eq_true rfl⟩ rfl hl.1 (Nat.le_of_ble_eq_true rfl) dX4_lotToDraw_13 ⟨Nat.zero_le _, Nat.zero_le _⟩ rfl ?_
    refine j_bne (tgt := 21) hx hb dX4_lotToDraw_16 (by decide) (fun c2 => ?_) (fun c2 => ?_)
    · refine lv_aload_n hx hb dX4_lotToDraw_21 rfl (lv_at hl 0 rfl) ?_
      refine p_callV (v := .int (iI (b2i (s 5 ≠ -9)))) (ci := 4) (n := 0) (As := []) (rest := []) ⟨hx, hb, hml, hown, hts⟩ hK (kX4_isChanging l D cI cV a s nz nw hV) hP rfl rfl gX4_lotToDraw_X4_isChanging rfl (by decide +kernel) ⟨Nat.le_of_ble_eq_true rfl, Nat.le_of_ble_eq_true rfl⟩ rfl hl.1 (Nat.le_of_ble_eq_true rfl) dX4_lotToDraw_22 ⟨Nat.zero_le _, Nat.zero_le _⟩ rfl ?_
      refine j_beq (tgt := 31) hx hb dX4_lotToDraw_25 (by decide) (fun c3 => ?_) (fun c3 => ?_)
      · refine lv_aload_n hx hb dX4_lotToDraw_31 rfl (lv_at hl 0 rfl) ?_
        refine p_callV (v := .int (iI (sm (fun i => b2i (¬ (seatF (fun i => s (32 + i)) ((i : Int)) (s 1).toNat ≠ -9))) (s 0).toNat))) (ci := 4) (n := 0) (As := []) (rest := []) ⟨hx, hb, hml, hown, hts⟩ hK (kX4_candidates l D cI cV a s nz nw hV) hP rfl rfl gX4_lotToDraw_X4_candidates rfl (by decide +kernel) ⟨Nat.le_of_ble_eq_true rfl, Nat.le_of_ble_eq_true rfl⟩ rfl hl.1 (Nat.le_of_ble_eq_true rfl) dX4_lotToDraw_32 ⟨Nat.zero_le _, Nat.zero_le _⟩ rfl ?_
        have f27 := sm_rg (f := (fun i => b2i (¬ (seatF (fun i => s (32 + i)) ((i : Int)) (s 1).toNat ≠ -9)))) (fun k => b2i_rg) ((s 0).toNat)
        refine lv_istore_n (lv' := [(3, .int (iI (sm (fun i => b2i (¬ (seatF (fun i => s (32 + i)) ((i : Int)) (s 1).toNat ≠ -9))) (s 0).toNat))), (0, .ref (a 0)), (1, .int (iI (x))), (2, .int (iI (y)))]) hx hb dX4_lotToDraw_35 rfl hl (by decide) rfl (fun ls hl => ?_)
        refine lv_aload_n hx hb dX4_lotToDraw_36 rfl (lv_at hl 1 rfl) ?_
        refine Vg3 hx hb hts hin hown hK hP (by decide +kernel) dX4_lotToDraw_37 ?_
        refine lv_iload_n hx hb dX4_lotToDraw_40 rfl (lv_at hl 2 rfl) ?_
        refine p_callV (v := .int (iI (b2i (seatF (fun i => s (32 + i)) x (s 1).toNat ≠ -9)))) (ci := 0) (n := 1) (As := [.int (iI (x))]) (rest := []) ⟨hx, hb, hml, hown, hts⟩ hK (kX0_has l D cI cV (a 6) (a 7) (s 1) (fun i => s (32 + i)) x (by omega) (by omega) (fun k => hbs _)) (vil_old hP) rfl rfl gX4_lotToDraw_X0_has rfl (by decide +kernel) ⟨Nat.le_of_ble_eq_true rfl, Nat.le_of_ble_eq_true rfl⟩ rfl hl.1 (Nat.le_of_ble_eq_true rfl) dX4_lotToDraw_41 ⟨Nat.zero_le _, Nat.zero_le _⟩ rfl ?_
        refine j_bne (tgt := 51) hx hb dX4_lotToDraw_44 (by decide) (fun c4 => ?_) (fun c4 => ?_)
        · refine j_bi hx hb dX4_lotToDraw_51 rfl ?_
          exact p_iret hx hb hr hlocks (by ((try split) <;> (try split) <;> (try split)) <;> first | omega | (exfalso; omega)) dX4_lotToDraw_53
        · refine lv_iload_n hx hb dX4_lotToDraw_47 rfl (lv_at hl 0 rfl) ?_
          refine j_zgt (tgt := 54) hx hb (by omega) dX4_lotToDraw_48 (by decide) (fun c5 => ?_) (fun c5 => ?_)
          · refine lv_aload_n hx hb dX4_lotToDraw_54 rfl (lv_at hl 1 rfl) ?_
            refine lv_iload_n hx hb dX4_lotToDraw_55 rfl (lv_at hl 2 rfl) ?_
            refine p_callV (v := .int (iI (sm (fun i => b2i (¬ (seatF (fun i => s (32 + i)) ((i : Int)) (s 1).toNat ≠ -9))) x.toNat))) (ci := 4) (n := 1) (As := [.int (iI (x))]) (rest := []) ⟨hx, hb, hml, hown, hts⟩ hK (kX4_candidatesBefore l D cI cV a s nz nw x hV (by omega)) hP rfl rfl gX4_lotToDraw_X4_candidatesBefore rfl (by decide +kernel) ⟨Nat.le_of_ble_eq_true rfl, Nat.le_of_ble_eq_true rfl⟩ rfl hl.1 (Nat.le_of_ble_eq_true rfl) dX4_lotToDraw_56 ⟨Nat.zero_le _, Nat.zero_le _⟩ rfl ?_
            have f41 := sm_rg (f := (fun i => b2i (¬ (seatF (fun i => s (32 + i)) ((i : Int)) (s 1).toNat ≠ -9)))) (fun k => b2i_rg) (x.toNat)
            refine lv_istore (lv' := [(4, .int (iI (sm (fun i => b2i (¬ (seatF (fun i => s (32 + i)) ((i : Int)) (s 1).toNat ≠ -9))) x.toNat))), (3, .int (iI (sm (fun i => b2i (¬ (seatF (fun i => s (32 + i)) ((i : Int)) (s 1).toNat ≠ -9))) (s 0).toNat))), (0, .ref (a 0)), (1, .int (iI (x))), (2, .int (iI (y)))]) hx hb dX4_lotToDraw_59 hl (by decide) rfl (fun ls hl => ?_)
            refine j_c hx hb dX4_lotToDraw_61 ?_
            refine lv_istore (lv' := [(5, .int (iI (0))), (4, .int (iI (sm (fun i => b2i (¬ (seatF (fun i => s (32 + i)) ((i : Int)) (s 1).toNat ≠ -9))) x.toNat))), (3, .int (iI (sm (fun i => b2i (¬ (seatF (fun i => s (32 + i)) ((i : Int)) (s 1).toNat ≠ -9))) (s 0).toNat))), (0, .ref (a 0)), (1, .int (iI (x))), (2, .int (iI (y)))]) hx hb dX4_lotToDraw_62 hl (by decide) rfl (fun ls hl => ?_)
            have LP64 : ∀ (fu : Nat) (j : Nat) (x5 : Int), x5 = (j : Int) → ((j : Int) ≤ 65536 ∧ seatF (fun i => (((i : Int)) * 25173 + 13849) % 65536 % sm (fun i => b2i (¬ (seatF (fun i => s (32 + i)) ((i : Int)) (s 1).toNat ≠ -9))) (s 0).toNat) (sm (fun i => b2i (¬ (seatF (fun i => s (32 + i)) ((i : Int)) (s 1).toNat ≠ -9))) x.toNat) j = -9) → 65536 - j < fu → ∀ ls : Array Slot, lv_has ls 6 [(5, .int (iI (x5))), (4, .int (iI (sm (fun i => b2i (¬ (seatF (fun i => s (32 + i)) ((i : Int)) (s 1).toNat ≠ -9))) x.toNat))), (3, .int (iI (sm (fun i => b2i (¬ (seatF (fun i => s (32 + i)) ((i : Int)) (s 1).toNat ≠ -9))) (s 0).toNat))), (0, .ref (a 0)), (1, .int (iI (x))), (2, .int (iI (y)))] → W p l e (headSpec wsX4_lotToDraw (rmK 4 86)).room s0 m ([.ref (a 0), .int (iI (x)), .int (iI (y))] : List Value).toArray below meth c s0.heap [] 0 0 (MQ below (pQ (some (.int (iI (if (0 ≤ x ∧ x < s 0) ∧ (0 ≤ y ∧ y < s 1) then (if s 5 ≠ -9 then -2 else if (seatF (fun i => s (32 + i)) (x) (s 1).toNat ≠ -9) ∨ sm (fun i => b2i (¬ (seatF (fun i => s (32 + i)) ((i : Int)) (s 1).toNat ≠ -9))) (s 0).toNat ≤ 0 then -9 else seatF (fun i => (((i : Int)) * 25173 + 13849) % 65536 % sm (fun i => b2i (¬ (seatF (fun i => s (32 + i)) ((i : Int)) (s 1).toNat ≠ -9))) (s 0).toNat) (sm (fun i => b2i (¬ (seatF (fun i => s (32 + i)) ((i : Int)) (s 1).toNat ≠ -9))) x.toNat) 65536) else -1))))) ([.ref (a 0), .int (iI (x)), .int (iI (y))] : List Value).toArray s0 0 0 (fun _ => False)) (F0 m 64 ls []) := by
              intro fu
              induction fu with
              | zero =>
                intros
                omega
              | succ fu ih =>
                intro j x5 ex5 hinv hmeas  ls hl
                subst ex5
                have hP0 : 0 ≤ (((j : Int)) * 25173 + 13849) % 65536 % sm (fun i => b2i (¬ (seatF (fun i => s (32 + i)) ((i : Int)) (s 1).toNat ≠ -9))) (s 0).toNat := Int.emod_nonneg _ (by omega)
                have hP1 : (((j : Int)) * 25173 + 13849) % 65536 % sm (fun i => b2i (¬ (seatF (fun i => s (32 + i)) ((i : Int)) (s 1).toNat ≠ -9))) (s 0).toNat < sm (fun i => b2i (¬ (seatF (fun i => s (32 + i)) ((i : Int)) (s 1).toNat ≠ -9))) (s 0).toNat := Int.emod_lt_of_pos _ (by omega)
                refine lv_iload hx hb dX4_lotToDraw_64 (lv_at hl 0 rfl) ?_
                refine j_ldc (n := 65536) hx hb hown (hts (.constant RX4 89 65536) (by decide +kernel)) rfl dX4_lotToDraw_66 ?_
                refine j_ige (tgt := 92) hx hb (by omega) (by omega) dX4_lotToDraw_68 (by decide) (fun c6 => ?_) (fun c6 => ?_)
                · refine j_bi hx hb dX4_lotToDraw_92 rfl ?_
                  exact p_iret hx hb hr hlocks (by rw [if_pos (by omega), if_neg (by omega), if_neg (by omega)]; have h2 := hinv.2; rw [show j = 65536 from by omega] at h2; exact h2.symm) dX4_lotToDraw_94
                · refine lv_iload hx hb dX4_lotToDraw_71 (lv_at hl 0 rfl) ?_
                  refine p_callS (v := .int (iI (((j : Int) * 25173 + 13849) % 65536))) (n := 1) (w := []) (As := [.int (iI ((j : Int)))]) (rest := []) ⟨hx, hb, hml, hown, hts⟩ hK (kX2_after l D cI cV (j : Int) (by omega)) (fun k q h => by simp at h) gX4_lotToDraw_X2_after rfl (by decide +kernel) ⟨Nat.le_of_ble_eq_true rfl, Nat.le_of_ble_eq_true rfl⟩ rfl hl.1 (Nat.le_of_ble_eq_true rfl) dX4_lotToDraw_73 ⟨Nat.zero_le _, Nat.zero_le _⟩ rfl ?_
                  refine lv_iload_n hx hb dX4_lotToDraw_76 rfl (lv_at hl 2 rfl) ?_
                  refine j_rem hx hb (by omega) (by omega) dX4_lotToDraw_77 ?_
                  refine lv_iload hx hb dX4_lotToDraw_78 (lv_at hl 1 rfl) ?_
                  refine j_ine (tgt := 86) hx hb (by omega) (by omega) dX4_lotToDraw_80 (by decide) (fun c7 => ?_) (fun c7 => ?_)
                  · refine lv_iinc (v := iI ((j : Int) + 1)) (lv' := [(5, .int (iI ((j : Int) + 1))), (4, .int (iI (sm (fun i => b2i (¬ (seatF (fun i => s (32 + i)) ((i : Int)) (s 1).toNat ≠ -9))) x.toNat))), (3, .int (iI (sm (fun i => b2i (¬ (seatF (fun i => s (32 + i)) ((i : Int)) (s 1).toNat ≠ -9))) (s 0).toNat))), (0, .ref (a 0)), (1, .int (iI (x))), (2, .int (iI (y)))]) hx hb dX4_lotToDraw_86 hl (k := 0) rfl (iI_add _ _) (by decide) rfl (fun ls hl => ?_)
                    refine lv_goto (tgt := 64) hx hb dX4_lotToDraw_89 (by decide) ?_
                    exact ih (j + 1) ((j : Int) + 1) (by first | rfl | omega | (simp only [sm, b2i]; (repeat' split) <;> first | rfl | omega | (exfalso; omega) | (exfalso; simp_all))) (by exact ⟨by omega, seatF_step hinv.2 (by assumption)⟩) (by omega) ls (lv_sub hl [0, 1, 2, 3, 4, 5] rfl)
                  · refine lv_iload hx hb dX4_lotToDraw_83 (lv_at hl 0 rfl) ?_
                    exact p_iret hx hb hr hlocks (by rw [if_pos (by omega), if_neg (by omega), if_neg (by omega)]; exact (seatF_found hinv.2 (by assumption) (by omega)).symm) dX4_lotToDraw_85
            exact LP64 (_) 0 0 (by first | rfl | omega) (by exact ⟨by omega, rfl⟩) (by exact Nat.lt_succ_self _) ls (lv_sub hl [0, 1, 2, 3, 4, 5] rfl)
          · refine j_bi hx hb dX4_lotToDraw_51 rfl ?_
            exact p_iret hx hb hr hlocks (by ((try split) <;> (try split) <;> (try split)) <;> first | omega | (exfalso; omega)) dX4_lotToDraw_53
      · refine j_bi hx hb dX4_lotToDraw_28 rfl ?_
        exact p_iret hx hb hr hlocks (by ((try split) <;> (try split) <;> (try split)) <;> first | omega | (exfalso; omega)) dX4_lotToDraw_30
    · refine j_c hx hb dX4_lotToDraw_19 ?_
      exact p_iret hx hb hr hlocks (by ((try split) <;> (try split) <;> (try split)) <;> first | omega | (exfalso; omega)) dX4_lotToDraw_20
set_option maxHeartbeats 4000000 in
set_option maxRecDepth 100000 in
theorem kX4_tally (l : Launch) (D : va_G) (cI cV : ClassId) (a : Nat → Nat) (s : Nat → Int) (nz : Int) (nw : Nat → Int) (x : Int) (hV : VI s nz nw) (r_x : rg x) : PM l yX4_tally wsX4_tally 2 43 [.ref (a 0), .int (iI (x))] (vilw cI a s nz nw) D cI cV (some (.int (iI (if x = 0 then (s 0) else (if x = 1 then (sm (fun i => s (8 + i)) (s 0).toNat) else (if x = 2 then (s 1) else (if x = 3 then (s 2) else (if x = 4 then (s 3) else (if x = 5 then (s 4) else (if x = 6 then (if s 5 ≠ -9 then 1 else 0) else (if x = 7 then (s 6) else (if x = 8 then (s 7) else (if x = 9 then (sm (fun i => b2i ((0 ≤ (i : Int) ∧ (i : Int) < s 7) ∧ s (224 + 5 * (i : Int).toNat) ≠ s (225 + 5 * (i : Int).toNat))) (s 7).toNat) else (-1)))))))))))))) := by
  refine PM.of (cc := cX4_tally) (maxL := 2) (ret := (some .int)) (by decide) rfl (Nat.le_of_ble_eq_true rfl) ?_
  intro p e s0 m below meth c ls hx hb hr hts hown hlocks hml hP hK hl
  have hown : s0.vm.findClass RX4 = some m.cls := hown
  have hin : ∀ w ∈ u_ws RX4 TX4 13, w ∈ wsX4_tally := by decide +kernel
  have hl : lv_has ls 2 [(0, .ref (a 0)), (1, .int (iI (x)))] := hl
  obtain ⟨hbs, hbn, h00, h01, h10, h11, hz0, hz1, h30, h31, h40, h41, h70, h71, h60, h61⟩ := id hV
  have hb5 := hbs 5
  have hb2 := hbs 2
  refine lv_iload_n hx hb dX4_tally_0 rfl (lv_at hl 1 rfl) ?_
  by_cases c1 : x = 0
  · refine j_tin (k := 0) (off := 55) (tgt := 56) hx hb c1 (by decide) dX4_tally_1 (by decide) (by decide) (by decide) (by decide) ?_
    refine lv_aload_n hx hb dX4_tally_56 rfl (lv_at hl 0 rfl) ?_
    refine Vg0 hx hb hts hin hown hK hP (by decide +kernel) dX4_tally_57 ?_
    exact p_iret hx hb hr hlocks (by (repeat' split) <;> first | omega | rfl | (exfalso; omega)) dX4_tally_60
  by_cases c2 : x = 1
  · refine j_tin (k := 1) (off := 60) (tgt := 61) hx hb c2 (by decide) dX4_tally_1 (by decide) (by decide) (by decide) (by decide) ?_
    refine lv_aload_n hx hb dX4_tally_61 rfl (lv_at hl 0 rfl) ?_
    refine p_callV (v := .int (iI (sm (fun i => s (8 + i)) (s 0).toNat))) (ci := 4) (n := 0) (As := []) (rest := []) ⟨hx, hb, hml, hown, hts⟩ hK (kX4_presentVillagers l D cI cV a s nz nw hV) hP rfl rfl gX4_tally_X4_presentVillagers rfl (by decide +kernel) ⟨Nat.le_of_ble_eq_true rfl, Nat.le_of_ble_eq_true rfl⟩ rfl hl.1 (Nat.le_of_ble_eq_true rfl) dX4_tally_62 ⟨Nat.zero_le _, Nat.zero_le _⟩ rfl ?_
    exact p_iret hx hb hr hlocks (by (repeat' split) <;> first | omega | rfl | (exfalso; omega)) dX4_tally_65
  by_cases c3 : x = 2
  · refine j_tin (k := 2) (off := 65) (tgt := 66) hx hb c3 (by decide) dX4_tally_1 (by decide) (by decide) (by decide) (by decide) ?_
    refine lv_aload_n hx hb dX4_tally_66 rfl (lv_at hl 0 rfl) ?_
    refine Vg3 hx hb hts hin hown hK hP (by decide +kernel) dX4_tally_67 ?_
    refine p_callV (v := .int (iI ((s 1)))) (ci := 0) (n := 0) (As := []) (rest := []) ⟨hx, hb, hml, hown, hts⟩ hK (kX0_size l D cI cV (a 6) (a 7) (s 1) (fun i => s (32 + i))) (vil_old hP) rfl rfl gX4_tally_X0_size rfl (by decide +kernel) ⟨Nat.le_of_ble_eq_true rfl, Nat.le_of_ble_eq_true rfl⟩ rfl hl.1 (Nat.le_of_ble_eq_true rfl) dX4_tally_70 ⟨Nat.zero_le _, Nat.zero_le _⟩ rfl ?_
    exact p_iret hx hb hr hlocks (by (repeat' split) <;> first | omega | rfl | (exfalso; omega)) dX4_tally_73
  by_cases c4 : x = 3
  · refine j_tin (k := 3) (off := 73) (tgt := 74) hx hb c4 (by decide) dX4_tally_1 (by decide) (by decide) (by decide) (by decide) ?_
    refine lv_aload_n hx hb dX4_tally_74 rfl (lv_at hl 0 rfl) ?_
    refine Vg5 hx hb hts hin hown hK hP (by decide +kernel) dX4_tally_75 ?_
    exact p_iret hx hb hr hlocks (by (repeat' split) <;> first | omega | rfl | (exfalso; omega)) dX4_tally_78
  by_cases c5 : x = 4
  · refine j_tin (k := 4) (off := 78) (tgt := 79) hx hb c5 (by decide) dX4_tally_1 (by decide) (by decide) (by decide) (by decide) ?_
    refine lv_aload_n hx hb dX4_tally_79 rfl (lv_at hl 0 rfl) ?_
    refine Vg8 hx hb hts hin hown hK hP (by decide +kernel) dX4_tally_80 ?_
    exact p_iret hx hb hr hlocks (by (repeat' split) <;> first | omega | rfl | (exfalso; omega)) dX4_tally_83
  by_cases c6 : x = 5
  · refine j_tin (k := 5) (off := 83) (tgt := 84) hx hb c6 (by decide) dX4_tally_1 (by decide) (by decide) (by decide) (by decide) ?_
    refine lv_aload_n hx hb dX4_tally_84 rfl (lv_at hl 0 rfl) ?_
    refine Vg9 hx hb hts hin hown hK hP (by decide +kernel) dX4_tally_85 ?_
    exact p_iret hx hb hr hlocks (by (repeat' split) <;> first | omega | rfl | (exfalso; omega)) dX4_tally_88
  by_cases c7 : x = 6
  · refine j_tin (k := 6) (off := 88) (tgt := 89) hx hb c7 (by decide) dX4_tally_1 (by decide) (by decide) (by decide) (by decide) ?_
    refine lv_aload_n hx hb dX4_tally_89 rfl (lv_at hl 0 rfl) ?_
    refine p_callV (v := .int (iI (b2i (s 5 ≠ -9)))) (ci := 4) (n := 0) (As := []) (rest := []) ⟨hx, hb, hml, hown, hts⟩ hK (kX4_isChanging l D cI cV a s nz nw hV) hP rfl rfl gX4_tally_X4_isChanging rfl (by decide +kernel) ⟨Nat.le_of_ble_eq_true rfl, Nat.le_of_ble_eq_true rfl⟩ rfl hl.1 (Nat.le_of_ble_eq_true rfl) dX4_tally_90 ⟨Nat.zero_le _, Nat.zero_le _⟩ rfl ?_
    refine j_beq (tgt := 100) hx hb dX4_tally_93 (by decide) (fun c8 => ?_) (fun c8 => ?_)
    · refine j_c hx hb dX4_tally_100 ?_
      exact p_iret hx hb hr hlocks (by (repeat' split) <;> first | omega | rfl | (exfalso; omega)) dX4_tally_101
    · refine j_c hx hb dX4_tally_96 ?_
      refine lv_goto (tgt := 101) hx hb dX4_tally_97 (by decide) ?_
      exact p_iret hx hb hr hlocks (by (repeat' split) <;> first | omega | rfl | (exfalso; omega)) dX4_tally_101
  by_cases c9 : x = 7
  · refine j_tin (k := 7) (off := 101) (tgt := 102) hx hb c9 (by decide) dX4_tally_1 (by decide) (by decide) (by decide) (by decide) ?_
    refine lv_aload_n hx hb dX4_tally_102 rfl (lv_at hl 0 rfl) ?_
    refine Vg7 hx hb hts hin hown hK hP (by decide +kernel) dX4_tally_103 ?_
    refine p_callV (v := .int (iI (s 6))) (ci := 2) (n := 0) (As := []) (rest := []) ⟨hx, hb, hml, hown, hts⟩ hK (kX2_state l D cI cV a s) (vil_lot hP) rfl rfl gX4_tally_X2_state rfl (by decide +kernel) ⟨Nat.le_of_ble_eq_true rfl, Nat.le_of_ble_eq_true rfl⟩ rfl hl.1 (Nat.le_of_ble_eq_true rfl) dX4_tally_106 ⟨Nat.zero_le _, Nat.zero_le _⟩ rfl ?_
    exact p_iret hx hb hr hlocks (by (repeat' split) <;> first | omega | rfl | (exfalso; omega)) dX4_tally_109
  by_cases c10 : x = 8
  · refine j_tin (k := 8) (off := 109) (tgt := 110) hx hb c10 (by decide) dX4_tally_1 (by decide) (by decide) (by decide) (by decide) ?_
    refine lv_aload_n hx hb dX4_tally_110 rfl (lv_at hl 0 rfl) ?_
    refine Vg7 hx hb hts hin hown hK hP (by decide +kernel) dX4_tally_111 ?_
    refine p_callV (v := .int (iI (s 7))) (ci := 2) (n := 0) (As := []) (rest := []) ⟨hx, hb, hml, hown, hts⟩ hK (kX2_draws l D cI cV a s) (vil_lot hP) rfl rfl gX4_tally_X2_draws rfl (by decide +kernel) ⟨Nat.le_of_ble_eq_true rfl, Nat.le_of_ble_eq_true rfl⟩ rfl hl.1 (Nat.le_of_ble_eq_true rfl) dX4_tally_114 ⟨Nat.zero_le _, Nat.zero_le _⟩ rfl ?_
    exact p_iret hx hb hr hlocks (by (repeat' split) <;> first | omega | rfl | (exfalso; omega)) dX4_tally_117
  by_cases c11 : x = 9
  · refine j_tin (k := 9) (off := 117) (tgt := 118) hx hb c11 (by decide) dX4_tally_1 (by decide) (by decide) (by decide) (by decide) ?_
    refine lv_aload_n hx hb dX4_tally_118 rfl (lv_at hl 0 rfl) ?_
    refine Vg7 hx hb hts hin hown hK hP (by decide +kernel) dX4_tally_119 ?_
    refine p_callV (v := .int (iI (sm (fun i => b2i ((0 ≤ (i : Int) ∧ (i : Int) < s 7) ∧ s (224 + 5 * (i : Int).toNat) ≠ s (225 + 5 * (i : Int).toNat))) (s 7).toNat))) (ci := 2) (n := 0) (As := []) (rest := []) ⟨hx, hb, hml, hown, hts⟩ hK (kX2_forgedDraws l D cI cV a s hbs (by omega)) (vil_lot hP) rfl rfl gX4_tally_X2_forgedDraws rfl (by decide +kernel) ⟨Nat.le_of_ble_eq_true rfl, Nat.le_of_ble_eq_true rfl⟩ rfl hl.1 (Nat.le_of_ble_eq_true rfl) dX4_tally_122 ⟨Nat.zero_le _, Nat.zero_le _⟩ rfl ?_
    have f70 := sm_rg (f := (fun i => b2i ((0 ≤ (i : Int) ∧ (i : Int) < s 7) ∧ s (224 + 5 * (i : Int).toNat) ≠ s (225 + 5 * (i : Int).toNat)))) (fun k => b2i_rg) ((s 7).toNat)
    exact p_iret hx hb hr hlocks (by (repeat' split) <;> first | omega | rfl | (exfalso; omega)) dX4_tally_125
  refine j_tout (tgt := 126) hx hb (by omega) dX4_tally_1 (by omega) (by decide) ?_
  refine j_c hx hb dX4_tally_126 ?_
  exact p_iret hx hb hr hlocks (by (repeat' split) <;> first | omega | rfl | (exfalso; omega)) dX4_tally_127
