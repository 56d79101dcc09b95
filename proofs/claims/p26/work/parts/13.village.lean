/-- what is known of a village's numbers -/
def VI (s : Nat → Int) (nz : Int) (nw : Nat → Int) : Prop := (∀ k, bd (s k)) ∧ (∀ k, bd (nw k)) ∧ 0 ≤ s 0 ∧ s 0 ≤ 12 ∧ 0 ≤ s 1 ∧ s 1 ≤ 5 ∧ 0 ≤ nz ∧ nz ≤ 5 ∧ 0 ≤ s 3 ∧ s 3 ≤ 60 ∧ 0 ≤ s 4 ∧ s 4 ≤ s 3 ∧ 0 ≤ s 7 ∧ s 7 ≤ 60 ∧ 0 ≤ s 6 ∧ s 6 < 65536
theorem vil_old {D : va_G} {cI : ClassId} {a : Nat → Nat} {s nw : Nat → Int} {nz : Int} {H : Heap} (h : va_P D vwCl (vilw cI a s nz nw) H) : va_P D vwCl (couw cI (a 6) (a 7) (s 1) (fun i => s (32 + i))) H := va_P.mid (pre := vilo cI a s) h
theorem vil_new {D : va_G} {cI : ClassId} {a : Nat → Nat} {s nw : Nat → Int} {nz : Int} {H : Heap} (h : va_P D vwCl (vilw cI a s nz nw) H) : va_P D vwCl (couw cI (a 8) (a 9) nz nw) H := va_P.mid (pre := vilo cI a s ++ couw cI (a 6) (a 7) (s 1) (fun i => s (32 + i))) (post := lotw cI a s) (by rw [List.append_assoc]; exact h)
theorem vil_lot {D : va_G} {cI : ClassId} {a : Nat → Nat} {s nw : Nat → Int} {nz : Int} {H : Heap} (h : va_P D vwCl (vilw cI a s nz nw) H) : va_P D vwCl (lotw cI a s) H := va_P.mid (pre := vilo cI a s ++ (couw cI (a 6) (a 7) (s 1) (fun i => s (32 + i)) ++ couw cI (a 8) (a 9) nz nw)) (post := []) (by rw [List.append_nil, List.append_assoc, List.append_assoc]; exact h)
set_option maxHeartbeats 4000000 in
set_option maxRecDepth 100000 in
theorem kX4_isVillager (l : Launch) (D : va_G) (cI cV : ClassId) (a : Nat → Nat) (s : Nat → Int) (nz : Int) (nw : Nat → Int) (x : Int) (hV : VI s nz nw) (r_x : rg x) : PM l yX4_isVillager wsX4_isVillager 0 0 [.ref (a 0), .int (iI (x))] (vilw cI a s nz nw) D cI cV (some (.int (iI (b2i (0 ≤ (x) ∧ (x) < s 0))))) := by
  refine PM.of (cc := cX4_isVillager) (maxL := 2) (ret := (some .boolean)) (by decide) rfl (Nat.le_of_ble_eq_true rfl) ?_
  intro p e s0 m below meth c ls hx hb hr hts hown hlocks hml hP hK hl
  have hown : s0.vm.findClass RX4 = some m.cls := hown
  have hin : ∀ w ∈ u_ws RX4 TX4 13, w ∈ wsX4_isVillager := by decide +kernel
  have hl : lv_has ls 2 [(0, .ref (a 0)), (1, .int (iI (x)))] := hl
  obtain ⟨hbs, hbn, h00, h01, h10, h11, hz0, hz1, h30, h31, h40, h41, h70, h71, h60, h61⟩ := id hV
  have hb5 := hbs 5
  have hb2 := hbs 2
  refine lv_iload_n hx hb dX4_isVillager_0 rfl (lv_at hl 1 rfl) ?_
  refine j_zlt (tgt := 16) hx hb (by omega) dX4_isVillager_1 (by decide) (fun c1 => ?_) (fun c1 => ?_)
  · refine j_c hx hb dX4_isVillager_16 ?_
    exact p_zret hx hb hr hlocks (by first | decide | exact b2i_or) (by first | rfl | omega | exact (b2i_t (by omega)).symm | exact (b2i_f (by omega)).symm | (simp only [b2i]; (repeat' split) <;> first | rfl | omega | (exfalso; omega))) dX4_isVillager_17
  · refine lv_iload_n hx hb dX4_isVillager_4 rfl (lv_at hl 1 rfl) ?_
    refine lv_aload_n hx hb dX4_isVillager_5 rfl (lv_at hl 0 rfl) ?_
    refine Vg0 hx hb hts hin hown hK hP (by decide +kernel) dX4_isVillager_6 ?_
    refine j_ige (tgt := 16) hx hb (by omega) (by omega) dX4_isVillager_9 (by decide) (fun c2 => ?_) (fun c2 => ?_)
    · refine j_c hx hb dX4_isVillager_16 ?_
      exact p_zret hx hb hr hlocks (by first | decide | exact b2i_or) (by first | rfl | omega | exact (b2i_t (by omega)).symm | exact (b2i_f (by omega)).symm | (simp only [b2i]; (repeat' split) <;> first | rfl | omega | (exfalso; omega))) dX4_isVillager_17
    · refine j_c hx hb dX4_isVillager_12 ?_
      refine lv_goto (tgt := 17) hx hb dX4_isVillager_13 (by decide) ?_
      exact p_zret hx hb hr hlocks (by first | decide | exact b2i_or) (by first | rfl | omega | exact (b2i_t (by omega)).symm | exact (b2i_f (by omega)).symm | (simp only [b2i]; (repeat' split) <;> first | rfl | omega | (exfalso; omega))) dX4_isVillager_17
set_option maxHeartbeats 4000000 in
set_option maxRecDepth 100000 in
theorem kX4_isEntry (l : Launch) (D : va_G) (cI cV : ClassId) (a : Nat → Nat) (s : Nat → Int) (nz : Int) (nw : Nat → Int) (x : Int) (hV : VI s nz nw) (r_x : rg x) : PM l yX4_isEntry wsX4_isEntry 0 0 [.ref (a 0), .int (iI (x))] (vilw cI a s nz nw) D cI cV (some (.int (iI (b2i (0 ≤ x ∧ x < s 3))))) := by
  refine PM.of (cc := cX4_isEntry) (maxL := 2) (ret := (some .boolean)) (by decide) rfl (Nat.le_of_ble_eq_true rfl) ?_
  intro p e s0 m below meth c ls hx hb hr hts hown hlocks hml hP hK hl
  have hown : s0.vm.findClass RX4 = some m.cls := hown
  have hin : ∀ w ∈ u_ws RX4 TX4 13, w ∈ wsX4_isEntry := by decide +kernel
  have hl : lv_has ls 2 [(0, .ref (a 0)), (1, .int (iI (x)))] := hl
  obtain ⟨hbs, hbn, h00, h01, h10, h11, hz0, hz1, h30, h31, h40, h41, h70, h71, h60, h61⟩ := id hV
  have hb5 := hbs 5
  have hb2 := hbs 2
  refine lv_iload_n hx hb dX4_isEntry_0 rfl (lv_at hl 1 rfl) ?_
  refine j_zlt (tgt := 16) hx hb (by omega) dX4_isEntry_1 (by decide) (fun c1 => ?_) (fun c1 => ?_)
  · refine j_c hx hb dX4_isEntry_16 ?_
    exact p_zret hx hb hr hlocks (by first | decide | exact b2i_or) (by first | rfl | omega | exact (b2i_t (by omega)).symm | exact (b2i_f (by omega)).symm | (simp only [b2i]; (repeat' split) <;> first | rfl | omega | (exfalso; omega))) dX4_isEntry_17
  · refine lv_iload_n hx hb dX4_isEntry_4 rfl (lv_at hl 1 rfl) ?_
    refine lv_aload_n hx hb dX4_isEntry_5 rfl (lv_at hl 0 rfl) ?_
    refine Vg8 hx hb hts hin hown hK hP (by decide +kernel) dX4_isEntry_6 ?_
    refine j_ige (tgt := 16) hx hb (by omega) (by omega) dX4_isEntry_9 (by decide) (fun c2 => ?_) (fun c2 => ?_)
    · refine j_c hx hb dX4_isEntry_16 ?_
      exact p_zret hx hb hr hlocks (by first | decide | exact b2i_or) (by first | rfl | omega | exact (b2i_t (by omega)).symm | exact (b2i_f (by omega)).symm | (simp only [b2i]; (repeat' split) <;> first | rfl | omega | (exfalso; omega))) dX4_isEntry_17
    · refine j_c hx hb dX4_isEntry_12 ?_
      refine lv_goto (tgt := 17) hx hb dX4_isEntry_13 (by decide) ?_
      exact p_zret hx hb hr hlocks (by first | decide | exact b2i_or) (by first | rfl | omega | exact (b2i_t (by omega)).symm | exact (b2i_f (by omega)).symm | (simp only [b2i]; (repeat' split) <;> first | rfl | omega | (exfalso; omega))) dX4_isEntry_17
set_option maxHeartbeats 4000000 in
set_option maxRecDepth 100000 in
theorem kX4_isChanging (l : Launch) (D : va_G) (cI cV : ClassId) (a : Nat → Nat) (s : Nat → Int) (nz : Int) (nw : Nat → Int)  (hV : VI s nz nw) : PM l yX4_isChanging wsX4_isChanging 0 0 [.ref (a 0)] (vilw cI a s nz nw) D cI cV (some (.int (iI (b2i (s 5 ≠ -9))))) := by
  refine PM.of (cc := cX4_isChanging) (maxL := 1) (ret := (some .boolean)) (by decide) rfl (Nat.le_of_ble_eq_true rfl) ?_
  intro p e s0 m below meth c ls hx hb hr hts hown hlocks hml hP hK hl
  have hown : s0.vm.findClass RX4 = some m.cls := hown
  have hin : ∀ w ∈ u_ws RX4 TX4 13, w ∈ wsX4_isChanging := by decide +kernel
  have hl : lv_has ls 1 [(0, .ref (a 0))] := hl
  obtain ⟨hbs, hbn, h00, h01, h10, h11, hz0, hz1, h30, h31, h40, h41, h70, h71, h60, h61⟩ := id hV
  have hb5 := hbs 5
  have hb2 := hbs 2
  refine lv_aload_n hx hb dX4_isChanging_0 rfl (lv_at hl 0 rfl) ?_
  refine Vg6 hx hb hts hin hown hK hP (by decide +kernel) dX4_isChanging_1 ?_
  refine j_bi hx hb dX4_isChanging_4 rfl ?_
  refine j_ieq (tgt := 13) hx hb (by omega) (by omega) dX4_isChanging_6 (by decide) (fun c1 => ?_) (fun c1 => ?_)
  · refine j_c hx hb dX4_isChanging_13 ?_
    exact p_zret hx hb hr hlocks (by first | decide | exact b2i_or) (by first | rfl | omega | exact (b2i_t (by omega)).symm | exact (b2i_f (by omega)).symm | (simp only [b2i]; (repeat' split) <;> first | rfl | omega | (exfalso; omega))) dX4_isChanging_14
  · refine j_c hx hb dX4_isChanging_9 ?_
    refine lv_goto (tgt := 14) hx hb dX4_isChanging_10 (by decide) ?_
    exact p_zret hx hb hr hlocks (by first | decide | exact b2i_or) (by first | rfl | omega | exact (b2i_t (by omega)).symm | exact (b2i_f (by omega)).symm | (simp only [b2i]; (repeat' split) <;> first | rfl | omega | (exfalso; omega))) dX4_isChanging_14
set_option maxHeartbeats 4000000 in
set_option maxRecDepth 100000 in
theorem kX4_isElder (l : Launch) (D : va_G) (cI cV : ClassId) (a : Nat → Nat) (s : Nat → Int) (nz : Int) (nw : Nat → Int) (x : Int) (hV : VI s nz nw) (r_x : rg x) : PM l yX4_isElder wsX4_isElder 2 43 [.ref (a 0), .int (iI (x))] (vilw cI a s nz nw) D cI cV (some (.int (iI (b2i ((seatF (fun i => s (32 + i)) (x) (s 1).toNat ≠ -9) ∨ (seatF nw (x) nz.toNat ≠ -9)))))) := by
  refine PM.of (cc := cX4_isElder) (maxL := 2) (ret := (some .boolean)) (by decide) rfl (Nat.le_of_ble_eq_true rfl) ?_
  intro p e s0 m below meth c ls hx hb hr hts hown hlocks hml hP hK hl
  have hown : s0.vm.findClass RX4 = some m.cls := hown
  have hin : ∀ w ∈ u_ws RX4 TX4 13, w ∈ wsX4_isElder := by decide +kernel
  have hl : lv_has ls 2 [(0, .ref (a 0)), (1, .int (iI (x)))] := hl
  obtain ⟨hbs, hbn, h00, h01, h10, h11, hz0, hz1, h30, h31, h40, h41, h70, h71, h60, h61⟩ := id hV
  have hb5 := hbs 5
  have hb2 := hbs 2
  refine lv_aload_n hx hb dX4_isElder_0 rfl (lv_at hl 0 rfl) ?_
  refine Vg3 hx hb hts hin hown hK hP (by decide +kernel) dX4_isElder_1 ?_
  refine lv_iload_n hx hb dX4_isElder_4 rfl (lv_at hl 1 rfl) ?_
  refine p_callV (v := .int (iI (b2i (seatF (fun i => s (32 + i)) x (s 1).toNat ≠ -9)))) (ci := 0) (n := 1) (As := [.int (iI (x))]) (rest := []) ⟨hx, hb, hml, hown, hts⟩ hK (kX0_has l D cI cV (a 6) (a 7) (s 1) (fun i => s (32 + i)) x (by omega) (by omega) (fun k => hbs _)) (vil_old hP) rfl rfl gX4_isElder_X0_has rfl (by decide +kernel) ⟨Nat.le_of_ble_eq_true rfl, Nat.le_of_ble_eq_true rfl⟩ rfl hl.1 (Nat.le_of_ble_eq_true rfl) dX4_isElder_5 ⟨Nat.zero_le _, Nat.zero_le _⟩ rfl ?_
  refine j_bne (tgt := 22) hx hb dX4_isElder_8 (by decide) (fun c1 => ?_) (fun c1 => ?_)
  · refine j_c hx hb dX4_isElder_22 ?_
    refine lv_goto (tgt := 27) hx hb dX4_isElder_23 (by decide) ?_
    exact p_zret hx hb hr hlocks (by first | decide | exact b2i_or) (by first | rfl | omega | exact (b2i_t (by omega)).symm | exact (b2i_f (by omega)).symm | (simp only [b2i]; (repeat' split) <;> first | rfl | omega | (exfalso; omega))) dX4_isElder_27
  · refine lv_aload_n hx hb dX4_isElder_11 rfl (lv_at hl 0 rfl) ?_
    refine Vg4 hx hb hts hin hown hK hP (by decide +kernel) dX4_isElder_12 ?_
    refine lv_iload_n hx hb dX4_isElder_15 rfl (lv_at hl 1 rfl) ?_
    refine p_callV (v := .int (iI (b2i (seatF nw x nz.toNat ≠ -9)))) (ci := 0) (n := 1) (As := [.int (iI (x))]) (rest := []) ⟨hx, hb, hml, hown, hts⟩ hK (kX0_has l D cI cV (a 8) (a 9) nz nw x (by omega) (by omega) (fun k => hbn _)) (vil_new hP) rfl rfl gX4_isElder_X0_has rfl (by decide +kernel) ⟨Nat.le_of_ble_eq_true rfl, Nat.le_of_ble_eq_true rfl⟩ rfl hl.1 (Nat.le_of_ble_eq_true rfl) dX4_isElder_16 ⟨Nat.zero_le _, Nat.zero_le _⟩ rfl ?_
    refine j_beq (tgt := 26) hx hb dX4_isElder_19 (by decide) (fun c2 => ?_) (fun c2 => ?_)
    · refine j_c hx hb dX4_isElder_26 ?_
      exact p_zret hx hb hr hlocks (by first | decide | exact b2i_or) (by first | rfl | omega | exact (b2i_t (by omega)).symm | exact (b2i_f (by omega)).symm | (simp only [b2i]; (repeat' split) <;> first | rfl | omega | (exfalso; omega))) dX4_isElder_27
    · refine j_c hx hb dX4_isElder_22 ?_
      refine lv_goto (tgt := 27) hx hb dX4_isElder_23 (by decide) ?_
      exact p_zret hx hb hr hlocks (by first | decide | exact b2i_or) (by first | rfl | omega | exact (b2i_t (by omega)).symm | exact (b2i_f (by omega)).symm | (simp only [b2i]; (repeat' split) <;> first | rfl | omega | (exfalso; omega))) dX4_isElder_27
set_option maxHeartbeats 4000000 in
set_option maxRecDepth 100000 in
theorem kX4_isPresent (l : Launch) (D : va_G) (cI cV : ClassId) (a : Nat → Nat) (s : Nat → Int) (nz : Int) (nw : Nat → Int) (x : Int) (hV : VI s nz nw) (r_x : rg x) : PM l yX4_isPresent wsX4_isPresent 1 21 [.ref (a 0), .int (iI (x))] (vilw cI a s nz nw) D cI cV (some (.int (iI (b2i ((0 ≤ (x) ∧ (x) < s 0) ∧ s (8 + (x).toNat) = 1))))) := by
  refine PM.of (cc := cX4_isPresent) (maxL := 2) (ret := (some .boolean)) (by decide) rfl (Nat.le_of_ble_eq_true rfl) ?_
  intro p e s0 m below meth c ls hx hb hr hts hown hlocks hml hP hK hl
  have hown : s0.vm.findClass RX4 = some m.cls := hown
  have hin : ∀ w ∈ u_ws RX4 TX4 13, w ∈ wsX4_isPresent := by decide +kernel
  have hl : lv_has ls 2 [(0, .ref (a 0)), (1, .int (iI (x)))] := hl
  obtain ⟨hbs, hbn, h00, h01, h10, h11, hz0, hz1, h30, h31, h40, h41, h70, h71, h60, h61⟩ := id hV
  have hb5 := hbs 5
  have hb2 := hbs 2
  refine lv_aload_n hx hb dX4_isPresent_0 rfl (lv_at hl 0 rfl) ?_
  refine lv_iload_n hx hb dX4_isPresent_1 rfl (lv_at hl 1 rfl) ?_
  refine p_callV (v := .int (iI (b2i (0 ≤ (x) ∧ (x) < s 0)))) (ci := 4) (n := 1) (As := [.int (iI (x))]) (rest := []) ⟨hx, hb, hml, hown, hts⟩ hK (kX4_isVillager l D cI cV a s nz nw x hV (by omega)) hP rfl rfl gX4_isPresent_X4_isVillager rfl (by decide +kernel) ⟨Nat.le_of_ble_eq_true rfl, Nat.le_of_ble_eq_true rfl⟩ rfl hl.1 (Nat.le_of_ble_eq_true rfl) dX4_isPresent_2 ⟨Nat.zero_le _, Nat.zero_le _⟩ rfl ?_
  refine j_beq (tgt := 22) hx hb dX4_isPresent_5 (by decide) (fun c1 => ?_) (fun c1 => ?_)
  · refine j_c hx hb dX4_isPresent_22 ?_
    exact p_zret hx hb hr hlocks (by first | decide | exact b2i_or) (by first | rfl | omega | exact (b2i_t (by omega)).symm | exact (b2i_f (by omega)).symm | (simp only [b2i]; (repeat' split) <;> first | rfl | omega | (exfalso; omega))) dX4_isPresent_23
  · refine lv_aload_n hx hb dX4_isPresent_8 rfl (lv_at hl 0 rfl) ?_
    refine Vg1 hx hb hts hin hown hK hP (by decide +kernel) dX4_isPresent_9 ?_
    refine lv_iload_n hx hb dX4_isPresent_12 rfl (lv_at hl 1 rfl) ?_
    refine Va0 hx hb hK hP (by omega) dX4_isPresent_13 ?_
    have r1_21 : bd (s (8 + x.toNat)) := hbs _
    refine j_c hx hb dX4_isPresent_14 ?_
    refine j_ine (tgt := 22) hx hb (by omega) (by omega) dX4_isPresent_15 (by decide) (fun c2 => ?_) (fun c2 => ?_)
    · refine j_c hx hb dX4_isPresent_22 ?_
      exact p_zret hx hb hr hlocks (by first | decide | exact b2i_or) (by first | rfl | omega | exact (b2i_t (by omega)).symm | exact (b2i_f (by omega)).symm | (simp only [b2i]; (repeat' split) <;> first | rfl | omega | (exfalso; omega))) dX4_isPresent_23
    · refine j_c hx hb dX4_isPresent_18 ?_
      refine lv_goto (tgt := 23) hx hb dX4_isPresent_19 (by decide) ?_
      exact p_zret hx hb hr hlocks (by first | decide | exact b2i_or) (by first | rfl | omega | exact (b2i_t (by omega)).symm | exact (b2i_f (by omega)).symm | (simp only [b2i]; (repeat' split) <;> first | rfl | omega | (exfalso; omega))) dX4_isPresent_23
set_option maxHeartbeats 4000000 in
set_option maxRecDepth 100000 in
theorem kX4_mayAct (l : Launch) (D : va_G) (cI cV : ClassId) (a : Nat → Nat) (s : Nat → Int) (nz : Int) (nw : Nat → Int) (x : Int) (hV : VI s nz nw) (r_x : rg x) : PM l yX4_mayAct wsX4_mayAct 3 64 [.ref (a 0), .int (iI (x))] (vilw cI a s nz nw) D cI cV (some (.int (iI (b2i (((seatF (fun i => s (32 + i)) (x) (s 1).toNat ≠ -9) ∨ (seatF nw (x) nz.toNat ≠ -9)) ∧ ((0 ≤ (x) ∧ (x) < s 0) ∧ s (8 + (x).toNat) = 1)))))) := by
  refine PM.of (cc := cX4_mayAct) (maxL := 2) (ret := (some .boolean)) (by decide) rfl (Nat.le_of_ble_eq_true rfl) ?_
  intro p e s0 m below meth c ls hx hb hr hts hown hlocks hml hP hK hl
  have hown : s0.vm.findClass RX4 = some m.cls := hown
  have hin : ∀ w ∈ u_ws RX4 TX4 13, w ∈ wsX4_mayAct := by decide +kernel
  have hl : lv_has ls 2 [(0, .ref (a 0)), (1, .int (iI (x)))] := hl
  obtain ⟨hbs, hbn, h00, h01, h10, h11, hz0, hz1, h30, h31, h40, h41, h70, h71, h60, h61⟩ := id hV
  have hb5 := hbs 5
  have hb2 := hbs 2
  refine lv_aload_n hx hb dX4_mayAct_0 rfl (lv_at hl 0 rfl) ?_
  refine lv_iload_n hx hb dX4_mayAct_1 rfl (lv_at hl 1 rfl) ?_
  refine p_callV (v := .int (iI (b2i ((seatF (fun i => s (32 + i)) (x) (s 1).toNat ≠ -9) ∨ (seatF nw (x) nz.toNat ≠ -9))))) (ci := 4) (n := 1) (As := [.int (iI (x))]) (rest := []) ⟨hx, hb, hml, hown, hts⟩ hK (kX4_isElder l D cI cV a s nz nw x hV (by omega)) hP rfl rfl gX4_mayAct_X4_isElder rfl (by decide +kernel) ⟨Nat.le_of_ble_eq_true rfl, Nat.le_of_ble_eq_true rfl⟩ rfl hl.1 (Nat.le_of_ble_eq_true rfl) dX4_mayAct_2 ⟨Nat.zero_le _, Nat.zero_le _⟩ rfl ?_
  refine j_beq (tgt := 20) hx hb dX4_mayAct_5 (by decide) (fun c1 => ?_) (fun c1 => ?_)
  · refine j_c hx hb dX4_mayAct_20 ?_
    exact p_zret hx hb hr hlocks (by first | decide | exact b2i_or) (by first | rfl | omega | exact (b2i_t (by omega)).symm | exact (b2i_f (by omega)).symm | (simp only [b2i]; (repeat' split) <;> first | rfl | omega | (exfalso; omega))) dX4_mayAct_21
  · refine lv_aload_n hx hb dX4_mayAct_8 rfl (lv_at hl 0 rfl) ?_
    refine lv_iload_n hx hb dX4_mayAct_9 rfl (lv_at hl 1 rfl) ?_
    refine p_callV (v := .int (iI (b2i ((0 ≤ (x) ∧ (x) < s 0) ∧ s (8 + (x).toNat) = 1)))) (ci := 4) (n := 1) (As := [.int (iI (x))]) (rest := []) ⟨hx, hb, hml, hown, hts⟩ hK (kX4_isPresent l D cI cV a s nz nw x hV (by omega)) hP rfl rfl gX4_mayAct_X4_isPresent rfl (by decide +kernel) ⟨Nat.le_of_ble_eq_true rfl, Nat.le_of_ble_eq_true rfl⟩ rfl hl.1 (Nat.le_of_ble_eq_true rfl) dX4_mayAct_10 ⟨Nat.zero_le _, Nat.zero_le _⟩ rfl ?_
    refine j_beq (tgt := 20) hx hb dX4_mayAct_13 (by decide) (fun c2 => ?_) (fun c2 => ?_)
    · refine j_c hx hb dX4_mayAct_20 ?_
      exact p_zret hx hb hr hlocks (by first | decide | exact b2i_or) (by first | rfl | omega | exact (b2i_t (by omega)).symm | exact (b2i_f (by omega)).symm | (simp only [b2i]; (repeat' split) <;> first | rfl | omega | (exfalso; omega))) dX4_mayAct_21
    · refine j_c hx hb dX4_mayAct_16 ?_
      refine lv_goto (tgt := 21) hx hb dX4_mayAct_17 (by decide) ?_
      exact p_zret hx hb hr hlocks (by first | decide | exact b2i_or) (by first | rfl | omega | exact (b2i_t (by omega)).symm | exact (b2i_f (by omega)).symm | (simp only [b2i]; (repeat' split) <;> first | rfl | omega | (exfalso; omega))) dX4_mayAct_21
set_option maxHeartbeats 4000000 in
set_option maxRecDepth 100000 in
theorem kX4_holds (l : Launch) (D : va_G) (cI cV : ClassId) (a : Nat → Nat) (s : Nat → Int) (nz : Int) (nw : Nat → Int) (x : Int) (y : Int) (hV : VI s nz nw) (r_x : rg x) (r_y : rg y) : PM l yX4_holds wsX4_holds 1 21 [.ref (a 0), .int (iI (x)), .int (iI (y))] (vilw cI a s nz nw) D cI cV (some (.int (iI (b2i ((0 ≤ (x) ∧ (x) < s 0) ∧ (y) < s (20 + (x).toNat)))))) := by
  refine PM.of (cc := cX4_holds) (maxL := 3) (ret := (some .boolean)) (by decide) rfl (Nat.le_of_ble_eq_true rfl) ?_
  intro p e s0 m below meth c ls hx hb hr hts hown hlocks hml hP hK hl
  have hown : s0.vm.findClass RX4 = some m.cls := hown
  have hin : ∀ w ∈ u_ws RX4 TX4 13, w ∈ wsX4_holds := by decide +kernel
  have hl : lv_has ls 3 [(0, .ref (a 0)), (1, .int (iI (x))), (2, .int (iI (y)))] := hl
  obtain ⟨hbs, hbn, h00, h01, h10, h11, hz0, hz1, h30, h31, h40, h41, h70, h71, h60, h61⟩ := id hV
  have hb5 := hbs 5
  have hb2 := hbs 2
  refine lv_aload_n hx hb dX4_holds_0 rfl (lv_at hl 0 rfl) ?_
  refine lv_iload_n hx hb dX4_holds_1 rfl (lv_at hl 1 rfl) ?_
  refine p_callV (v := .int (iI (b2i (0 ≤ (x) ∧ (x) < s 0)))) (ci := 4) (n := 1) (As := [.int (iI (x))]) (rest := []) ⟨hx, hb, hml, hown, hts⟩ hK (kX4_isVillager l D cI cV a s nz nw x hV (by omega)) hP rfl rfl gX4_holds_X4_isVillager rfl (by decide +kernel) ⟨Nat.le_of_ble_eq_true rfl, Nat.le_of_ble_eq_true rfl⟩ rfl hl.1 (Nat.le_of_ble_eq_true rfl) dX4_holds_2 ⟨Nat.zero_le _, Nat.zero_le _⟩ rfl ?_
  refine j_beq (tgt := 22) hx hb dX4_holds_5 (by decide) (fun c1 => ?_) (fun c1 => ?_)
  · refine j_c hx hb dX4_holds_22 ?_
    exact p_zret hx hb hr hlocks (by first | decide | exact b2i_or) (by first | rfl | omega | exact (b2i_t (by omega)).symm | exact (b2i_f (by omega)).symm | (simp only [b2i]; (repeat' split) <;> first | rfl | omega | (exfalso; omega))) dX4_holds_23
  · refine lv_aload_n hx hb dX4_holds_8 rfl (lv_at hl 0 rfl) ?_
    refine Vg2 hx hb hts hin hown hK hP (by decide +kernel) dX4_holds_9 ?_
    refine lv_iload_n hx hb dX4_holds_12 rfl (lv_at hl 1 rfl) ?_
    refine Va1 hx hb hK hP (by omega) dX4_holds_13 ?_
    have r1_21 : bd (s (20 + x.toNat)) := hbs _
    refine lv_iload_n hx hb dX4_holds_14 rfl (lv_at hl 2 rfl) ?_
    refine j_ile (tgt := 22) hx hb (by omega) (by omega) dX4_holds_15 (by decide) (fun c2 => ?_) (fun c2 => ?_)
    · refine j_c hx hb dX4_holds_22 ?_
      exact p_zret hx hb hr hlocks (by first | decide | exact b2i_or) (by first | rfl | omega | exact (b2i_t (by omega)).symm | exact (b2i_f (by omega)).symm | (simp only [b2i]; (repeat' split) <;> first | rfl | omega | (exfalso; omega))) dX4_holds_23
    · refine j_c hx hb dX4_holds_18 ?_
      refine lv_goto (tgt := 23) hx hb dX4_holds_19 (by decide) ?_
      exact p_zret hx hb hr hlocks (by first | decide | exact b2i_or) (by first | rfl | omega | exact (b2i_t (by omega)).symm | exact (b2i_f (by omega)).symm | (simp only [b2i]; (repeat' split) <;> first | rfl | omega | (exfalso; omega))) dX4_holds_23
set_option maxHeartbeats 4000000 in
set_option maxRecDepth 100000 in
theorem kX4_presentVillagers (l : Launch) (D : va_G) (cI cV : ClassId) (a : Nat → Nat) (s : Nat → Int) (nz : Int) (nw : Nat → Int)  (hV : VI s nz nw) : PM l yX4_presentVillagers wsX4_presentVillagers 0 0 [.ref (a 0)] (vilw cI a s nz nw) D cI cV (some (.int (iI (sm (fun i => s (8 + i)) (s 0).toNat)))) := by
  refine PM.of (cc := cX4_presentVillagers) (maxL := 3) (ret := (some .int)) (by decide) rfl (Nat.le_of_ble_eq_true rfl) ?_
  intro p e s0 m below meth c ls hx hb hr hts hown hlocks hml hP hK hl
  have hown : s0.vm.findClass RX4 = some m.cls := hown
  have hin : ∀ w ∈ u_ws RX4 TX4 13, w ∈ wsX4_presentVillagers := by decide +kernel
  have hl : lv_has ls 3 [(0, .ref (a 0))] := hl
  obtain ⟨hbs, hbn, h00, h01, h10, h11, hz0, hz1, h30, h31, h40, h41, h70, h71, h60, h61⟩ := id hV
  have hb5 := hbs 5
  have hb2 := hbs 2
  refine j_c hx hb dX4_presentVillagers_0 ?_
  refine lv_istore_n (lv' := [(1, .int (iI (0))), (0, .ref (a 0))]) hx hb dX4_presentVillagers_1 rfl hl (by decide) rfl (fun ls hl => ?_)
  refine j_c hx hb dX4_presentVillagers_2 ?_
  refine lv_istore_n (lv' := [(2, .int (iI (0))), (1, .int (iI (0))), (0, .ref (a 0))]) hx hb dX4_presentVillagers_3 rfl hl (by decide) rfl (fun ls hl => ?_)
  have LP4 : ∀ (fu : Nat) (j : Nat) (x2 x1 : Int), x2 = (j : Int) → x1 = sm (fun i => s (8 + i)) j → ((j : Int) ≤ s 0) → (s 0).toNat - j < fu → ∀ ls : Array Slot, lv_has ls 3 [(2, .int (iI (x2))), (1, .int (iI (x1))), (0, .ref (a 0))] → W p l e (headSpec wsX4_presentVillagers (rmK 0 0)).room s0 m ([.ref (a 0)] : List Value).toArray below meth c s0.heap [] 0 0 (MQ below (pQ (some (.int (iI (sm (fun i => s (8 + i)) (s 0).toNat))))) ([.ref (a 0)] : List Value).toArray s0 0 0 (fun _ => False)) (F0 m 4 ls []) := by
    intro fu
    induction fu with
    | zero =>
      intros
      omega
    | succ fu ih =>
      intro j x2 x1 ex2 ex1 hinv hmeas  ls hl
      subst ex2
      subst ex1
      refine lv_iload_n hx hb dX4_presentVillagers_4 rfl (lv_at hl 0 rfl) ?_
      refine lv_aload_n hx hb dX4_presentVillagers_5 rfl (lv_at hl 2 rfl) ?_
      refine Vg0 hx hb hts hin hown hK hP (by decide +kernel) dX4_presentVillagers_6 ?_
      refine j_ige (tgt := 27) hx hb (by omega) (by omega) dX4_presentVillagers_9 (by decide) (fun c1 => ?_) (fun c1 => ?_)
      · refine lv_iload_n hx hb dX4_presentVillagers_27 rfl (lv_at hl 1 rfl) ?_
        exact p_iret hx hb hr hlocks (by rw [show (s 0).toNat = j from by omega]) dX4_presentVillagers_28
      · refine lv_iload_n hx hb dX4_presentVillagers_12 rfl (lv_at hl 1 rfl) ?_
        refine lv_aload_n hx hb dX4_presentVillagers_13 rfl (lv_at hl 2 rfl) ?_
        refine Vg1 hx hb hts hin hown hK hP (by decide +kernel) dX4_presentVillagers_14 ?_
        refine lv_iload_n hx hb dX4_presentVillagers_17 rfl (lv_at hl 0 rfl) ?_
        refine Va0 hx hb hK hP (by omega) dX4_presentVillagers_18 ?_
        rw [Int.toNat_natCast]
        have r1_37 : bd (s (8 + j)) := hbs _
        refine j_add hx hb dX4_presentVillagers_19 ?_
        refine lv_istore_n (lv' := [(1, .int (iI ((sm (fun i => s (8 + i)) j) + (s (8 + j))))), (2, .int (iI ((j : Int)))), (0, .ref (a 0))]) hx hb dX4_presentVillagers_20 rfl hl (by decide) rfl (fun ls hl => ?_)
        refine lv_iinc (v := iI ((j : Int) + 1)) (lv' := [(2, .int (iI ((j : Int) + 1))), (1, .int (iI ((sm (fun i => s (8 + i)) j) + (s (8 + j))))), (0, .ref (a 0))]) hx hb dX4_presentVillagers_21 hl (k := 1) rfl (iI_add _ _) (by decide) rfl (fun ls hl => ?_)
        refine lv_goto (tgt := 4) hx hb dX4_presentVillagers_24 (by decide) ?_
        exact ih (j + 1) ((j : Int) + 1) ((sm (fun i => s (8 + i)) j) + (s (8 + j))) (by first | rfl | omega | (simp only [sm, b2i]; (repeat' split) <;> first | rfl | omega | (exfalso; omega) | (exfalso; simp_all))) (by first | rfl | omega | (simp only [sm, b2i]; (repeat' split) <;> first | rfl | omega | (exfalso; omega) | (exfalso; simp_all))) (by omega) (by omega) ls (lv_sub hl [0, 1, 2] rfl)
  exact LP4 (_) 0 0 0 (by first | rfl | omega) (by first | rfl | omega) (by omega) (by exact Nat.lt_succ_self _) ls (lv_sub hl [0, 1, 2] rfl)
set_option maxHeartbeats 4000000 in
set_option maxRecDepth 100000 in
theorem kX4_copies (l : Launch) (D : va_G) (cI cV : ClassId) (a : Nat → Nat) (s : Nat → Int) (nz : Int) (nw : Nat → Int) (y : Int) (hV : VI s nz nw) (r_y : rg y) : PM l yX4_copies wsX4_copies 2 43 [.ref (a 0), .int (iI (y))] (vilw cI a s nz nw) D cI cV (some (.int (iI (sm (fun i => b2i ((0 ≤ ((i : Int)) ∧ ((i : Int)) < s 0) ∧ (y) < s (20 + ((i : Int)).toNat))) (s 0).toNat)))) := by
  refine PM.of (cc := cX4_copies) (maxL := 4) (ret := (some .int)) (by decide) rfl (Nat.le_of_ble_eq_true rfl) ?_
  intro p e s0 m below meth c ls hx hb hr hts hown hlocks hml hP hK hl
  have hown : s0.vm.findClass RX4 = some m.cls := hown
  have hin : ∀ w ∈ u_ws RX4 TX4 13, w ∈ wsX4_copies := by decide +kernel
  have hl : lv_has ls 4 [(0, .ref (a 0)), (1, .int (iI (y)))] := hl
  obtain ⟨hbs, hbn, h00, h01, h10, h11, hz0, hz1, h30, h31, h40, h41, h70, h71, h60, h61⟩ := id hV
  have hb5 := hbs 5
  have hb2 := hbs 2
  refine j_c hx hb dX4_copies_0 ?_
  refine lv_istore_n (lv' := [(2, .int (iI (0))), (0, .ref (a 0)), (1, .int (iI (y)))]) hx hb dX4_copies_1 rfl hl (by decide) rfl (fun ls hl => ?_)
  refine j_c hx hb dX4_copies_2 ?_
  refine lv_istore_n (lv' := [(3, .int (iI (0))), (2, .int (iI (0))), (0, .ref (a 0)), (1, .int (iI (y)))]) hx hb dX4_copies_3 rfl hl (by decide) rfl (fun ls hl => ?_)
  have LP4 : ∀ (fu : Nat) (j : Nat) (x3 x2 : Int), x3 = (j : Int) → x2 = sm (fun i => b2i ((0 ≤ ((i : Int)) ∧ ((i : Int)) < s 0) ∧ (y) < s (20 + ((i : Int)).toNat))) j → ((j : Int) ≤ s 0) → (s 0).toNat - j < fu → ∀ ls : Array Slot, lv_has ls 4 [(3, .int (iI (x3))), (2, .int (iI (x2))), (0, .ref (a 0)), (1, .int (iI (y)))] → W p l e (headSpec wsX4_copies (rmK 2 43)).room s0 m ([.ref (a 0), .int (iI (y))] : List Value).toArray below meth c s0.heap [] 0 0 (MQ below (pQ (some (.int (iI (sm (fun i => b2i ((0 ≤ ((i : Int)) ∧ ((i : Int)) < s 0) ∧ (y) < s (20 + ((i : Int)).toNat))) (s 0).toNat))))) ([.ref (a 0), .int (iI (y))] : List Value).toArray s0 0 0 (fun _ => False)) (F0 m 4 ls []) := by
    intro fu
    induction fu with
    | zero =>
      intros
      omega
    | succ fu ih =>
      intro j x3 x2 ex3 ex2 hinv hmeas  ls hl
      subst ex3
      subst ex2
      have hsm := sm_rg (f := fun i => b2i ((0 ≤ ((i : Int)) ∧ ((i : Int)) < s 0) ∧ (y) < s (20 + ((i : Int)).toNat))) (fun k => b2i_rg) j
      refine lv_iload_n hx hb dX4_copies_4 rfl (lv_at hl 0 rfl) ?_
      refine lv_aload_n hx hb dX4_copies_5 rfl (lv_at hl 2 rfl) ?_
      refine Vg0 hx hb hts hin hown hK hP (by decide +kernel) dX4_copies_6 ?_
      refine j_ige (tgt := 30) hx hb (by omega) (by omega) dX4_copies_9 (by decide) (fun c1 => ?_) (fun c1 => ?_)
      · refine lv_iload_n hx hb dX4_copies_30 rfl (lv_at hl 1 rfl) ?_
        exact p_iret hx hb hr hlocks (by rw [show (s 0).toNat = j from by omega]) dX4_copies_31
      · refine lv_aload_n hx hb dX4_copies_12 rfl (lv_at hl 2 rfl) ?_
        refine lv_iload_n hx hb dX4_copies_13 rfl (lv_at hl 0 rfl) ?_
        refine lv_iload_n hx hb dX4_copies_14 rfl (lv_at hl 3 rfl) ?_
        refine p_callV (v := .int (iI (b2i ((0 ≤ ((j : Int)) ∧ ((j : Int)) < s 0) ∧ (y) < s (20 + ((j : Int)).toNat))))) (ci := 4) (n := 2) (As := [.int (iI ((j : Int))), .int (iI (y))]) (rest := []) ⟨hx, hb, hml, hown, hts⟩ hK (kX4_holds l D cI cV a s nz nw (j : Int) y hV (by omega) (by omega)) hP rfl rfl gX4_copies_X4_holds rfl (by decide +kernel) ⟨Nat.le_of_ble_eq_true rfl, Nat.le_of_ble_eq_true rfl⟩ rfl hl.1 (Nat.le_of_ble_eq_true rfl) dX4_copies_15 ⟨Nat.zero_le _, Nat.zero_le _⟩ rfl ?_
        refine j_beq (tgt := 24) hx hb dX4_copies_18 (by decide) (fun c2 => ?_) (fun c2 => ?_)
        · refine lv_iinc (v := iI ((j : Int) + 1)) (lv' := [(3, .int (iI ((j : Int) + 1))), (2, .int (iI (sm (fun i => b2i ((0 ≤ ((i : Int)) ∧ ((i : Int)) < s 0) ∧ (y) < s (20 + ((i : Int)).toNat))) j))), (0, .ref (a 0)), (1, .int (iI (y)))]) hx hb dX4_copies_24 hl (k := 0) rfl (iI_add _ _) (by decide) rfl (fun ls hl => ?_)
          refine lv_goto (tgt := 4) hx hb dX4_copies_27 (by decide) ?_
          exact ih (j + 1) ((j : Int) + 1) (sm (fun i => b2i ((0 ≤ ((i : Int)) ∧ ((i : Int)) < s 0) ∧ (y) < s (20 + ((i : Int)).toNat))) j) (by first | rfl | omega | (simp only [sm, b2i]; (repeat' split) <;> first | rfl | omega | (exfalso; omega) | (exfalso; simp_all))) (by first | rfl | omega | (simp only [sm, b2i]; (repeat' split) <;> first | rfl | omega | (exfalso; omega) | (exfalso; simp_all))) (by omega) (by omega) ls (lv_sub hl [0, 1, 2, 3] rfl)
        · refine lv_iinc (v := iI ((sm (fun i => b2i ((0 ≤ ((i : Int)) ∧ ((i : Int)) < s 0) ∧ (y) < s (20 + ((i : Int)).toNat))) j) + 1)) (lv' := [(2, .int (iI ((sm (fun i => b2i ((0 ≤ ((i : Int)) ∧ ((i : Int)) < s 0) ∧ (y) < s (20 + ((i : Int)).toNat))) j) + 1))), (3, .int (iI ((j : Int)))), (0, .ref (a 0)), (1, .int (iI (y)))]) hx hb dX4_copies_21 hl (k := 1) rfl (iI_add _ _) (by decide) rfl (fun ls hl => ?_)
          refine lv_iinc (v := iI ((j : Int) + 1)) (lv' := [(3, .int (iI ((j : Int) + 1))), (2, .int (iI ((sm (fun i => b2i ((0 ≤ ((i : Int)) ∧ ((i : Int)) < s 0) ∧ (y) < s (20 + ((i : Int)).toNat))) j) + 1))), (0, .ref (a 0)), (1, .int (iI (y)))]) hx hb dX4_copies_24 hl (k := 1) rfl (iI_add _ _) (by decide) rfl (fun ls hl => ?_)
          refine lv_goto (tgt := 4) hx hb dX4_copies_27 (by decide) ?_
          exact ih (j + 1) ((j : Int) + 1) ((sm (fun i => b2i ((0 ≤ ((i : Int)) ∧ ((i : Int)) < s 0) ∧ (y) < s (20 + ((i : Int)).toNat))) j) + 1) (by first | rfl | omega | (simp only [sm, b2i]; (repeat' split) <;> first | rfl | omega | (exfalso; omega) | (exfalso; simp_all))) (by first | rfl | omega | (simp only [sm, b2i]; (repeat' split) <;> first | rfl | omega | (exfalso; omega) | (exfalso; simp_all))) (by omega) (by omega) ls (lv_sub hl [0, 1, 2, 3] rfl)
  exact LP4 (_) 0 0 0 (by first | rfl | omega) (by first | rfl | omega) (by omega) (by exact Nat.lt_succ_self _) ls (lv_sub hl [0, 1, 2, 3] rfl)
set_option maxHeartbeats 4000000 in
set_option maxRecDepth 100000 in
theorem kX4_candidatesBefore (l : Launch) (D : va_G) (cI cV : ClassId) (a : Nat → Nat) (s : Nat → Int) (nz : Int) (nw : Nat → Int) (x : Int) (hV : VI s nz nw) (h_x : 0 ≤ x ∧ x ≤ 12) : PM l yX4_candidatesBefore wsX4_candidatesBefore 2 43 [.ref (a 0), .int (iI (x))] (vilw cI a s nz nw) D cI cV (some (.int (iI (sm (fun i => b2i (¬ (seatF (fun i => s (32 + i)) ((i : Int)) (s 1).toNat ≠ -9))) x.toNat)))) := by
  refine PM.of (cc := cX4_candidatesBefore) (maxL := 4) (ret := (some .int)) (by decide) rfl (Nat.le_of_ble_eq_true rfl) ?_
  intro p e s0 m below meth c ls hx hb hr hts hown hlocks hml hP hK hl
  have hown : s0.vm.findClass RX4 = some m.cls := hown
  have hin : ∀ w ∈ u_ws RX4 TX4 13, w ∈ wsX4_candidatesBefore := by decide +kernel
  have hl : lv_has ls 4 [(0, .ref (a 0)), (1, .int (iI (x)))] := hl
  obtain ⟨hbs, hbn, h00, h01, h10, h11, hz0, hz1, h30, h31, h40, h41, h70, h71, h60, h61⟩ := id hV
  have hb5 := hbs 5
  have hb2 := hbs 2
  refine j_c hx hb dX4_candidatesBefore_0 ?_
  refine lv_istore_n (lv' := [(2, .int (iI (0))), (0, .ref (a 0)), (1, .int (iI (x)))]) hx hb dX4_candidatesBefore_1 rfl hl (by decide) rfl (fun ls hl => ?_)
  refine j_c hx hb dX4_candidatesBefore_2 ?_
  refine lv_istore_n (lv' := [(3, .int (iI (0))), (2, .int (iI (0))), (0, .ref (a 0)), (1, .int (iI (x)))]) hx hb dX4_candidatesBefore_3 rfl hl (by decide) rfl (fun ls hl => ?_)
  have LP4 : ∀ (fu : Nat) (j : Nat) (x3 x2 : Int), x3 = (j : Int) → x2 = sm (fun i => b2i (¬ (seatF (fun i => s (32 + i)) ((i : Int)) (s 1).toNat ≠ -9))) j → ((j : Int) ≤ x) → x.toNat - j < fu → ∀ ls : Array Slot, lv_has ls 4 [(3, .int (iI (x3))), (2, .int (iI (x2))), (0, .ref (a 0)), (1, .int (iI (x)))] → W p l e (headSpec wsX4_candidatesBefore (rmK 2 43)).room s0 m ([.ref (a 0), .int (iI (x))] : List Value).toArray below meth c s0.heap [] 0 0 (MQ below (pQ (some (.int (iI (sm (fun i => b2i (¬ (seatF (fun i => s (32 + i)) ((i : Int)) (s 1).toNat ≠ -9))) x.toNat))))) ([.ref (a 0), .int (iI (x))] : List Value).toArray s0 0 0 (fun _ => False)) (F0 m 4 ls []) := by
    intro fu
    induction fu with
    | zero =>
      intros
      omega
    | succ fu ih =>
      intro j x3 x2 ex3 ex2 hinv hmeas  ls hl
      subst ex3
      subst ex2
      have hsm := sm_rg (f := fun i => b2i (¬ (seatF (fun i => s (32 + i)) ((i : Int)) (s 1).toNat ≠ -9))) (fun k => b2i_rg) j
      refine lv_iload_n hx hb dX4_candidatesBefore_4 rfl (lv_at hl 0 rfl) ?_
      refine lv_iload_n hx hb dX4_candidatesBefore_5 rfl (lv_at hl 3 rfl) ?_
      refine j_ige (tgt := 29) hx hb (by omega) (by omega) dX4_candidatesBefore_6 (by decide) (fun c1 => ?_) (fun c1 => ?_)
      · refine lv_iload_n hx hb dX4_candidatesBefore_29 rfl (lv_at hl 1 rfl) ?_
        exact p_iret hx hb hr hlocks (by rw [show x.toNat = j from by omega]) dX4_candidatesBefore_30
      · refine lv_aload_n hx hb dX4_candidatesBefore_9 rfl (lv_at hl 2 rfl) ?_
        refine Vg3 hx hb hts hin hown hK hP (by decide +kernel) dX4_candidatesBefore_10 ?_
        refine lv_iload_n hx hb dX4_candidatesBefore_13 rfl (lv_at hl 0 rfl) ?_
        refine p_callV (v := .int (iI (b2i (seatF (fun i => s (32 + i)) (j : Int) (s 1).toNat ≠ -9)))) (ci := 0) (n := 1) (As := [.int (iI ((j : Int)))]) (rest := []) ⟨hx, hb, hml, hown, hts⟩ hK (kX0_has l D cI cV (a 6) (a 7) (s 1) (fun i => s (32 + i)) (j : Int) (by omega) (by omega) (fun k => hbs _)) (vil_old hP) rfl rfl gX4_candidatesBefore_X0_has rfl (by decide +kernel) ⟨Nat.le_of_ble_eq_true rfl, Nat.le_of_ble_eq_true rfl⟩ rfl hl.1 (Nat.le_of_ble_eq_true rfl) dX4_candidatesBefore_14 ⟨Nat.zero_le _, Nat.zero_le _⟩ rfl ?_
        refine j_bne (tgt := 23) hx hb dX4_candidatesBefore_17 (by decide) (fun c2 => ?_) (fun c2 => ?_)
        · refine lv_iinc (v := iI ((j : Int) + 1)) (lv' := [(3, .int (iI ((j : Int) + 1))), (2, .int (iI (sm (fun i => b2i (¬ (seatF (fun i => s (32 + i)) ((i : Int)) (s 1).toNat ≠ -9))) j))), (0, .ref (a 0)), (1, .int (iI (x)))]) hx hb dX4_candidatesBefore_23 hl (k := 0) rfl (iI_add _ _) (by decide) rfl (fun ls hl => ?_)
          refine lv_goto (tgt := 4) hx hb dX4_candidatesBefore_26 (by decide) ?_
          exact ih (j + 1) ((j : Int) + 1) (sm (fun i => b2i (¬ (seatF (fun i => s (32 + i)) ((i : Int)) (s 1).toNat ≠ -9))) j) (by first | rfl | omega | (simp only [sm, b2i]; (repeat' split) <;> first | rfl | omega | (exfalso; omega) | (exfalso; simp_all))) (by first | rfl | omega | (simp only [sm, b2i]; (repeat' split) <;> first | rfl | omega | (exfalso; omega) | (exfalso; simp_all))) (by omega) (by omega) ls (lv_sub hl [0, 1, 2, 3] rfl)
        · refine lv_iinc (v := iI ((sm (fun i => b2i (¬ (seatF (fun i => s (32 + i)) ((i : Int)) (s 1).toNat ≠ -9))) j) + 1)) (lv' := [(2, .int (iI ((sm (fun i => b2i (¬ (seatF (fun i => s (32 + i)) ((i : Int)) (s 1).toNat ≠ -9))) j) + 1))), (3, .int (iI ((j : Int)))), (0, .ref (a 0)), (1, .int (iI (x)))]) hx hb dX4_candidatesBefore_20 hl (k := 1) rfl (iI_add _ _) (by decide) rfl (fun ls hl => ?_)
          refine lv_iinc (v := iI ((j : Int) + 1)) (lv' := [(3, .int (iI ((j : Int) + 1))), (2, .int (iI ((sm (fun i => b2i (¬ (seatF (fun i => s (32 + i)) ((i : Int)) (s 1).toNat ≠ -9))) j) + 1))), (0, .ref (a 0)), (1, .int (iI (x)))]) hx hb dX4_candidatesBefore_23 hl (k := 1) rfl (iI_add _ _) (by decide) rfl (fun ls hl => ?_)
          refine lv_goto (tgt := 4) hx hb dX4_candidatesBefore_26 (by decide) ?_
          exact ih (j + 1) ((j : Int) + 1) ((sm (fun i => b2i (¬ (seatF (fun i => s (32 + i)) ((i : Int)) (s 1).toNat ≠ -9))) j) + 1) (by first | rfl | omega | (simp only [sm, b2i]; (repeat' split) <;> first | rfl | omega | (exfalso; omega) | (exfalso; simp_all))) (by first | rfl | omega | (simp only [sm, b2i]; (repeat' split) <;> first | rfl | omega | (exfalso; omega) | (exfalso; simp_all))) (by omega) (by omega) ls (lv_sub hl [0, 1, 2, 3] rfl)
  exact LP4 (_) 0 0 0 (by first | rfl | omega) (by first | rfl | omega) (by omega) (by exact Nat.lt_succ_self _) ls (lv_sub hl [0, 1, 2, 3] rfl)
set_option maxHeartbeats 4000000 in
set_option maxRecDepth 100000 in
theorem kX4_candidates (l : Launch) (D : va_G) (cI cV : ClassId) (a : Nat → Nat) (s : Nat → Int) (nz : Int) (nw : Nat → Int)  (hV : VI s nz nw) : PM l yX4_candidates wsX4_candidates 3 66 [.ref (a 0)] (vilw cI a s nz nw) D cI cV (some (.int (iI (sm (fun i => b2i (¬ (seatF (fun i => s (32 + i)) ((i : Int)) (s 1).toNat ≠ -9))) (s 0).toNat)))) := by
  refine PM.of (cc := cX4_candidates) (maxL := 1) (ret := (some .int)) (by decide) rfl (Nat.le_of_ble_eq_true rfl) ?_
  intro p e s0 m below meth c ls hx hb hr hts hown hlocks hml hP hK hl
  have hown : s0.vm.findClass RX4 = some m.cls := hown
  have hin : ∀ w ∈ u_ws RX4 TX4 13, w ∈ wsX4_candidates := by decide +kernel
  have hl : lv_has ls 1 [(0, .ref (a 0))] := hl
  obtain ⟨hbs, hbn, h00, h01, h10, h11, hz0, hz1, h30, h31, h40, h41, h70, h71, h60, h61⟩ := id hV
  have hb5 := hbs 5
  have hb2 := hbs 2
  refine lv_aload_n hx hb dX4_candidates_0 rfl (lv_at hl 0 rfl) ?_
  refine lv_aload_n hx hb dX4_candidates_1 rfl (lv_at hl 0 rfl) ?_
  refine Vg0 hx hb hts hin hown hK hP (by decide +kernel) dX4_candidates_2 ?_
  refine p_callV (v := .int (iI (sm (fun i => b2i (¬ (seatF (fun i => s (32 + i)) ((i : Int)) (s 1).toNat ≠ -9))) (s 0).toNat))) (ci := 4) (n := 1) (As := [.int (iI (s 0))]) (rest := []) ⟨hx, hb, hml, hown, hts⟩ hK (kX4_candidatesBefore l D cI cV a s nz nw (s 0) hV (by omega)) hP rfl rfl gX4_candidates_X4_candidatesBefore rfl (by decide +kernel) ⟨Nat.le_of_ble_eq_true rfl, Nat.le_of_ble_eq_true rfl⟩ rfl hl.1 (Nat.le_of_ble_eq_true rfl) dX4_candidates_5 ⟨Nat.zero_le _, Nat.zero_le _⟩ rfl ?_
  have f15 := sm_rg (f := (fun i => b2i (¬ (seatF (fun i => s (32 + i)) ((i : Int)) (s 1).toNat ≠ -9)))) (fun k => b2i_rg) ((s 0).toNat)
  exact p_iret hx hb hr hlocks (by first | rfl | omega | exact (b2i_t (by omega)).symm | exact (b2i_f (by omega)).symm | (simp only [b2i]; (repeat' split) <;> first | rfl | omega | (exfalso; omega))) dX4_candidates_8
