set_option maxHeartbeats 4000000 in
set_option maxRecDepth 100000 in
theorem kX0_size (l : Launch) (D : va_G) (cI cV : ClassId) (o e_ : Nat) (z : Int) (el : Nat → Int)   : PM l yX0_size wsX0_size 0 0 [.ref (o)] (couw cI o e_ z el) D cI cV (some (.int (iI (z)))) := by
  refine PM.of (cc := cX0_size) (maxL := 1) (ret := (some .int)) (by decide) rfl (Nat.le_of_ble_eq_true rfl) ?_
  intro p e s0 m below meth c ls hx hb hr hts hown hlocks hml hP hK hl
  have hown : s0.vm.findClass RX0 = some m.cls := hown
  have hin : ∀ w ∈ u_ws RX0 TX0 2, w ∈ wsX0_size := by decide +kernel
  have hl : lv_has ls 1 [(0, .ref (o))] := hl
  refine lv_aload_n hx hb dX0_size_0 rfl (lv_at hl 0 rfl) ?_
  refine Cg0 hx hb hts hin hown hK hP (by decide +kernel) dX0_size_1 ?_
  exact p_iret hx hb hr hlocks (by first | rfl | omega | exact (b2i_t (by omega)).symm | exact (b2i_f (by omega)).symm | (simp only [b2i]; (repeat' split) <;> first | rfl | omega | (exfalso; omega))) dX0_size_4
set_option maxHeartbeats 4000000 in
set_option maxRecDepth 100000 in
theorem kX0_isEmpty (l : Launch) (D : va_G) (cI cV : ClassId) (o e_ : Nat) (z : Int) (el : Nat → Int)  (hz : 0 ≤ z ∧ z ≤ 5) : PM l yX0_isEmpty wsX0_isEmpty 0 0 [.ref (o)] (couw cI o e_ z el) D cI cV (some (.int (iI (b2i (z = 0))))) := by
  refine PM.of (cc := cX0_isEmpty) (maxL := 1) (ret := (some .boolean)) (by decide) rfl (Nat.le_of_ble_eq_true rfl) ?_
  intro p e s0 m below meth c ls hx hb hr hts hown hlocks hml hP hK hl
  have hown : s0.vm.findClass RX0 = some m.cls := hown
  have hin : ∀ w ∈ u_ws RX0 TX0 2, w ∈ wsX0_isEmpty := by decide +kernel
  have hl : lv_has ls 1 [(0, .ref (o))] := hl
  refine lv_aload_n hx hb dX0_isEmpty_0 rfl (lv_at hl 0 rfl) ?_
  refine Cg0 hx hb hts hin hown hK hP (by decide +kernel) dX0_isEmpty_1 ?_
  refine j_zne (tgt := 11) hx hb (by omega) dX0_isEmpty_4 (by decide) (fun c1 => ?_) (fun c1 => ?_)
  · refine j_c hx hb dX0_isEmpty_11 ?_
    exact p_zret hx hb hr hlocks (by first | decide | exact b2i_or) (by first | rfl | omega | exact (b2i_t (by omega)).symm | exact (b2i_f (by omega)).symm | (simp only [b2i]; (repeat' split) <;> first | rfl | omega | (exfalso; omega))) dX0_isEmpty_12
  · refine j_c hx hb dX0_isEmpty_7 ?_
    refine lv_goto (tgt := 12) hx hb dX0_isEmpty_8 (by decide) ?_
    exact p_zret hx hb hr hlocks (by first | decide | exact b2i_or) (by first | rfl | omega | exact (b2i_t (by omega)).symm | exact (b2i_f (by omega)).symm | (simp only [b2i]; (repeat' split) <;> first | rfl | omega | (exfalso; omega))) dX0_isEmpty_12
set_option maxHeartbeats 4000000 in
set_option maxRecDepth 100000 in
theorem kX0_hasSeat (l : Launch) (D : va_G) (cI cV : ClassId) (o e_ : Nat) (z : Int) (el : Nat → Int) (x : Int) (r_x : rg x) (hz : 0 ≤ z ∧ z ≤ 5) : PM l yX0_hasSeat wsX0_hasSeat 0 0 [.ref (o), .int (iI (x))] (couw cI o e_ z el) D cI cV (some (.int (iI (b2i (0 ≤ x ∧ x < z))))) := by
  refine PM.of (cc := cX0_hasSeat) (maxL := 2) (ret := (some .boolean)) (by decide) rfl (Nat.le_of_ble_eq_true rfl) ?_
  intro p e s0 m below meth c ls hx hb hr hts hown hlocks hml hP hK hl
  have hown : s0.vm.findClass RX0 = some m.cls := hown
  have hin : ∀ w ∈ u_ws RX0 TX0 2, w ∈ wsX0_hasSeat := by decide +kernel
  have hl : lv_has ls 2 [(0, .ref (o)), (1, .int (iI (x)))] := hl
  refine lv_iload_n hx hb dX0_hasSeat_0 rfl (lv_at hl 1 rfl) ?_
  refine j_zlt (tgt := 16) hx hb (by omega) dX0_hasSeat_1 (by decide) (fun c1 => ?_) (fun c1 => ?_)
  · refine j_c hx hb dX0_hasSeat_16 ?_
    exact p_zret hx hb hr hlocks (by first | decide | exact b2i_or) (by first | rfl | omega | exact (b2i_t (by omega)).symm | exact (b2i_f (by omega)).symm | (simp only [b2i]; (repeat' split) <;> first | rfl | omega | (exfalso; omega))) dX0_hasSeat_17
  · refine lv_iload_n hx hb dX0_hasSeat_4 rfl (lv_at hl 1 rfl) ?_
    refine lv_aload_n hx hb dX0_hasSeat_5 rfl (lv_at hl 0 rfl) ?_
    refine Cg0 hx hb hts hin hown hK hP (by decide +kernel) dX0_hasSeat_6 ?_
    refine j_ige (tgt := 16) hx hb (by omega) (by omega) dX0_hasSeat_9 (by decide) (fun c2 => ?_) (fun c2 => ?_)
    · refine j_c hx hb dX0_hasSeat_16 ?_
      exact p_zret hx hb hr hlocks (by first | decide | exact b2i_or) (by first | rfl | omega | exact (b2i_t (by omega)).symm | exact (b2i_f (by omega)).symm | (simp only [b2i]; (repeat' split) <;> first | rfl | omega | (exfalso; omega))) dX0_hasSeat_17
    · refine j_c hx hb dX0_hasSeat_12 ?_
      refine lv_goto (tgt := 17) hx hb dX0_hasSeat_13 (by decide) ?_
      exact p_zret hx hb hr hlocks (by first | decide | exact b2i_or) (by first | rfl | omega | exact (b2i_t (by omega)).symm | exact (b2i_f (by omega)).symm | (simp only [b2i]; (repeat' split) <;> first | rfl | omega | (exfalso; omega))) dX0_hasSeat_17
set_option maxHeartbeats 4000000 in
set_option maxRecDepth 100000 in
theorem kX0_elderOn (l : Launch) (D : va_G) (cI cV : ClassId) (o e_ : Nat) (z : Int) (el : Nat → Int) (x : Int) (hz : 0 ≤ z ∧ z ≤ 5) (hxz : 0 ≤ x ∧ x < z) : PM l yX0_elderOn wsX0_elderOn 1 21 [.ref (o), .int (iI (x))] (couw cI o e_ z el) D cI cV (some (.int (iI (el x.toNat)))) := by
  refine PM.of (cc := cX0_elderOn) (maxL := 2) (ret := (some .int)) (by decide) rfl (Nat.le_of_ble_eq_true rfl) ?_
  intro p e s0 m below meth c ls hx hb hr hts hown hlocks hml hP hK hl
  have hown : s0.vm.findClass RX0 = some m.cls := hown
  have hin : ∀ w ∈ u_ws RX0 TX0 2, w ∈ wsX0_elderOn := by decide +kernel
  have hl : lv_has ls 2 [(0, .ref (o)), (1, .int (iI (x)))] := hl
  refine lv_aload_n hx hb dX0_elderOn_0 rfl (lv_at hl 0 rfl) ?_
  refine lv_iload_n hx hb dX0_elderOn_1 rfl (lv_at hl 1 rfl) ?_
  refine p_callV (v := .int (iI (b2i (0 ≤ x ∧ x < z)))) (ci := 0) (n := 1) (As := [.int (iI (x))]) (rest := []) ⟨hx, hb, hml, hown, hts⟩ hK (kX0_hasSeat l D cI cV o e_ z el x (by omega) (by omega)) hP rfl rfl gX0_elderOn_X0_hasSeat rfl (by decide +kernel) ⟨Nat.le_of_ble_eq_true rfl, Nat.le_of_ble_eq_true rfl⟩ rfl hl.1 (Nat.le_of_ble_eq_true rfl) dX0_elderOn_2 ⟨Nat.zero_le _, Nat.zero_le _⟩ rfl ?_
  refine j_beq (tgt := 17) hx hb dX0_elderOn_5 (by decide) (fun c1 => ?_) (fun c1 => ?_)
  · refine j_bi hx hb dX0_elderOn_17 rfl ?_
    exact p_iret hx hb hr hlocks (by first | rfl | omega | exact (b2i_t (by omega)).symm | exact (b2i_f (by omega)).symm | (simp only [b2i]; (repeat' split) <;> first | rfl | omega | (exfalso; omega))) dX0_elderOn_19
  · refine lv_aload_n hx hb dX0_elderOn_8 rfl (lv_at hl 0 rfl) ?_
    refine Cg1 hx hb hts hin hown hK hP (by decide +kernel) dX0_elderOn_9 ?_
    refine lv_iload_n hx hb dX0_elderOn_12 rfl (lv_at hl 1 rfl) ?_
    refine Ca hx hb hK hP (by omega) dX0_elderOn_13 ?_
    refine lv_goto (tgt := 19) hx hb dX0_elderOn_14 (by decide) ?_
    exact p_iret hx hb hr hlocks (by first | rfl | omega | exact (b2i_t (by omega)).symm | exact (b2i_f (by omega)).symm | (simp only [b2i]; (repeat' split) <;> first | rfl | omega | (exfalso; omega))) dX0_elderOn_19
set_option maxHeartbeats 4000000 in
set_option maxRecDepth 100000 in
theorem kX0_majority (l : Launch) (D : va_G) (cI cV : ClassId) (o e_ : Nat) (z : Int) (el : Nat → Int)  (hz : 0 ≤ z ∧ z ≤ 5) : PM l yX0_majority wsX0_majority 0 0 [.ref (o)] (couw cI o e_ z el) D cI cV (some (.int (iI (z / 2 + 1)))) := by
  refine PM.of (cc := cX0_majority) (maxL := 1) (ret := (some .int)) (by decide) rfl (Nat.le_of_ble_eq_true rfl) ?_
  intro p e s0 m below meth c ls hx hb hr hts hown hlocks hml hP hK hl
  have hown : s0.vm.findClass RX0 = some m.cls := hown
  have hin : ∀ w ∈ u_ws RX0 TX0 2, w ∈ wsX0_majority := by decide +kernel
  have hl : lv_has ls 1 [(0, .ref (o))] := hl
  refine lv_aload_n hx hb dX0_majority_0 rfl (lv_at hl 0 rfl) ?_
  refine Cg0 hx hb hts hin hown hK hP (by decide +kernel) dX0_majority_1 ?_
  refine j_c hx hb dX0_majority_4 ?_
  refine j_div hx hb (by omega) (by omega) dX0_majority_5 ?_
  refine j_c hx hb dX0_majority_6 ?_
  refine j_add hx hb dX0_majority_7 ?_
  exact p_iret hx hb hr hlocks (by first | rfl | omega | exact (b2i_t (by omega)).symm | exact (b2i_f (by omega)).symm | (simp only [b2i]; (repeat' split) <;> first | rfl | omega | (exfalso; omega))) dX0_majority_8
set_option maxHeartbeats 4000000 in
set_option maxRecDepth 100000 in
theorem kX0_seatOf (l : Launch) (D : va_G) (cI cV : ClassId) (o e_ : Nat) (z : Int) (el : Nat → Int) (v : Int) (r_v : rg v) (hz : 0 ≤ z ∧ z ≤ 5) (hel : ∀ k, bd (el k)) : PM l yX0_seatOf wsX0_seatOf 0 0 [.ref (o), .int (iI (v))] (couw cI o e_ z el) D cI cV (some (.int (iI (seatF el v z.toNat)))) := by
  refine PM.of (cc := cX0_seatOf) (maxL := 3) (ret := (some .int)) (by decide) rfl (Nat.le_of_ble_eq_true rfl) ?_
  intro p e s0 m below meth c ls hx hb hr hts hown hlocks hml hP hK hl
  have hown : s0.vm.findClass RX0 = some m.cls := hown
  have hin : ∀ w ∈ u_ws RX0 TX0 2, w ∈ wsX0_seatOf := by decide +kernel
  have hl : lv_has ls 3 [(0, .ref (o)), (1, .int (iI (v)))] := hl
  refine j_c hx hb dX0_seatOf_0 ?_
  refine lv_istore_n (lv' := [(2, .int (iI (0))), (0, .ref (o)), (1, .int (iI (v)))]) hx hb dX0_seatOf_1 rfl hl (by decide) rfl (fun ls hl => ?_)
  have LP2 : ∀ (fu : Nat) (i : Nat) (x2 : Int), x2 = (i : Int) → ((i : Int) ≤ z ∧ seatF el v i = -9) → z.toNat - i < fu → ∀ ls : Array Slot, lv_has ls 3 [(2, .int (iI (x2))), (0, .ref (o)), (1, .int (iI (v)))] → W p l e (headSpec wsX0_seatOf (rmK 0 0)).room s0 m ([.ref (o), .int (iI (v))] : List Value).toArray below meth c s0.heap [] 0 0 (MQ below (pQ (some (.int (iI (seatF el v z.toNat))))) ([.ref (o), .int (iI (v))] : List Value).toArray s0 0 0 (fun _ => False)) (F0 m 2 ls []) := by
    intro fu
    induction fu with
    | zero =>
      intros
      omega
    | succ fu ih =>
      intro i x2 ex2 hinv hmeas  ls hl
      subst ex2
      refine lv_iload_n hx hb dX0_seatOf_2 rfl (lv_at hl 0 rfl) ?_
      refine lv_aload_n hx hb dX0_seatOf_3 rfl (lv_at hl 1 rfl) ?_
      refine Cg0 hx hb hts hin hown hK hP (by decide +kernel) dX0_seatOf_4 ?_
      refine j_ige (tgt := 28) hx hb (by omega) (by omega) dX0_seatOf_7 (by decide) (fun c1 => ?_) (fun c1 => ?_)
      · refine j_bi hx hb dX0_seatOf_28 rfl ?_
        exact p_iret hx hb hr hlocks (by rw [show z.toNat = i from by omega]; exact hinv.2.symm) dX0_seatOf_30
      · refine lv_aload_n hx hb dX0_seatOf_10 rfl (lv_at hl 1 rfl) ?_
        refine Cg1 hx hb hts hin hown hK hP (by decide +kernel) dX0_seatOf_11 ?_
        refine lv_iload_n hx hb dX0_seatOf_14 rfl (lv_at hl 0 rfl) ?_
        refine Ca hx hb hK hP (by omega) dX0_seatOf_15 ?_
        rw [Int.toNat_natCast]
        have r1_30 : bd (el i) := hel _
        refine lv_iload_n hx hb dX0_seatOf_16 rfl (lv_at hl 2 rfl) ?_
        refine j_ine (tgt := 22) hx hb (by omega) (by omega) dX0_seatOf_17 (by decide) (fun c2 => ?_) (fun c2 => ?_)
        · refine lv_iinc (v := iI ((i : Int) + 1)) (lv' := [(2, .int (iI ((i : Int) + 1))), (0, .ref (o)), (1, .int (iI (v)))]) hx hb dX0_seatOf_22 hl (k := 0) rfl (iI_add _ _) (by decide) rfl (fun ls hl => ?_)
          refine lv_goto (tgt := 2) hx hb dX0_seatOf_25 (by decide) ?_
          exact ih (i + 1) ((i : Int) + 1) (by first | rfl | omega | (simp only [sm, b2i]; (repeat' split) <;> first | rfl | omega | (exfalso; omega) | (exfalso; simp_all))) (by exact ⟨by omega, seatF_step hinv.2 (by omega)⟩) (by omega) ls (lv_sub hl [0, 1, 2] rfl)
        · refine lv_iload_n hx hb dX0_seatOf_20 rfl (lv_at hl 0 rfl) ?_
          exact p_iret hx hb hr hlocks (by exact (seatF_found hinv.2 (by omega) (by omega)).symm) dX0_seatOf_21
  exact LP2 (_) 0 0 (by first | rfl | omega) (by exact ⟨by omega, rfl⟩) (by exact Nat.lt_succ_self _) ls (lv_sub hl [0, 1, 2] rfl)
set_option maxHeartbeats 4000000 in
set_option maxRecDepth 100000 in
theorem kX0_has (l : Launch) (D : va_G) (cI cV : ClassId) (o e_ : Nat) (z : Int) (el : Nat → Int) (v : Int) (r_v : rg v) (hz : 0 ≤ z ∧ z ≤ 5) (hel : ∀ k, bd (el k)) : PM l yX0_has wsX0_has 1 22 [.ref (o), .int (iI (v))] (couw cI o e_ z el) D cI cV (some (.int (iI (b2i (seatF el v z.toNat ≠ -9))))) := by
  refine PM.of (cc := cX0_has) (maxL := 2) (ret := (some .boolean)) (by decide) rfl (Nat.le_of_ble_eq_true rfl) ?_
  intro p e s0 m below meth c ls hx hb hr hts hown hlocks hml hP hK hl
  have hown : s0.vm.findClass RX0 = some m.cls := hown
  have hin : ∀ w ∈ u_ws RX0 TX0 2, w ∈ wsX0_has := by decide +kernel
  have hl : lv_has ls 2 [(0, .ref (o)), (1, .int (iI (v)))] := hl
  refine lv_aload_n hx hb dX0_has_0 rfl (lv_at hl 0 rfl) ?_
  refine lv_iload_n hx hb dX0_has_1 rfl (lv_at hl 1 rfl) ?_
  refine p_callV (v := .int (iI (seatF el v z.toNat))) (ci := 0) (n := 1) (As := [.int (iI (v))]) (rest := []) ⟨hx, hb, hml, hown, hts⟩ hK (kX0_seatOf l D cI cV o e_ z el v (by omega) (by omega) hel) hP rfl rfl gX0_has_X0_seatOf rfl (by decide +kernel) ⟨Nat.le_of_ble_eq_true rfl, Nat.le_of_ble_eq_true rfl⟩ rfl hl.1 (Nat.le_of_ble_eq_true rfl) dX0_has_2 ⟨Nat.zero_le _, Nat.zero_le _⟩ rfl ?_
  have hq := seatF_rg (el := el) (v := v) z.toNat
  refine j_bi hx hb dX0_has_5 rfl ?_
  refine j_ieq (tgt := 14) hx hb (by omega) (by omega) dX0_has_7 (by decide) (fun c1 => ?_) (fun c1 => ?_)
  · refine j_c hx hb dX0_has_14 ?_
    exact p_zret hx hb hr hlocks (by first | decide | exact b2i_or) (by first | rfl | omega | exact (b2i_t (by omega)).symm | exact (b2i_f (by omega)).symm | (simp only [b2i]; (repeat' split) <;> first | rfl | omega | (exfalso; omega))) dX0_has_15
  · refine j_c hx hb dX0_has_10 ?_
    refine lv_goto (tgt := 15) hx hb dX0_has_11 (by decide) ?_
    exact p_zret hx hb hr hlocks (by first | decide | exact b2i_or) (by first | rfl | omega | exact (b2i_t (by omega)).symm | exact (b2i_f (by omega)).symm | (simp only [b2i]; (repeat' split) <;> first | rfl | omega | (exfalso; omega))) dX0_has_15
