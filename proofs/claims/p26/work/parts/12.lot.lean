set_option maxHeartbeats 4000000 in
set_option maxRecDepth 100000 in
theorem kX2_state (l : Launch) (D : va_G) (cI cV : ClassId) (a : Nat → Nat) (s : Nat → Int)   : PM l yX2_state wsX2_state 0 0 [.ref (a 10)] (lotw cI a s) D cI cV (some (.int (iI (s 6)))) := by
  refine PM.of (cc := cX2_state) (maxL := 1) (ret := (some .int)) (by decide) rfl (Nat.le_of_ble_eq_true rfl) ?_
  intro p e s0 m below meth c ls hx hb hr hts hown hlocks hml hP hK hl
  have hown : s0.vm.findClass RX2 = some m.cls := hown
  have hin : ∀ w ∈ u_ws RX2 TX2 7, w ∈ wsX2_state := by decide +kernel
  have hl : lv_has ls 1 [(0, .ref (a 10))] := hl
  refine lv_aload_n hx hb dX2_state_0 rfl (lv_at hl 0 rfl) ?_
  refine Lg0 hx hb hts hin hown hK hP (by decide +kernel) dX2_state_1 ?_
  exact p_iret hx hb hr hlocks (by first | rfl | omega | exact (b2i_t (by omega)).symm | exact (b2i_f (by omega)).symm | (simp only [b2i]; (repeat' split) <;> first | rfl | omega | (exfalso; omega))) dX2_state_4
set_option maxHeartbeats 4000000 in
set_option maxRecDepth 100000 in
theorem kX2_draws (l : Launch) (D : va_G) (cI cV : ClassId) (a : Nat → Nat) (s : Nat → Int)   : PM l yX2_draws wsX2_draws 0 0 [.ref (a 10)] (lotw cI a s) D cI cV (some (.int (iI (s 7)))) := by
  refine PM.of (cc := cX2_draws) (maxL := 1) (ret := (some .int)) (by decide) rfl (Nat.le_of_ble_eq_true rfl) ?_
  intro p e s0 m below meth c ls hx hb hr hts hown hlocks hml hP hK hl
  have hown : s0.vm.findClass RX2 = some m.cls := hown
  have hin : ∀ w ∈ u_ws RX2 TX2 7, w ∈ wsX2_draws := by decide +kernel
  have hl : lv_has ls 1 [(0, .ref (a 10))] := hl
  refine lv_aload_n hx hb dX2_draws_0 rfl (lv_at hl 0 rfl) ?_
  refine Lg1 hx hb hts hin hown hK hP (by decide +kernel) dX2_draws_1 ?_
  exact p_iret hx hb hr hlocks (by first | rfl | omega | exact (b2i_t (by omega)).symm | exact (b2i_f (by omega)).symm | (simp only [b2i]; (repeat' split) <;> first | rfl | omega | (exfalso; omega))) dX2_draws_4
set_option maxHeartbeats 4000000 in
set_option maxRecDepth 100000 in
theorem kX2_lastSeat (l : Launch) (D : va_G) (cI cV : ClassId) (a : Nat → Nat) (s : Nat → Int)  (hbs : ∀ k, bd (s k)) (h07 : 0 ≤ s 7 ∧ s 7 ≤ 60) (hpos : 0 < s 7) : PM l yX2_lastSeat wsX2_lastSeat 0 0 [.ref (a 10)] (lotw cI a s) D cI cV (some (.int (iI (s (226 + 5 * (s 7 - 1).toNat))))) := by
  refine PM.of (cc := cX2_lastSeat) (maxL := 1) (ret := (some .int)) (by decide) rfl (Nat.le_of_ble_eq_true rfl) ?_
  intro p e s0 m below meth c ls hx hb hr hts hown hlocks hml hP hK hl
  have hown : s0.vm.findClass RX2 = some m.cls := hown
  have hin : ∀ w ∈ u_ws RX2 TX2 7, w ∈ wsX2_lastSeat := by decide +kernel
  have hl : lv_has ls 1 [(0, .ref (a 10))] := hl
  refine lv_aload_n hx hb dX2_lastSeat_0 rfl (lv_at hl 0 rfl) ?_
  refine Lg1 hx hb hts hin hown hK hP (by decide +kernel) dX2_lastSeat_1 ?_
  refine j_zle (tgt := 21) hx hb (by omega) dX2_lastSeat_4 (by decide) (fun c1 => ?_) (fun c1 => ?_)
  · refine j_bi hx hb dX2_lastSeat_21 rfl ?_
    exact p_iret hx hb hr hlocks (by first | rfl | omega | exact (b2i_t (by omega)).symm | exact (b2i_f (by omega)).symm | (simp only [b2i]; (repeat' split) <;> first | rfl | omega | (exfalso; omega))) dX2_lastSeat_23
  · refine lv_aload_n hx hb dX2_lastSeat_7 rfl (lv_at hl 0 rfl) ?_
    refine Lg6 hx hb hts hin hown hK hP (by decide +kernel) dX2_lastSeat_8 ?_
    refine lv_aload_n hx hb dX2_lastSeat_11 rfl (lv_at hl 0 rfl) ?_
    refine Lg1 hx hb hts hin hown hK hP (by decide +kernel) dX2_lastSeat_12 ?_
    refine j_c hx hb dX2_lastSeat_15 ?_
    refine j_sub hx hb dX2_lastSeat_16 ?_
    refine La4 hx hb hK hP (by omega) dX2_lastSeat_17 ?_
    have r1_20 : bd (s (226 + 5 * (((s 7) - 1).toNat))) := hbs _
    refine lv_goto (tgt := 23) hx hb dX2_lastSeat_18 (by decide) ?_
    exact p_iret hx hb hr hlocks (by first | rfl | omega | exact (b2i_t (by omega)).symm | exact (b2i_f (by omega)).symm | (simp only [b2i]; (repeat' split) <;> first | rfl | omega | (exfalso; omega))) dX2_lastSeat_23
set_option maxHeartbeats 4000000 in
set_option maxRecDepth 100000 in
theorem kX2_isForged (l : Launch) (D : va_G) (cI cV : ClassId) (a : Nat → Nat) (s : Nat → Int) (x : Int) (r_x : rg x) (hbs : ∀ k, bd (s k)) (h07 : 0 ≤ s 7 ∧ s 7 ≤ 60) : PM l yX2_isForged wsX2_isForged 0 0 [.ref (a 10), .int (iI (x))] (lotw cI a s) D cI cV (some (.int (iI (b2i ((0 ≤ x ∧ x < s 7) ∧ s (224 + 5 * x.toNat) ≠ s (225 + 5 * x.toNat)))))) := by
  refine PM.of (cc := cX2_isForged) (maxL := 2) (ret := (some .boolean)) (by decide) rfl (Nat.le_of_ble_eq_true rfl) ?_
  intro p e s0 m below meth c ls hx hb hr hts hown hlocks hml hP hK hl
  have hown : s0.vm.findClass RX2 = some m.cls := hown
  have hin : ∀ w ∈ u_ws RX2 TX2 7, w ∈ wsX2_isForged := by decide +kernel
  have hl : lv_has ls 2 [(0, .ref (a 10)), (1, .int (iI (x)))] := hl
  refine lv_iload_n hx hb dX2_isForged_0 rfl (lv_at hl 1 rfl) ?_
  refine j_zlt (tgt := 31) hx hb (by omega) dX2_isForged_1 (by decide) (fun c1 => ?_) (fun c1 => ?_)
  · refine j_c hx hb dX2_isForged_31 ?_
    exact p_zret hx hb hr hlocks (by first | decide | exact b2i_or) (by first | rfl | omega | exact (b2i_t (by omega)).symm | exact (b2i_f (by omega)).symm | (simp only [b2i]; (repeat' split) <;> first | rfl | omega | (exfalso; omega))) dX2_isForged_32
  · refine lv_iload_n hx hb dX2_isForged_4 rfl (lv_at hl 1 rfl) ?_
    refine lv_aload_n hx hb dX2_isForged_5 rfl (lv_at hl 0 rfl) ?_
    refine Lg1 hx hb hts hin hown hK hP (by decide +kernel) dX2_isForged_6 ?_
    refine j_ige (tgt := 31) hx hb (by omega) (by omega) dX2_isForged_9 (by decide) (fun c2 => ?_) (fun c2 => ?_)
    · refine j_c hx hb dX2_isForged_31 ?_
      exact p_zret hx hb hr hlocks (by first | decide | exact b2i_or) (by first | rfl | omega | exact (b2i_t (by omega)).symm | exact (b2i_f (by omega)).symm | (simp only [b2i]; (repeat' split) <;> first | rfl | omega | (exfalso; omega))) dX2_isForged_32
    · refine lv_aload_n hx hb dX2_isForged_12 rfl (lv_at hl 0 rfl) ?_
      refine Lg5 hx hb hts hin hown hK hP (by decide +kernel) dX2_isForged_13 ?_
      refine lv_iload_n hx hb dX2_isForged_16 rfl (lv_at hl 1 rfl) ?_
      refine La3 hx hb hK hP (by omega) dX2_isForged_17 ?_
      have r2_22 : bd (s (224 + 5 * x.toNat)) := hbs _
      refine lv_aload_n hx hb dX2_isForged_18 rfl (lv_at hl 0 rfl) ?_
      refine Lg4 hx hb hts hin hown hK hP (by decide +kernel) dX2_isForged_19 ?_
      refine lv_iload_n hx hb dX2_isForged_22 rfl (lv_at hl 1 rfl) ?_
      refine La2 hx hb hK hP (by omega) dX2_isForged_23 ?_
      have r2_27 : bd (s (225 + 5 * x.toNat)) := hbs _
      refine j_ieq (tgt := 31) hx hb (by omega) (by omega) dX2_isForged_24 (by decide) (fun c3 => ?_) (fun c3 => ?_)
      · refine j_c hx hb dX2_isForged_31 ?_
        exact p_zret hx hb hr hlocks (by first | decide | exact b2i_or) (by first | rfl | omega | exact (b2i_t (by omega)).symm | exact (b2i_f (by omega)).symm | (simp only [b2i]; (repeat' split) <;> first | rfl | omega | (exfalso; omega))) dX2_isForged_32
      · refine j_c hx hb dX2_isForged_27 ?_
        refine lv_goto (tgt := 32) hx hb dX2_isForged_28 (by decide) ?_
        exact p_zret hx hb hr hlocks (by first | decide | exact b2i_or) (by first | rfl | omega | exact (b2i_t (by omega)).symm | exact (b2i_f (by omega)).symm | (simp only [b2i]; (repeat' split) <;> first | rfl | omega | (exfalso; omega))) dX2_isForged_32
set_option maxHeartbeats 4000000 in
set_option maxRecDepth 100000 in
theorem kX2_forgedDraws (l : Launch) (D : va_G) (cI cV : ClassId) (a : Nat → Nat) (s : Nat → Int)  (hbs : ∀ k, bd (s k)) (h07 : 0 ≤ s 7 ∧ s 7 ≤ 60) : PM l yX2_forgedDraws wsX2_forgedDraws 1 21 [.ref (a 10)] (lotw cI a s) D cI cV (some (.int (iI (sm (fun i => b2i ((0 ≤ (i : Int) ∧ (i : Int) < s 7) ∧ s (224 + 5 * (i : Int).toNat) ≠ s (225 + 5 * (i : Int).toNat))) (s 7).toNat)))) := by
  refine PM.of (cc := cX2_forgedDraws) (maxL := 3) (ret := (some .int)) (by decide) rfl (Nat.le_of_ble_eq_true rfl) ?_
  intro p e s0 m below meth c ls hx hb hr hts hown hlocks hml hP hK hl
  have hown : s0.vm.findClass RX2 = some m.cls := hown
  have hin : ∀ w ∈ u_ws RX2 TX2 7, w ∈ wsX2_forgedDraws := by decide +kernel
  have hl : lv_has ls 3 [(0, .ref (a 10))] := hl
  refine j_c hx hb dX2_forgedDraws_0 ?_
  refine lv_istore_n (lv' := [(1, .int (iI (0))), (0, .ref (a 10))]) hx hb dX2_forgedDraws_1 rfl hl (by decide) rfl (fun ls hl => ?_)
  refine j_c hx hb dX2_forgedDraws_2 ?_
  refine lv_istore_n (lv' := [(2, .int (iI (0))), (1, .int (iI (0))), (0, .ref (a 10))]) hx hb dX2_forgedDraws_3 rfl hl (by decide) rfl (fun ls hl => ?_)
  have LP4 : ∀ (fu : Nat) (i : Nat) (x2 x1 : Int), x2 = (i : Int) → x1 = sm (fun i => b2i ((0 ≤ (i : Int) ∧ (i : Int) < s 7) ∧ s (224 + 5 * (i : Int).toNat) ≠ s (225 + 5 * (i : Int).toNat))) i → ((i : Int) ≤ s 7) → (s 7).toNat - i < fu → ∀ ls : Array Slot, lv_has ls 3 [(2, .int (iI (x2))), (1, .int (iI (x1))), (0, .ref (a 10))] → W p l e (headSpec wsX2_forgedDraws (rmK 1 21)).room s0 m ([.ref (a 10)] : List Value).toArray below meth c s0.heap [] 0 0 (MQ below (pQ (some (.int (iI (sm (fun i => b2i ((0 ≤ (i : Int) ∧ (i : Int) < s 7) ∧ s (224 + 5 * (i : Int).toNat) ≠ s (225 + 5 * (i : Int).toNat))) (s 7).toNat))))) ([.ref (a 10)] : List Value).toArray s0 0 0 (fun _ => False)) (F0 m 4 ls []) := by
    intro fu
    induction fu with
    | zero =>
      intros
      omega
    | succ fu ih =>
      intro i x2 x1 ex2 ex1 hinv hmeas  ls hl
      subst ex2
      subst ex1
      have hsm := sm_rg (f := fun i => b2i ((0 ≤ (i : Int) ∧ (i : Int) < s 7) ∧ s (224 + 5 * (i : Int).toNat) ≠ s (225 + 5 * (i : Int).toNat))) (fun k => b2i_rg) i
      refine lv_iload_n hx hb dX2_forgedDraws_4 rfl (lv_at hl 0 rfl) ?_
      refine lv_aload_n hx hb dX2_forgedDraws_5 rfl (lv_at hl 2 rfl) ?_
      refine Lg1 hx hb hts hin hown hK hP (by decide +kernel) dX2_forgedDraws_6 ?_
      refine j_ige (tgt := 29) hx hb (by omega) (by omega) dX2_forgedDraws_9 (by decide) (fun c1 => ?_) (fun c1 => ?_)
      · refine lv_iload_n hx hb dX2_forgedDraws_29 rfl (lv_at hl 1 rfl) ?_
        exact p_iret hx hb hr hlocks (by rw [show (s 7).toNat = i from by omega]) dX2_forgedDraws_30
      · refine lv_aload_n hx hb dX2_forgedDraws_12 rfl (lv_at hl 2 rfl) ?_
        refine lv_iload_n hx hb dX2_forgedDraws_13 rfl (lv_at hl 0 rfl) ?_
        refine p_callV (v := .int (iI (b2i ((0 ≤ (i : Int) ∧ (i : Int) < s 7) ∧ s (224 + 5 * (i : Int).toNat) ≠ s (225 + 5 * (i : Int).toNat))))) (ci := 2) (n := 1) (As := [.int (iI ((i : Int)))]) (rest := []) ⟨hx, hb, hml, hown, hts⟩ hK (kX2_isForged l D cI cV a s (i : Int) (by omega) hbs (by omega)) hP rfl rfl gX2_forgedDraws_X2_isForged rfl (by decide +kernel) ⟨Nat.le_of_ble_eq_true rfl, Nat.le_of_ble_eq_true rfl⟩ rfl hl.1 (Nat.le_of_ble_eq_true rfl) dX2_forgedDraws_14 ⟨Nat.zero_le _, Nat.zero_le _⟩ rfl ?_
        refine j_beq (tgt := 23) hx hb dX2_forgedDraws_17 (by decide) (fun c2 => ?_) (fun c2 => ?_)
        · refine lv_iinc (v := iI ((i : Int) + 1)) (lv' := [(2, .int (iI ((i : Int) + 1))), (1, .int (iI (sm (fun i => b2i ((0 ≤ (i : Int) ∧ (i : Int) < s 7) ∧ s (224 + 5 * (i : Int).toNat) ≠ s (225 + 5 * (i : Int).toNat))) i))), (0, .ref (a 10))]) hx hb dX2_forgedDraws_23 hl (k := 0) rfl (iI_add _ _) (by decide) rfl (fun ls hl => ?_)
          refine lv_goto (tgt := 4) hx hb dX2_forgedDraws_26 (by decide) ?_
          exact ih (i + 1) ((i : Int) + 1) (sm (fun i => b2i ((0 ≤ (i : Int) ∧ (i : Int) < s 7) ∧ s (224 + 5 * (i : Int).toNat) ≠ s (225 + 5 * (i : Int).toNat))) i) (by first | rfl | omega | (simp only [sm, b2i]; (repeat' split) <;> first | rfl | omega | (exfalso; omega) | (exfalso; simp_all))) (by first | rfl | omega | (simp only [sm, b2i]; (repeat' split) <;> first | rfl | omega | (exfalso; omega) | (exfalso; simp_all))) (by omega) (by omega) ls (lv_sub hl [0, 1, 2] rfl)
        · refine lv_iinc (v := iI ((sm (fun i => b2i ((0 ≤ (i : Int) ∧ (i : Int) < s 7) ∧ s (224 + 5 * (i : Int).toNat) ≠ s (225 + 5 * (i : Int).toNat))) i) + 1)) (lv' := [(1, .int (iI ((sm (fun i => b2i ((0 ≤ (i : Int) ∧ (i : Int) < s 7) ∧ s (224 + 5 * (i : Int).toNat) ≠ s (225 + 5 * (i : Int).toNat))) i) + 1))), (2, .int (iI ((i : Int)))), (0, .ref (a 10))]) hx hb dX2_forgedDraws_20 hl (k := 1) rfl (iI_add _ _) (by decide) rfl (fun ls hl => ?_)
          refine lv_iinc (v := iI ((i : Int) + 1)) (lv' := [(2, .int (iI ((i : Int) + 1))), (1, .int (iI ((sm (fun i => b2i ((0 ≤ (i : Int) ∧ (i : Int) < s 7) ∧ s (224 + 5 * (i : Int).toNat) ≠ s (225 + 5 * (i : Int).toNat))) i) + 1))), (0, .ref (a 10))]) hx hb dX2_forgedDraws_23 hl (k := 1) rfl (iI_add _ _) (by decide) rfl (fun ls hl => ?_)
          refine lv_goto (tgt := 4) hx hb dX2_forgedDraws_26 (by decide) ?_
          exact ih (i + 1) ((i : Int) + 1) ((sm (fun i => b2i ((0 ≤ (i : Int) ∧ (i : Int) < s 7) ∧ s (224 + 5 * (i : Int).toNat) ≠ s (225 + 5 * (i : Int).toNat))) i) + 1) (by first | rfl | omega | (simp only [sm, b2i]; (repeat' split) <;> first | rfl | omega | (exfalso; omega) | (exfalso; simp_all))) (by first | rfl | omega | (simp only [sm, b2i]; (repeat' split) <;> first | rfl | omega | (exfalso; omega) | (exfalso; simp_all))) (by omega) (by omega) ls (lv_sub hl [0, 1, 2] rfl)
  exact LP4 (_) 0 0 0 (by first | rfl | omega) (by first | rfl | omega) (by omega) (by exact Nat.lt_succ_self _) ls (lv_sub hl [0, 1, 2] rfl)
set_option maxHeartbeats 4000000 in
set_option maxRecDepth 100000 in
theorem kX2_drawsOf (l : Launch) (D : va_G) (cI cV : ClassId) (a : Nat → Nat) (s : Nat → Int) (v : Int) (r_v : rg v) (hbs : ∀ k, bd (s k)) (h07 : 0 ≤ s 7 ∧ s 7 ≤ 60) : PM l yX2_drawsOf wsX2_drawsOf 0 0 [.ref (a 10), .int (iI (v))] (lotw cI a s) D cI cV (some (.int (iI (sm (fun i => b2i (s (224 + 5 * i) = v)) (s 7).toNat)))) := by
  refine PM.of (cc := cX2_drawsOf) (maxL := 4) (ret := (some .int)) (by decide) rfl (Nat.le_of_ble_eq_true rfl) ?_
  intro p e s0 m below meth c ls hx hb hr hts hown hlocks hml hP hK hl
  have hown : s0.vm.findClass RX2 = some m.cls := hown
  have hin : ∀ w ∈ u_ws RX2 TX2 7, w ∈ wsX2_drawsOf := by decide +kernel
  have hl : lv_has ls 4 [(0, .ref (a 10)), (1, .int (iI (v)))] := hl
  refine j_c hx hb dX2_drawsOf_0 ?_
  refine lv_istore_n (lv' := [(2, .int (iI (0))), (0, .ref (a 10)), (1, .int (iI (v)))]) hx hb dX2_drawsOf_1 rfl hl (by decide) rfl (fun ls hl => ?_)
  refine j_c hx hb dX2_drawsOf_2 ?_
  refine lv_istore_n (lv' := [(3, .int (iI (0))), (2, .int (iI (0))), (0, .ref (a 10)), (1, .int (iI (v)))]) hx hb dX2_drawsOf_3 rfl hl (by decide) rfl (fun ls hl => ?_)
  have LP4 : ∀ (fu : Nat) (i : Nat) (x3 x2 : Int), x3 = (i : Int) → x2 = sm (fun i => b2i (s (224 + 5 * i) = v)) i → ((i : Int) ≤ s 7) → (s 7).toNat - i < fu → ∀ ls : Array Slot, lv_has ls 4 [(3, .int (iI (x3))), (2, .int (iI (x2))), (0, .ref (a 10)), (1, .int (iI (v)))] → W p l e (headSpec wsX2_drawsOf (rmK 0 0)).room s0 m ([.ref (a 10), .int (iI (v))] : List Value).toArray below meth c s0.heap [] 0 0 (MQ below (pQ (some (.int (iI (sm (fun i => b2i (s (224 + 5 * i) = v)) (s 7).toNat))))) ([.ref (a 10), .int (iI (v))] : List Value).toArray s0 0 0 (fun _ => False)) (F0 m 4 ls []) := by
    intro fu
    induction fu with
    | zero =>
      intros
      omega
    | succ fu ih =>
      intro i x3 x2 ex3 ex2 hinv hmeas  ls hl
      subst ex3
      subst ex2
      have hsm := sm_rg (f := fun i => b2i (s (224 + 5 * i) = v)) (fun k => b2i_rg) i
      refine lv_iload_n hx hb dX2_drawsOf_4 rfl (lv_at hl 0 rfl) ?_
      refine lv_aload_n hx hb dX2_drawsOf_5 rfl (lv_at hl 2 rfl) ?_
      refine Lg1 hx hb hts hin hown hK hP (by decide +kernel) dX2_drawsOf_6 ?_
      refine j_ige (tgt := 31) hx hb (by omega) (by omega) dX2_drawsOf_9 (by decide) (fun c1 => ?_) (fun c1 => ?_)
      · refine lv_iload_n hx hb dX2_drawsOf_31 rfl (lv_at hl 1 rfl) ?_
        exact p_iret hx hb hr hlocks (by rw [show (s 7).toNat = i from by omega]) dX2_drawsOf_32
      · refine lv_aload_n hx hb dX2_drawsOf_12 rfl (lv_at hl 2 rfl) ?_
        refine Lg5 hx hb hts hin hown hK hP (by decide +kernel) dX2_drawsOf_13 ?_
        refine lv_iload_n hx hb dX2_drawsOf_16 rfl (lv_at hl 0 rfl) ?_
        refine La3 hx hb hK hP (by omega) dX2_drawsOf_17 ?_
        rw [Int.toNat_natCast]
        have r1_34 : bd (s (224 + 5 * i)) := hbs _
        refine lv_iload_n hx hb dX2_drawsOf_18 rfl (lv_at hl 3 rfl) ?_
        refine j_ine (tgt := 25) hx hb (by omega) (by omega) dX2_drawsOf_19 (by decide) (fun c2 => ?_) (fun c2 => ?_)
        · refine lv_iinc (v := iI ((i : Int) + 1)) (lv' := [(3, .int (iI ((i : Int) + 1))), (2, .int (iI (sm (fun i => b2i (s (224 + 5 * i) = v)) i))), (0, .ref (a 10)), (1, .int (iI (v)))]) hx hb dX2_drawsOf_25 hl (k := 0) rfl (iI_add _ _) (by decide) rfl (fun ls hl => ?_)
          refine lv_goto (tgt := 4) hx hb dX2_drawsOf_28 (by decide) ?_
          exact ih (i + 1) ((i : Int) + 1) (sm (fun i => b2i (s (224 + 5 * i) = v)) i) (by first | rfl | omega | (simp only [sm, b2i]; (repeat' split) <;> first | rfl | omega | (exfalso; omega) | (exfalso; simp_all))) (by first | rfl | omega | (simp only [sm, b2i]; (repeat' split) <;> first | rfl | omega | (exfalso; omega) | (exfalso; simp_all))) (by omega) (by omega) ls (lv_sub hl [0, 1, 2, 3] rfl)
        · refine lv_iinc (v := iI ((sm (fun i => b2i (s (224 + 5 * i) = v)) i) + 1)) (lv' := [(2, .int (iI ((sm (fun i => b2i (s (224 + 5 * i) = v)) i) + 1))), (3, .int (iI ((i : Int)))), (0, .ref (a 10)), (1, .int (iI (v)))]) hx hb dX2_drawsOf_22 hl (k := 1) rfl (iI_add _ _) (by decide) rfl (fun ls hl => ?_)
          refine lv_iinc (v := iI ((i : Int) + 1)) (lv' := [(3, .int (iI ((i : Int) + 1))), (2, .int (iI ((sm (fun i => b2i (s (224 + 5 * i) = v)) i) + 1))), (0, .ref (a 10)), (1, .int (iI (v)))]) hx hb dX2_drawsOf_25 hl (k := 1) rfl (iI_add _ _) (by decide) rfl (fun ls hl => ?_)
          refine lv_goto (tgt := 4) hx hb dX2_drawsOf_28 (by decide) ?_
          exact ih (i + 1) ((i : Int) + 1) ((sm (fun i => b2i (s (224 + 5 * i) = v)) i) + 1) (by first | rfl | omega | (simp only [sm, b2i]; (repeat' split) <;> first | rfl | omega | (exfalso; omega) | (exfalso; simp_all))) (by first | rfl | omega | (simp only [sm, b2i]; (repeat' split) <;> first | rfl | omega | (exfalso; omega) | (exfalso; simp_all))) (by omega) (by omega) ls (lv_sub hl [0, 1, 2, 3] rfl)
  exact LP4 (_) 0 0 0 (by first | rfl | omega) (by first | rfl | omega) (by omega) (by exact Nat.lt_succ_self _) ls (lv_sub hl [0, 1, 2, 3] rfl)
set_option maxHeartbeats 4000000 in
set_option maxRecDepth 100000 in
theorem kX2_about (l : Launch) (D : va_G) (cI cV : ClassId) (a : Nat → Nat) (s : Nat → Int) (x : Int) (q : Int) (r_x : rg x) (r_q : rg q) (hbs : ∀ k, bd (s k)) (h07 : 0 ≤ s 7 ∧ s 7 ≤ 60) : PM l yX2_about wsX2_about 1 21 [.ref (a 10), .int (iI (x)), .int (iI (q))] (lotw cI a s) D cI cV (some (.int (iI (if 0 ≤ x ∧ x < s 7 then (if q = 0 then s (222 + 5 * x.toNat) else if q = 1 then s (223 + 5 * x.toNat) else if q = 2 then s (224 + 5 * x.toNat) else if q = 3 then b2i ((0 ≤ x ∧ x < s 7) ∧ s (224 + 5 * x.toNat) ≠ s (225 + 5 * x.toNat)) else if q = 4 then s (226 + 5 * x.toNat) else -1) else -1)))) := by
  refine PM.of (cc := cX2_about) (maxL := 3) (ret := (some .int)) (by decide) rfl (Nat.le_of_ble_eq_true rfl) ?_
  intro p e s0 m below meth c ls hx hb hr hts hown hlocks hml hP hK hl
  have hown : s0.vm.findClass RX2 = some m.cls := hown
  have hin : ∀ w ∈ u_ws RX2 TX2 7, w ∈ wsX2_about := by decide +kernel
  have hl : lv_has ls 3 [(0, .ref (a 10)), (1, .int (iI (x))), (2, .int (iI (q)))] := hl
  refine lv_iload_n hx hb dX2_about_0 rfl (lv_at hl 1 rfl) ?_
  refine j_zlt (tgt := 12) hx hb (by omega) dX2_about_1 (by decide) (fun c1 => ?_) (fun c1 => ?_)
  · refine j_c hx hb dX2_about_12 ?_
    exact p_iret hx hb hr hlocks (by (repeat' split) <;> first | rfl | omega | (exfalso; omega) | (rw [b2i_t (by assumption)]) | (rw [b2i_f (by assumption)])) dX2_about_13
  · refine lv_iload_n hx hb dX2_about_4 rfl (lv_at hl 1 rfl) ?_
    refine lv_aload_n hx hb dX2_about_5 rfl (lv_at hl 0 rfl) ?_
    refine Lg1 hx hb hts hin hown hK hP (by decide +kernel) dX2_about_6 ?_
    refine j_ilt (tgt := 14) hx hb (by omega) (by omega) dX2_about_9 (by decide) (fun c2 => ?_) (fun c2 => ?_)
    · refine lv_iload_n hx hb dX2_about_14 rfl (lv_at hl 2 rfl) ?_
      by_cases c3 : q = 0
      · refine j_tin (k := 0) (off := 33) (tgt := 48) hx hb c3 (by decide) dX2_about_15 (by decide) (by decide) (by decide) (by decide) ?_
        refine lv_aload_n hx hb dX2_about_48 rfl (lv_at hl 0 rfl) ?_
        refine Lg2 hx hb hts hin hown hK hP (by decide +kernel) dX2_about_49 ?_
        refine lv_iload_n hx hb dX2_about_52 rfl (lv_at hl 1 rfl) ?_
        refine La0 hx hb hK hP (by omega) dX2_about_53 ?_
        have r3_23 : bd (s (222 + 5 * x.toNat)) := hbs _
        exact p_iret hx hb hr hlocks (by (repeat' split) <;> first | rfl | omega | (exfalso; omega) | (rw [b2i_t (by assumption)]) | (rw [b2i_f (by assumption)])) dX2_about_54
      by_cases c4 : q = 1
      · refine j_tin (k := 1) (off := 40) (tgt := 55) hx hb c4 (by decide) dX2_about_15 (by decide) (by decide) (by decide) (by decide) ?_
        refine lv_aload_n hx hb dX2_about_55 rfl (lv_at hl 0 rfl) ?_
        refine Lg3 hx hb hts hin hown hK hP (by decide +kernel) dX2_about_56 ?_
        refine lv_iload_n hx hb dX2_about_59 rfl (lv_at hl 1 rfl) ?_
        refine La1 hx hb hK hP (by omega) dX2_about_60 ?_
        have r4_31 : bd (s (223 + 5 * x.toNat)) := hbs _
        exact p_iret hx hb hr hlocks (by (repeat' split) <;> first | rfl | omega | (exfalso; omega) | (rw [b2i_t (by assumption)]) | (rw [b2i_f (by assumption)])) dX2_about_61
      by_cases c5 : q = 2
      · refine j_tin (k := 2) (off := 47) (tgt := 62) hx hb c5 (by decide) dX2_about_15 (by decide) (by decide) (by decide) (by decide) ?_
        refine lv_aload_n hx hb dX2_about_62 rfl (lv_at hl 0 rfl) ?_
        refine Lg5 hx hb hts hin hown hK hP (by decide +kernel) dX2_about_63 ?_
        refine lv_iload_n hx hb dX2_about_66 rfl (lv_at hl 1 rfl) ?_
        refine La3 hx hb hK hP (by omega) dX2_about_67 ?_
        have r5_39 : bd (s (224 + 5 * x.toNat)) := hbs _
        exact p_iret hx hb hr hlocks (by (repeat' split) <;> first | rfl | omega | (exfalso; omega) | (rw [b2i_t (by assumption)]) | (rw [b2i_f (by assumption)])) dX2_about_68
      by_cases c6 : q = 3
      · refine j_tin (k := 3) (off := 54) (tgt := 69) hx hb c6 (by decide) dX2_about_15 (by decide) (by decide) (by decide) (by decide) ?_
        refine lv_aload_n hx hb dX2_about_69 rfl (lv_at hl 0 rfl) ?_
        refine lv_iload_n hx hb dX2_about_70 rfl (lv_at hl 1 rfl) ?_
        refine p_callV (v := .int (iI (b2i ((0 ≤ x ∧ x < s 7) ∧ s (224 + 5 * x.toNat) ≠ s (225 + 5 * x.toNat))))) (ci := 2) (n := 1) (As := [.int (iI (x))]) (rest := []) ⟨hx, hb, hml, hown, hts⟩ hK (kX2_isForged l D cI cV a s x (by omega) hbs (by omega)) hP rfl rfl gX2_about_X2_isForged rfl (by decide +kernel) ⟨Nat.le_of_ble_eq_true rfl, Nat.le_of_ble_eq_true rfl⟩ rfl hl.1 (Nat.le_of_ble_eq_true rfl) dX2_about_71 ⟨Nat.zero_le _, Nat.zero_le _⟩ rfl ?_
        refine j_beq (tgt := 81) hx hb dX2_about_74 (by decide) (fun c7 => ?_) (fun c7 => ?_)
        · refine j_c hx hb dX2_about_81 ?_
          exact p_iret hx hb hr hlocks (by (repeat' split) <;> first | rfl | omega | (exfalso; omega) | (rw [b2i_t (by assumption)]) | (rw [b2i_f (by assumption)])) dX2_about_82
        · refine j_c hx hb dX2_about_77 ?_
          refine lv_goto (tgt := 82) hx hb dX2_about_78 (by decide) ?_
          exact p_iret hx hb hr hlocks (by (repeat' split) <;> first | rfl | omega | (exfalso; omega) | (rw [b2i_t (by assumption)]) | (rw [b2i_f (by assumption)])) dX2_about_82
      by_cases c8 : q = 4
      · refine j_tin (k := 4) (off := 68) (tgt := 83) hx hb c8 (by decide) dX2_about_15 (by decide) (by decide) (by decide) (by decide) ?_
        refine lv_aload_n hx hb dX2_about_83 rfl (lv_at hl 0 rfl) ?_
        refine Lg6 hx hb hts hin hown hK hP (by decide +kernel) dX2_about_84 ?_
        refine lv_iload_n hx hb dX2_about_87 rfl (lv_at hl 1 rfl) ?_
        refine La4 hx hb hK hP (by omega) dX2_about_88 ?_
        have r8_58 : bd (s (226 + 5 * x.toNat)) := hbs _
        exact p_iret hx hb hr hlocks (by (repeat' split) <;> first | rfl | omega | (exfalso; omega) | (rw [b2i_t (by assumption)]) | (rw [b2i_f (by assumption)])) dX2_about_89
      refine j_tout (tgt := 90) hx hb (by omega) dX2_about_15 (by omega) (by decide) ?_
      refine j_c hx hb dX2_about_90 ?_
      exact p_iret hx hb hr hlocks (by (repeat' split) <;> first | rfl | omega | (exfalso; omega) | (rw [b2i_t (by assumption)]) | (rw [b2i_f (by assumption)])) dX2_about_91
    · refine j_c hx hb dX2_about_12 ?_
      exact p_iret hx hb hr hlocks (by (repeat' split) <;> first | rfl | omega | (exfalso; omega) | (rw [b2i_t (by assumption)]) | (rw [b2i_f (by assumption)])) dX2_about_13
set_option maxHeartbeats 4000000 in
set_option maxRecDepth 100000 in
theorem kX2_after (l : Launch) (D : va_G) (cI cV : ClassId)  (x : Int) (h_x : 0 ≤ x ∧ x < 65536) : PM l yX2_after wsX2_after 0 0 [.int (iI (x))] (([] : va_W)) D cI cV (some (.int (iI ((x * 25173 + 13849) % 65536)))) := by
  refine PM.of (cc := cX2_after) (maxL := 1) (ret := (some .int)) (by decide) rfl (Nat.le_of_ble_eq_true rfl) ?_
  intro p e s0 m below meth c ls hx hb hr hts hown hlocks hml hP hK hl
  have hown : s0.vm.findClass RX2 = some m.cls := hown
  have hl : lv_has ls 1 [(0, .int (iI (x)))] := hl
  refine lv_iload_n hx hb dX2_after_0 rfl (lv_at hl 0 rfl) ?_
  refine j_si hx hb dX2_after_1 rfl ?_
  refine j_mul hx hb dX2_after_4 ?_
  refine j_si hx hb dX2_after_5 rfl ?_
  refine j_add hx hb dX2_after_8 ?_
  refine j_ldc (n := 65536) hx hb hown (hts (.constant RX2 31 65536) (by decide +kernel)) rfl dX2_after_9 ?_
  refine j_rem hx hb (by omega) (by omega) dX2_after_11 ?_
  exact p_iret hx hb hr hlocks (by first | rfl | omega | exact (b2i_t (by omega)).symm | exact (b2i_f (by omega)).symm | (simp only [b2i]; (repeat' split) <;> first | rfl | omega | (exfalso; omega))) dX2_after_12
