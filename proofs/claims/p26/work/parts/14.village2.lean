set_option maxHeartbeats 4000000 in
set_option maxRecDepth 100000 in
theorem kX4_oldCounts (l : Launch) (D : va_G) (cI cV : ClassId) (a : Nat → Nat) (s : Nat → Int) (nz : Int) (nw : Nat → Int) (y : Int) (hV : VI s nz nw) (r_y : rg y) : PM l yX4_oldCounts wsX4_oldCounts 1 20 [.ref (a 0), .int (iI (y))] (vilw cI a s nz nw) D cI cV (some (.int (iI (b2i (s 5 ≠ -9 ∧ (y) ≤ s 5))))) := by
  refine PM.of (cc := cX4_oldCounts) (maxL := 2) (ret := (some .boolean)) (by decide) rfl (Nat.le_of_ble_eq_true rfl) ?_
  intro p e s0 m below meth c ls hx hb hr hts hown hlocks hml hP hK hl
  have hown : s0.vm.findClass RX4 = some m.cls := hown
  have hin : ∀ w ∈ u_ws RX4 TX4 13, w ∈ wsX4_oldCounts := by decide +kernel
  have hl : lv_has ls 2 [(0, .ref (a 0)), (1, .int (iI (y)))] := hl
  obtain ⟨hbs, hbn, h00, h01, h10, h11, hz0, hz1, h30, h31, h40, h41, h70, h71, h60, h61⟩ := id hV
  have hb5 := hbs 5
  have hb2 := hbs 2
  refine lv_aload_n hx hb dX4_oldCounts_0 rfl (lv_at hl 0 rfl) ?_
  refine p_callV (v := .int (iI (b2i (s 5 ≠ -9)))) (ci := 4) (n := 0) (As := []) (rest := []) ⟨hx, hb, hml, hown, hts⟩ hK (kX4_isChanging l D cI cV a s nz nw hV) hP rfl rfl gX4_oldCounts_X4_isChanging rfl (by decide +kernel) ⟨Nat.le_of_ble_eq_true rfl, Nat.le_of_ble_eq_true rfl⟩ rfl hl.1 (Nat.le_of_ble_eq_true rfl) dX4_oldCounts_1 ⟨Nat.zero_le _, Nat.zero_le _⟩ rfl ?_
  refine j_beq (tgt := 19) hx hb dX4_oldCounts_4 (by decide) (fun c1 => ?_) (fun c1 => ?_)
  · refine j_c hx hb dX4_oldCounts_19 ?_
    exact p_zret hx hb hr hlocks (by first | decide | exact b2i_or) (by first | rfl | omega | exact (b2i_t (by omega)).symm | exact (b2i_f (by omega)).symm | (simp only [b2i]; (repeat' split) <;> first | rfl | omega | (exfalso; omega))) dX4_oldCounts_20
  · refine lv_iload_n hx hb dX4_oldCounts_7 rfl (lv_at hl 1 rfl) ?_
    refine lv_aload_n hx hb dX4_oldCounts_8 rfl (lv_at hl 0 rfl) ?_
    refine Vg6 hx hb hts hin hown hK hP (by decide +kernel) dX4_oldCounts_9 ?_
    refine j_igt (tgt := 19) hx hb (by omega) (by omega) dX4_oldCounts_12 (by decide) (fun c2 => ?_) (fun c2 => ?_)
    · refine j_c hx hb dX4_oldCounts_19 ?_
      exact p_zret hx hb hr hlocks (by first | decide | exact b2i_or) (by first | rfl | omega | exact (b2i_t (by omega)).symm | exact (b2i_f (by omega)).symm | (simp only [b2i]; (repeat' split) <;> first | rfl | omega | (exfalso; omega))) dX4_oldCounts_20
    · refine j_c hx hb dX4_oldCounts_15 ?_
      refine lv_goto (tgt := 20) hx hb dX4_oldCounts_16 (by decide) ?_
      exact p_zret hx hb hr hlocks (by first | decide | exact b2i_or) (by first | rfl | omega | exact (b2i_t (by omega)).symm | exact (b2i_f (by omega)).symm | (simp only [b2i]; (repeat' split) <;> first | rfl | omega | (exfalso; omega))) dX4_oldCounts_20
set_option maxHeartbeats 4000000 in
set_option maxRecDepth 100000 in
theorem kX4_drawnWith (l : Launch) (D : va_G) (cI cV : ClassId) (a : Nat → Nat) (s : Nat → Int) (nz : Int) (nw : Nat → Int) (x : Int) (hV : VI s nz nw) (h_x : 0 ≤ x ∧ x < 65536) : PM l yX4_drawnWith wsX4_drawnWith 4 86 [.ref (a 0), .int (iI (x))] (vilw cI a s nz nw) D cI cV (some (.int (iI (if sm (fun i => b2i (¬ (seatF (fun i => s (32 + i)) ((i : Int)) (s 1).toNat ≠ -9))) (s 0).toNat ≤ 0 then -9 else pick (fun i => b2i (¬ (seatF (fun i => s (32 + i)) ((i : Int)) (s 1).toNat ≠ -9))) (((x) * 25173 + 13849) % 65536 % sm (fun i => b2i (¬ (seatF (fun i => s (32 + i)) ((i : Int)) (s 1).toNat ≠ -9))) (s 0).toNat) (s 0).toNat)))) := by
  refine PM.of (cc := cX4_drawnWith) (maxL := 5) (ret := (some .int)) (by decide) rfl (Nat.le_of_ble_eq_true rfl) ?_
  intro p e s0 m below meth c ls hx hb hr hts hown hlocks hml hP hK hl
  have hown : s0.vm.findClass RX4 = some m.cls := hown
  have hin : ∀ w ∈ u_ws RX4 TX4 13, w ∈ wsX4_drawnWith := by decide +kernel
  have hl : lv_has ls 5 [(0, .ref (a 0)), (1, .int (iI (x)))] := hl
  obtain ⟨hbs, hbn, h00, h01, h10, h11, hz0, hz1, h30, h31, h40, h41, h70, h71, h60, h61⟩ := id hV
  have hb5 := hbs 5
  have hb2 := hbs 2
  refine lv_aload_n hx hb dX4_drawnWith_0 rfl (lv_at hl 0 rfl) ?_
  refine p_callV (v := .int (iI (sm (fun i => b2i (¬ (seatF (fun i => s (32 + i)) ((i : Int)) (s 1).toNat ≠ -9))) (s 0).toNat))) (ci := 4) (n := 0) (As := []) (rest := []) ⟨hx, hb, hml, hown, hts⟩ hK (kX4_candidates l D cI cV a s nz nw hV) hP rfl rfl gX4_drawnWith_X4_candidates rfl (by decide +kernel) ⟨Nat.le_of_ble_eq_true rfl, Nat.le_of_ble_eq_true rfl⟩ rfl hl.1 (Nat.le_of_ble_eq_true rfl) dX4_drawnWith_1 ⟨Nat.zero_le _, Nat.zero_le _⟩ rfl ?_
  have f13 := sm_rg (f := (fun i => b2i (¬ (seatF (fun i => s (32 + i)) ((i : Int)) (s 1).toNat ≠ -9)))) (fun k => b2i_rg) ((s 0).toNat)
  refine lv_istore_n (lv' := [(2, .int (iI (sm (fun i => b2i (¬ (seatF (fun i => s (32 + i)) ((i : Int)) (s 1).toNat ≠ -9))) (s 0).toNat))), (0, .ref (a 0)), (1, .int (iI (x)))]) hx hb dX4_drawnWith_4 rfl hl (by decide) rfl (fun ls hl => ?_)
  refine lv_iload_n hx hb dX4_drawnWith_5 rfl (lv_at hl 0 rfl) ?_
  refine j_zgt (tgt := 12) hx hb (by omega) dX4_drawnWith_6 (by decide) (fun c1 => ?_) (fun c1 => ?_)
  · refine lv_iload_n hx hb dX4_drawnWith_12 rfl (lv_at hl 2 rfl) ?_
    refine p_callS (v := .int (iI ((x * 25173 + 13849) % 65536))) (n := 1) (w := []) (As := [.int (iI (x))]) (rest := []) ⟨hx, hb, hml, hown, hts⟩ hK (kX2_after l D cI cV x (by omega)) (fun k q h => by simp at h) gX4_drawnWith_X2_after rfl (by decide +kernel) ⟨Nat.le_of_ble_eq_true rfl, Nat.le_of_ble_eq_true rfl⟩ rfl hl.1 (Nat.le_of_ble_eq_true rfl) dX4_drawnWith_13 ⟨Nat.zero_le _, Nat.zero_le _⟩ rfl ?_
    refine lv_iload_n hx hb dX4_drawnWith_16 rfl (lv_at hl 0 rfl) ?_
    refine j_rem hx hb (by omega) (by omega) dX4_drawnWith_17 ?_
    refine lv_istore_n (lv' := [(3, .int (iI (((x * 25173 + 13849) % 65536) % (sm (fun i => b2i (¬ (seatF (fun i => s (32 + i)) ((i : Int)) (s 1).toNat ≠ -9))) (s 0).toNat)))), (2, .int (iI (sm (fun i => b2i (¬ (seatF (fun i => s (32 + i)) ((i : Int)) (s 1).toNat ≠ -9))) (s 0).toNat))), (0, .ref (a 0)), (1, .int (iI (x)))]) hx hb dX4_drawnWith_18 rfl hl (by decide) rfl (fun ls hl => ?_)
    refine j_c hx hb dX4_drawnWith_19 ?_
    refine lv_istore (lv' := [(4, .int (iI (0))), (3, .int (iI (((x * 25173 + 13849) % 65536) % (sm (fun i => b2i (¬ (seatF (fun i => s (32 + i)) ((i : Int)) (s 1).toNat ≠ -9))) (s 0).toNat)))), (2, .int (iI (sm (fun i => b2i (¬ (seatF (fun i => s (32 + i)) ((i : Int)) (s 1).toNat ≠ -9))) (s 0).toNat))), (0, .ref (a 0)), (1, .int (iI (x)))]) hx hb dX4_drawnWith_20 hl (by decide) rfl (fun ls hl => ?_)
    have LP22 : ∀ (fu : Nat) (j : Nat) (x4 x3 : Int), x4 = (j : Int) → x3 = ((x) * 25173 + 13849) % 65536 % sm (fun i => b2i (¬ (seatF (fun i => s (32 + i)) ((i : Int)) (s 1).toNat ≠ -9))) (s 0).toNat - sm (fun i => b2i (¬ (seatF (fun i => s (32 + i)) ((i : Int)) (s 1).toNat ≠ -9))) j → ((j : Int) ≤ s 0 ∧ pick (fun i => b2i (¬ (seatF (fun i => s (32 + i)) ((i : Int)) (s 1).toNat ≠ -9))) (((x) * 25173 + 13849) % 65536 % sm (fun i => b2i (¬ (seatF (fun i => s (32 + i)) ((i : Int)) (s 1).toNat ≠ -9))) (s 0).toNat) j = -9) → (s 0).toNat - j < fu → ∀ ls : Array Slot, lv_has ls 5 [(4, .int (iI (x4))), (3, .int (iI (x3))), (2, .int (iI (sm (fun i => b2i (¬ (seatF (fun i => s (32 + i)) ((i : Int)) (s 1).toNat ≠ -9))) (s 0).toNat))), (0, .ref (a 0)), (1, .int (iI (x)))] → W p l e (headSpec wsX4_drawnWith (rmK 4 86)).room s0 m ([.ref (a 0), .int (iI (x))] : List Value).toArray below meth c s0.heap [] 0 0 (MQ below (pQ (some (.int (iI (if sm (fun i => b2i (¬ (seatF (fun i => s (32 + i)) ((i : Int)) (s 1).toNat ≠ -9))) (s 0).toNat ≤ 0 then -9 else pick (fun i => b2i (¬ (seatF (fun i => s (32 + i)) ((i : Int)) (s 1).toNat ≠ -9))) (((x) * 25173 + 13849) % 65536 % sm (fun i => b2i (¬ (seatF (fun i => s (32 + i)) ((i : Int)) (s 1).toNat ≠ -9))) (s 0).toNat) (s 0).toNat))))) ([.ref (a 0), .int (iI (x))] : List Value).toArray s0 0 0 (fun _ => False)) (F0 m 22 ls []) := by
      intro fu
      induction fu with
      | zero =>
        intros
        omega
      | succ fu ih =>
        intro j x4 x3 ex4 ex3 hinv hmeas  ls hl
        subst ex4
        subst ex3
        have hsm := sm_rg (f := fun i => b2i (¬ (seatF (fun i => s (32 + i)) ((i : Int)) (s 1).toNat ≠ -9))) (fun k => b2i_rg) j
        have hP0 : 0 ≤ ((x) * 25173 + 13849) % 65536 % sm (fun i => b2i (¬ (seatF (fun i => s (32 + i)) ((i : Int)) (s 1).toNat ≠ -9))) (s 0).toNat := Int.emod_nonneg _ (by omega)
        have hP1 : ((x) * 25173 + 13849) % 65536 % sm (fun i => b2i (¬ (seatF (fun i => s (32 + i)) ((i : Int)) (s 1).toNat ≠ -9))) (s 0).toNat < sm (fun i => b2i (¬ (seatF (fun i => s (32 + i)) ((i : Int)) (s 1).toNat ≠ -9))) (s 0).toNat := Int.emod_lt_of_pos _ (by omega)
        refine lv_iload hx hb dX4_drawnWith_22 (lv_at hl 0 rfl) ?_
        refine lv_aload_n hx hb dX4_drawnWith_24 rfl (lv_at hl 3 rfl) ?_
        refine Vg0 hx hb hts hin hown hK hP (by decide +kernel) dX4_drawnWith_25 ?_
        refine j_ige (tgt := 59) hx hb (by omega) (by omega) dX4_drawnWith_28 (by decide) (fun c2 => ?_) (fun c2 => ?_)
        · refine j_bi hx hb dX4_drawnWith_59 rfl ?_
          exact p_iret hx hb hr hlocks (by rw [if_neg (by omega)]; have h2 := hinv.2; rw [← show (s 0).toNat = j from by omega] at h2; exact h2.symm) dX4_drawnWith_61
        · refine lv_aload_n hx hb dX4_drawnWith_31 rfl (lv_at hl 3 rfl) ?_
          refine Vg3 hx hb hts hin hown hK hP (by decide +kernel) dX4_drawnWith_32 ?_
          refine lv_iload hx hb dX4_drawnWith_35 (lv_at hl 0 rfl) ?_
          refine p_callV (v := .int (iI (b2i (seatF (fun i => s (32 + i)) (j : Int) (s 1).toNat ≠ -9)))) (ci := 0) (n := 1) (As := [.int (iI ((j : Int)))]) (rest := []) ⟨hx, hb, hml, hown, hts⟩ hK (kX0_has l D cI cV (a 6) (a 7) (s 1) (fun i => s (32 + i)) (j : Int) (by omega) (by omega) (fun k => hbs _)) (vil_old hP) rfl rfl gX4_drawnWith_X0_has rfl (by decide +kernel) ⟨Nat.le_of_ble_eq_true rfl, Nat.le_of_ble_eq_true rfl⟩ rfl hl.1 (Nat.le_of_ble_eq_true rfl) dX4_drawnWith_37 ⟨Nat.zero_le _, Nat.zero_le _⟩ rfl ?_
          refine j_bne (tgt := 53) hx hb dX4_drawnWith_40 (by decide) (fun c3 => ?_) (fun c3 => ?_)
          · refine lv_iinc (v := iI ((j : Int) + 1)) (lv' := [(4, .int (iI ((j : Int) + 1))), (3, .int (iI (((x) * 25173 + 13849) % 65536 % sm (fun i => b2i (¬ (seatF (fun i => s (32 + i)) ((i : Int)) (s 1).toNat ≠ -9))) (s 0).toNat - sm (fun i => b2i (¬ (seatF (fun i => s (32 + i)) ((i : Int)) (s 1).toNat ≠ -9))) j))), (2, .int (iI (sm (fun i => b2i (¬ (seatF (fun i => s (32 + i)) ((i : Int)) (s 1).toNat ≠ -9))) (s 0).toNat))), (0, .ref (a 0)), (1, .int (iI (x)))]) hx hb dX4_drawnWith_53 hl (k := 0) rfl (iI_add _ _) (by decide) rfl (fun ls hl => ?_)
            refine lv_goto (tgt := 22) hx hb dX4_drawnWith_56 (by decide) ?_
            exact ih (j + 1) ((j : Int) + 1) (((x) * 25173 + 13849) % 65536 % sm (fun i => b2i (¬ (seatF (fun i => s (32 + i)) ((i : Int)) (s 1).toNat ≠ -9))) (s 0).toNat - sm (fun i => b2i (¬ (seatF (fun i => s (32 + i)) ((i : Int)) (s 1).toNat ≠ -9))) j) (by first | rfl | omega | (simp only [sm, b2i]; (repeat' split) <;> first | rfl | omega | (exfalso; omega) | (exfalso; simp_all))) (by first | rfl | omega | (simp only [sm, b2i]; (repeat' split) <;> first | rfl | omega | (exfalso; omega) | (exfalso; simp_all))) (by exact ⟨by omega, pick_step hinv.2 (fun hh => by have h1 := hh.1; have h2 := hh.2; simp only [b2i] at h1; split at h1 <;> omega)⟩) (by omega) ls (lv_sub hl [0, 1, 2, 3, 4] rfl)
          · refine lv_iload_n hx hb dX4_drawnWith_43 rfl (lv_at hl 1 rfl) ?_
            refine j_zne (tgt := 50) hx hb (by omega) dX4_drawnWith_44 (by decide) (fun c4 => ?_) (fun c4 => ?_)
            · refine lv_iinc (v := iI ((((x) * 25173 + 13849) % 65536 % sm (fun i => b2i (¬ (seatF (fun i => s (32 + i)) ((i : Int)) (s 1).toNat ≠ -9))) (s 0).toNat - sm (fun i => b2i (¬ (seatF (fun i => s (32 + i)) ((i : Int)) (s 1).toNat ≠ -9))) j) + (-1))) (lv' := [(3, .int (iI ((((x) * 25173 + 13849) % 65536 % sm (fun i => b2i (¬ (seatF (fun i => s (32 + i)) ((i : Int)) (s 1).toNat ≠ -9))) (s 0).toNat - sm (fun i => b2i (¬ (seatF (fun i => s (32 + i)) ((i : Int)) (s 1).toNat ≠ -9))) j) + (-1)))), (4, .int (iI ((j : Int)))), (2, .int (iI (sm (fun i => b2i (¬ (seatF (fun i => s (32 + i)) ((i : Int)) (s 1).toNat ≠ -9))) (s 0).toNat))), (0, .ref (a 0)), (1, .int (iI (x)))]) hx hb dX4_drawnWith_50 hl (k := 1) rfl (iI_add _ _) (by decide) rfl (fun ls hl => ?_)
              refine lv_iinc (v := iI ((j : Int) + 1)) (lv' := [(4, .int (iI ((j : Int) + 1))), (3, .int (iI ((((x) * 25173 + 13849) % 65536 % sm (fun i => b2i (¬ (seatF (fun i => s (32 + i)) ((i : Int)) (s 1).toNat ≠ -9))) (s 0).toNat - sm (fun i => b2i (¬ (seatF (fun i => s (32 + i)) ((i : Int)) (s 1).toNat ≠ -9))) j) + (-1)))), (2, .int (iI (sm (fun i => b2i (¬ (seatF (fun i => s (32 + i)) ((i : Int)) (s 1).toNat ≠ -9))) (s 0).toNat))), (0, .ref (a 0)), (1, .int (iI (x)))]) hx hb dX4_drawnWith_53 hl (k := 1) rfl (iI_add _ _) (by decide) rfl (fun ls hl => ?_)
              refine lv_goto (tgt := 22) hx hb dX4_drawnWith_56 (by decide) ?_
              exact ih (j + 1) ((j : Int) + 1) ((((x) * 25173 + 13849) % 65536 % sm (fun i => b2i (¬ (seatF (fun i => s (32 + i)) ((i : Int)) (s 1).toNat ≠ -9))) (s 0).toNat - sm (fun i => b2i (¬ (seatF (fun i => s (32 + i)) ((i : Int)) (s 1).toNat ≠ -9))) j) + (-1)) (by first | rfl | omega | (simp only [sm, b2i]; (repeat' split) <;> first | rfl | omega | (exfalso; omega) | (exfalso; simp_all))) (by first | rfl | omega | (simp only [sm, b2i]; (repeat' split) <;> first | rfl | omega | (exfalso; omega) | (exfalso; simp_all))) (by exact ⟨by omega, pick_step hinv.2 (fun hh => by have h1 := hh.1; have h2 := hh.2; simp only [b2i] at h1; split at h1 <;> omega)⟩) (by omega) ls (lv_sub hl [0, 1, 2, 3, 4] rfl)
            · refine lv_iload hx hb dX4_drawnWith_47 (lv_at hl 0 rfl) ?_
              exact p_iret hx hb hr hlocks (by rw [if_neg (by omega)]; exact (pick_found hinv.2 ⟨b2i_t (by omega), by omega⟩ (by omega)).symm) dX4_drawnWith_49
    exact LP22 (_) 0 0 (((x * 25173 + 13849) % 65536) % (sm (fun i => b2i (¬ (seatF (fun i => s (32 + i)) ((i : Int)) (s 1).toNat ≠ -9))) (s 0).toNat)) (by first | rfl | (simp only [sm]; omega)) (by first | rfl | (simp only [sm]; omega)) (by exact ⟨by omega, rfl⟩) (by exact Nat.lt_succ_self _) ls (lv_sub hl [0, 1, 2, 3, 4] rfl)
  · refine j_bi hx hb dX4_drawnWith_9 rfl ?_
    exact p_iret hx hb hr hlocks (by rw [if_pos (by omega)]) dX4_drawnWith_11
set_option maxHeartbeats 4000000 in
set_option maxRecDepth 100000 in
theorem kX4_holders_old (l : Launch) (D : va_G) (cI cV : ClassId) (a : Nat → Nat) (s : Nat → Int) (nz : Int) (nw : Nat → Int) (y : Int) (w : Int) (hV : VI s nz nw) (r_y : rg y) (h_w : w = 0 ∨ w = 1) : PM l yX4_holders wsX4_holders 2 43 [.ref (a 0), .ref (a 6), .int (iI (y)), .int (iI (w))] (vilw cI a s nz nw) D cI cV (some (.int (iI (sm (fun i => b2i (((0 ≤ (s (32 + i)) ∧ (s (32 + i)) < s 0) ∧ (y) < s (20 + (s (32 + i)).toNat)) ∨ (((w) : Int) ≠ 0 ∧ ((0 ≤ (s (32 + i)) ∧ (s (32 + i)) < s 0) ∧ s (8 + (s (32 + i)).toNat) = 1)))) (s 1).toNat)))) := by
  refine PM.of (cc := cX4_holders) (maxL := 7) (ret := (some .int)) (by decide) rfl (Nat.le_of_ble_eq_true rfl) ?_
  intro p e s0 m below meth c ls hx hb hr hts hown hlocks hml hP hK hl
  have hown : s0.vm.findClass RX4 = some m.cls := hown
  have hin : ∀ w ∈ u_ws RX4 TX4 13, w ∈ wsX4_holders := by decide +kernel
  have hl : lv_has ls 7 [(0, .ref (a 0)), (1, .ref (a 6)), (2, .int (iI (y))), (3, .int (iI (w)))] := hl
  obtain ⟨hbs, hbn, h00, h01, h10, h11, hz0, hz1, h30, h31, h40, h41, h70, h71, h60, h61⟩ := id hV
  have hb5 := hbs 5
  have hb2 := hbs 2
  refine j_c hx hb dX4_holders_0 ?_
  refine lv_istore (lv' := [(4, .int (iI (0))), (0, .ref (a 0)), (1, .ref (a 6)), (2, .int (iI (y))), (3, .int (iI (w)))]) hx hb dX4_holders_1 hl (by decide) rfl (fun ls hl => ?_)
  refine j_c hx hb dX4_holders_3 ?_
  refine lv_istore (lv' := [(5, .int (iI (0))), (4, .int (iI (0))), (0, .ref (a 0)), (1, .ref (a 6)), (2, .int (iI (y))), (3, .int (iI (w)))]) hx hb dX4_holders_4 hl (by decide) rfl (fun ls hl => ?_)
  have LP6 : ∀ (fu : Nat) (j : Nat) (x5 x4 : Int), x5 = (j : Int) → x4 = sm (fun i => b2i (((0 ≤ (s (32 + i)) ∧ (s (32 + i)) < s 0) ∧ (y) < s (20 + (s (32 + i)).toNat)) ∨ (((w) : Int) ≠ 0 ∧ ((0 ≤ (s (32 + i)) ∧ (s (32 + i)) < s 0) ∧ s (8 + (s (32 + i)).toNat) = 1)))) j → ((j : Int) ≤ s 1) → (s 1).toNat - j < fu → ∀ ls : Array Slot, lv_has ls 7 [(5, .int (iI (x5))), (4, .int (iI (x4))), (0, .ref (a 0)), (1, .ref (a 6)), (2, .int (iI (y))), (3, .int (iI (w)))] → W p l e (headSpec wsX4_holders (rmK 2 43)).room s0 m ([.ref (a 0), .ref (a 6), .int (iI (y)), .int (iI (w))] : List Value).toArray below meth c s0.heap [] 0 0 (MQ below (pQ (some (.int (iI (sm (fun i => b2i (((0 ≤ (s (32 + i)) ∧ (s (32 + i)) < s 0) ∧ (y) < s (20 + (s (32 + i)).toNat)) ∨ (((w) : Int) ≠ 0 ∧ ((0 ≤ (s (32 + i)) ∧ (s (32 + i)) < s 0) ∧ s (8 + (s (32 + i)).toNat) = 1)))) (s 1).toNat))))) ([.ref (a 0), .ref (a 6), .int (iI (y)), .int (iI (w))] : List Value).toArray s0 0 0 (fun _ => False)) (F0 m 6 ls []) := by
    intro fu
    induction fu with
    | zero =>
      intros
      omega
    | succ fu ih =>
      intro j x5 x4 ex5 ex4 hinv hmeas  ls hl
      subst ex5
      subst ex4
      have hsm := sm_rg (f := fun i => b2i (((0 ≤ (s (32 + i)) ∧ (s (32 + i)) < s 0) ∧ (y) < s (20 + (s (32 + i)).toNat)) ∨ (((w) : Int) ≠ 0 ∧ ((0 ≤ (s (32 + i)) ∧ (s (32 + i)) < s 0) ∧ s (8 + (s (32 + i)).toNat) = 1)))) (fun k => b2i_rg) j
      refine lv_iload hx hb dX4_holders_6 (lv_at hl 0 rfl) ?_
      refine lv_aload_n hx hb dX4_holders_8 rfl (lv_at hl 3 rfl) ?_
      refine p_callV (v := .int (iI ((s 1)))) (ci := 0) (n := 0) (As := []) (rest := [.int (iI ((j : Int)))]) ⟨hx, hb, hml, hown, hts⟩ hK (kX0_size l D cI cV (a 6) (a 7) (s 1) (fun i => s (32 + i))) (vil_old hP) rfl rfl gX4_holders_X0_size rfl (by decide +kernel) ⟨Nat.le_of_ble_eq_true rfl, Nat.le_of_ble_eq_true rfl⟩ rfl hl.1 (Nat.le_of_ble_eq_true rfl) dX4_holders_9 ⟨Nat.zero_le _, Nat.zero_le _⟩ rfl ?_
      refine j_ige (tgt := 55) hx hb (by omega) (by omega) dX4_holders_12 (by decide) (fun c1 => ?_) (fun c1 => ?_)
      · refine lv_iload hx hb dX4_holders_55 (lv_at hl 1 rfl) ?_
        exact p_iret hx hb hr hlocks (by rw [show (s 1).toNat = j from by omega]) dX4_holders_57
      · refine lv_aload_n hx hb dX4_holders_15 rfl (lv_at hl 3 rfl) ?_
        refine lv_iload hx hb dX4_holders_16 (lv_at hl 0 rfl) ?_
        refine p_callV (v := .int (iI (s (32 + j)))) (ci := 0) (n := 1) (As := [.int (iI ((j : Int)))]) (rest := []) ⟨hx, hb, hml, hown, hts⟩ hK (kX0_elderOn l D cI cV (a 6) (a 7) (s 1) (fun i => s (32 + i)) (j : Int) (by omega) (by omega)) (vil_old hP) rfl rfl gX4_holders_X0_elderOn rfl (by decide +kernel) ⟨Nat.le_of_ble_eq_true rfl, Nat.le_of_ble_eq_true rfl⟩ rfl hl.1 (Nat.le_of_ble_eq_true rfl) dX4_holders_18 ⟨Nat.zero_le _, Nat.zero_le _⟩ rfl ?_
        have f35 : bd (s (32 + j)) := hbs _
        refine lv_istore (lv' := [(6, .int (iI (s (32 + j)))), (5, .int (iI ((j : Int)))), (4, .int (iI (sm (fun i => b2i (((0 ≤ (s (32 + i)) ∧ (s (32 + i)) < s 0) ∧ (y) < s (20 + (s (32 + i)).toNat)) ∨ (((w) : Int) ≠ 0 ∧ ((0 ≤ (s (32 + i)) ∧ (s (32 + i)) < s 0) ∧ s (8 + (s (32 + i)).toNat) = 1)))) j))), (0, .ref (a 0)), (1, .ref (a 6)), (2, .int (iI (y))), (3, .int (iI (w)))]) hx hb dX4_holders_21 hl (by decide) rfl (fun ls hl => ?_)
        refine lv_aload_n hx hb dX4_holders_23 rfl (lv_at hl 3 rfl) ?_
        refine lv_iload hx hb dX4_holders_24 (lv_at hl 0 rfl) ?_
        refine lv_iload_n hx hb dX4_holders_26 rfl (lv_at hl 5 rfl) ?_
        refine p_callV (v := .int (iI (b2i ((0 ≤ ((s (32 + j))) ∧ ((s (32 + j))) < s 0) ∧ (y) < s (20 + ((s (32 + j))).toNat))))) (ci := 4) (n := 2) (As := [.int (iI (s (32 + j))), .int (iI (y))]) (rest := []) ⟨hx, hb, hml, hown, hts⟩ hK (kX4_holds l D cI cV a s nz nw (s (32 + j)) y hV (by omega) (by omega)) hP rfl rfl gX4_holders_X4_holds rfl (by decide +kernel) ⟨Nat.le_of_ble_eq_true rfl, Nat.le_of_ble_eq_true rfl⟩ rfl hl.1 (Nat.le_of_ble_eq_true rfl) dX4_holders_27 ⟨Nat.zero_le _, Nat.zero_le _⟩ rfl ?_
        refine j_bne (tgt := 46) hx hb dX4_holders_30 (by decide) (fun c2 => ?_) (fun c2 => ?_)
        · refine lv_iinc (v := iI ((sm (fun i => b2i (((0 ≤ (s (32 + i)) ∧ (s (32 + i)) < s 0) ∧ (y) < s (20 + (s (32 + i)).toNat)) ∨ (((w) : Int) ≠ 0 ∧ ((0 ≤ (s (32 + i)) ∧ (s (32 + i)) < s 0) ∧ s (8 + (s (32 + i)).toNat) = 1)))) j) + 1)) (lv' := [(4, .int (iI ((sm (fun i => b2i (((0 ≤ (s (32 + i)) ∧ (s (32 + i)) < s 0) ∧ (y) < s (20 + (s (32 + i)).toNat)) ∨ (((w) : Int) ≠ 0 ∧ ((0 ≤ (s (32 + i)) ∧ (s (32 + i)) < s 0) ∧ s (8 + (s (32 + i)).toNat) = 1)))) j) + 1))), (6, .int (iI (s (32 + j)))), (5, .int (iI ((j : Int)))), (0, .ref (a 0)), (1, .ref (a 6)), (2, .int (iI (y))), (3, .int (iI (w)))]) hx hb dX4_holders_46 hl (k := 2) rfl (iI_add _ _) (by decide) rfl (fun ls hl => ?_)
          refine lv_iinc (v := iI ((j : Int) + 1)) (lv' := [(5, .int (iI ((j : Int) + 1))), (4, .int (iI ((sm (fun i => b2i (((0 ≤ (s (32 + i)) ∧ (s (32 + i)) < s 0) ∧ (y) < s (20 + (s (32 + i)).toNat)) ∨ (((w) : Int) ≠ 0 ∧ ((0 ≤ (s (32 + i)) ∧ (s (32 + i)) < s 0) ∧ s (8 + (s (32 + i)).toNat) = 1)))) j) + 1))), (6, .int (iI (s (32 + j)))), (0, .ref (a 0)), (1, .ref (a 6)), (2, .int (iI (y))), (3, .int (iI (w)))]) hx hb dX4_holders_49 hl (k := 2) rfl (iI_add _ _) (by decide) rfl (fun ls hl => ?_)
          refine lv_goto (tgt := 6) hx hb dX4_holders_52 (by decide) ?_
          exact ih (j + 1) ((j : Int) + 1) ((sm (fun i => b2i (((0 ≤ (s (32 + i)) ∧ (s (32 + i)) < s 0) ∧ (y) < s (20 + (s (32 + i)).toNat)) ∨ (((w) : Int) ≠ 0 ∧ ((0 ≤ (s (32 + i)) ∧ (s (32 + i)) < s 0) ∧ s (8 + (s (32 + i)).toNat) = 1)))) j) + 1) (by first | rfl | omega | (simp only [sm, b2i]; (repeat' split) <;> first | rfl | omega | (exfalso; omega) | (exfalso; simp_all))) (by first | rfl | omega | (simp only [sm, b2i]; (repeat' split) <;> first | rfl | omega | (exfalso; omega) | (exfalso; simp_all))) (by omega) (by omega) ls (lv_sub hl [0, 1, 3, 4, 5, 6] rfl)
        · refine lv_iload_n hx hb dX4_holders_33 rfl (lv_at hl 6 rfl) ?_
          refine j_zeq (tgt := 49) hx hb (by omega) dX4_holders_34 (by decide) (fun c3 => ?_) (fun c3 => ?_)
          · refine lv_iinc (v := iI ((j : Int) + 1)) (lv' := [(5, .int (iI ((j : Int) + 1))), (6, .int (iI (s (32 + j)))), (4, .int (iI (sm (fun i => b2i (((0 ≤ (s (32 + i)) ∧ (s (32 + i)) < s 0) ∧ (y) < s (20 + (s (32 + i)).toNat)) ∨ (((w) : Int) ≠ 0 ∧ ((0 ≤ (s (32 + i)) ∧ (s (32 + i)) < s 0) ∧ s (8 + (s (32 + i)).toNat) = 1)))) j))), (0, .ref (a 0)), (1, .ref (a 6)), (2, .int (iI (y))), (3, .int (iI (w)))]) hx hb dX4_holders_49 hl (k := 1) rfl (iI_add _ _) (by decide) rfl (fun ls hl => ?_)
            refine lv_goto (tgt := 6) hx hb dX4_holders_52 (by decide) ?_
            exact ih (j + 1) ((j : Int) + 1) (sm (fun i => b2i (((0 ≤ (s (32 + i)) ∧ (s (32 + i)) < s 0) ∧ (y) < s (20 + (s (32 + i)).toNat)) ∨ (((w) : Int) ≠ 0 ∧ ((0 ≤ (s (32 + i)) ∧ (s (32 + i)) < s 0) ∧ s (8 + (s (32 + i)).toNat) = 1)))) j) (by first | rfl | omega | (simp only [sm, b2i]; (repeat' split) <;> first | rfl | omega | (exfalso; omega) | (exfalso; simp_all))) (by first | rfl | omega | (simp only [sm, b2i]; (repeat' split) <;> first | rfl | omega | (exfalso; omega) | (exfalso; simp_all))) (by omega) (by omega) ls (lv_sub hl [0, 2, 3, 4, 5, 6] rfl)
          · refine lv_aload_n hx hb dX4_holders_37 rfl (lv_at hl 3 rfl) ?_
            refine lv_iload hx hb dX4_holders_38 (lv_at hl 0 rfl) ?_
            refine p_callV (v := .int (iI (b2i ((0 ≤ ((s (32 + j))) ∧ ((s (32 + j))) < s 0) ∧ s (8 + ((s (32 + j))).toNat) = 1)))) (ci := 4) (n := 1) (As := [.int (iI (s (32 + j)))]) (rest := []) ⟨hx, hb, hml, hown, hts⟩ hK (kX4_isPresent l D cI cV a s nz nw (s (32 + j)) hV (by omega)) hP rfl rfl gX4_holders_X4_isPresent rfl (by decide +kernel) ⟨Nat.le_of_ble_eq_true rfl, Nat.le_of_ble_eq_true rfl⟩ rfl hl.1 (Nat.le_of_ble_eq_true rfl) dX4_holders_40 ⟨Nat.zero_le _, Nat.zero_le _⟩ rfl ?_
            refine j_beq (tgt := 49) hx hb dX4_holders_43 (by decide) (fun c4 => ?_) (fun c4 => ?_)
            · refine lv_iinc (v := iI ((j : Int) + 1)) (lv' := [(5, .int (iI ((j : Int) + 1))), (6, .int (iI (s (32 + j)))), (4, .int (iI (sm (fun i => b2i (((0 ≤ (s (32 + i)) ∧ (s (32 + i)) < s 0) ∧ (y) < s (20 + (s (32 + i)).toNat)) ∨ (((w) : Int) ≠ 0 ∧ ((0 ≤ (s (32 + i)) ∧ (s (32 + i)) < s 0) ∧ s (8 + (s (32 + i)).toNat) = 1)))) j))), (0, .ref (a 0)), (1, .ref (a 6)), (2, .int (iI (y))), (3, .int (iI (w)))]) hx hb dX4_holders_49 hl (k := 1) rfl (iI_add _ _) (by decide) rfl (fun ls hl => ?_)
              refine lv_goto (tgt := 6) hx hb dX4_holders_52 (by decide) ?_
              exact ih (j + 1) ((j : Int) + 1) (sm (fun i => b2i (((0 ≤ (s (32 + i)) ∧ (s (32 + i)) < s 0) ∧ (y) < s (20 + (s (32 + i)).toNat)) ∨ (((w) : Int) ≠ 0 ∧ ((0 ≤ (s (32 + i)) ∧ (s (32 + i)) < s 0) ∧ s (8 + (s (32 + i)).toNat) = 1)))) j) (by first | rfl | omega | (simp only [sm, b2i]; (repeat' split) <;> first | rfl | omega | (exfalso; omega) | (exfalso; simp_all))) (by first | rfl | omega | (simp only [sm, b2i]; (repeat' split) <;> first | rfl | omega | (exfalso; omega) | (exfalso; simp_all))) (by omega) (by omega) ls (lv_sub hl [0, 2, 3, 4, 5, 6] rfl)
            · refine lv_iinc (v := iI ((sm (fun i => b2i (((0 ≤ (s (32 + i)) ∧ (s (32 + i)) < s 0) ∧ (y) < s (20 + (s (32 + i)).toNat)) ∨ (((w) : Int) ≠ 0 ∧ ((0 ≤ (s (32 + i)) ∧ (s (32 + i)) < s 0) ∧ s (8 + (s (32 + i)).toNat) = 1)))) j) + 1)) (lv' := [(4, .int (iI ((sm (fun i => b2i (((0 ≤ (s (32 + i)) ∧ (s (32 + i)) < s 0) ∧ (y) < s (20 + (s (32 + i)).toNat)) ∨ (((w) : Int) ≠ 0 ∧ ((0 ≤ (s (32 + i)) ∧ (s (32 + i)) < s 0) ∧ s (8 + (s (32 + i)).toNat) = 1)))) j) + 1))), (6, .int (iI (s (32 + j)))), (5, .int (iI ((j : Int)))), (0, .ref (a 0)), (1, .ref (a 6)), (2, .int (iI (y))), (3, .int (iI (w)))]) hx hb dX4_holders_46 hl (k := 2) rfl (iI_add _ _) (by decide) rfl (fun ls hl => ?_)
              refine lv_iinc (v := iI ((j : Int) + 1)) (lv' := [(5, .int (iI ((j : Int) + 1))), (4, .int (iI ((sm (fun i => b2i (((0 ≤ (s (32 + i)) ∧ (s (32 + i)) < s 0) ∧ (y) < s (20 + (s (32 + i)).toNat)) ∨ (((w) : Int) ≠ 0 ∧ ((0 ≤ (s (32 + i)) ∧ (s (32 + i)) < s 0) ∧ s (8 + (s (32 + i)).toNat) = 1)))) j) + 1))), (6, .int (iI (s (32 + j)))), (0, .ref (a 0)), (1, .ref (a 6)), (2, .int (iI (y))), (3, .int (iI (w)))]) hx hb dX4_holders_49 hl (k := 2) rfl (iI_add _ _) (by decide) rfl (fun ls hl => ?_)
              refine lv_goto (tgt := 6) hx hb dX4_holders_52 (by decide) ?_
              exact ih (j + 1) ((j : Int) + 1) ((sm (fun i => b2i (((0 ≤ (s (32 + i)) ∧ (s (32 + i)) < s 0) ∧ (y) < s (20 + (s (32 + i)).toNat)) ∨ (((w) : Int) ≠ 0 ∧ ((0 ≤ (s (32 + i)) ∧ (s (32 + i)) < s 0) ∧ s (8 + (s (32 + i)).toNat) = 1)))) j) + 1) (by first | rfl | omega | (simp only [sm, b2i]; (repeat' split) <;> first | rfl | omega | (exfalso; omega) | (exfalso; simp_all))) (by first | rfl | omega | (simp only [sm, b2i]; (repeat' split) <;> first | rfl | omega | (exfalso; omega) | (exfalso; simp_all))) (by omega) (by omega) ls (lv_sub hl [0, 1, 3, 4, 5, 6] rfl)
  exact LP6 (_) 0 0 0 (by first | rfl | omega) (by first | rfl | omega) (by omega) (by exact Nat.lt_succ_self _) ls (lv_sub hl [0, 1, 2, 3, 4, 5] rfl)
set_option maxHeartbeats 4000000 in
set_option maxRecDepth 100000 in
theorem kX4_holders_new (l : Launch) (D : va_G) (cI cV : ClassId) (a : Nat → Nat) (s : Nat → Int) (nz : Int) (nw : Nat → Int) (y : Int) (w : Int) (hV : VI s nz nw) (r_y : rg y) (h_w : w = 0 ∨ w = 1) : PM l yX4_holders wsX4_holders 2 43 [.ref (a 0), .ref (a 8), .int (iI (y)), .int (iI (w))] (vilw cI a s nz nw) D cI cV (some (.int (iI (sm (fun i => b2i (((0 ≤ (nw i) ∧ (nw i) < s 0) ∧ (y) < s (20 + (nw i).toNat)) ∨ (((w) : Int) ≠ 0 ∧ ((0 ≤ (nw i) ∧ (nw i) < s 0) ∧ s (8 + (nw i).toNat) = 1)))) nz.toNat)))) := by
  refine PM.of (cc := cX4_holders) (maxL := 7) (ret := (some .int)) (by decide) rfl (Nat.le_of_ble_eq_true rfl) ?_
  intro p e s0 m below meth c ls hx hb hr hts hown hlocks hml hP hK hl
  have hown : s0.vm.findClass RX4 = some m.cls := hown
  have hin : ∀ w ∈ u_ws RX4 TX4 13, w ∈ wsX4_holders := by decide +kernel
  have hl : lv_has ls 7 [(0, .ref (a 0)), (1, .ref (a 8)), (2, .int (iI (y))), (3, .int (iI (w)))] := hl
  obtain ⟨hbs, hbn, h00, h01, h10, h11, hz0, hz1, h30, h31, h40, h41, h70, h71, h60, h61⟩ := id hV
  have hb5 := hbs 5
  have hb2 := hbs 2
  refine j_c hx hb dX4_holders_0 ?_
  refine lv_istore (lv' := [(4, .int (iI (0))), (0, .ref (a 0)), (1, .ref (a 8)), (2, .int (iI (y))), (3, .int (iI (w)))]) hx hb dX4_holders_1 hl (by decide) rfl (fun ls hl => ?_)
  refine j_c hx hb dX4_holders_3 ?_
  refine lv_istore (lv' := [(5, .int (iI (0))), (4, .int (iI (0))), (0, .ref (a 0)), (1, .ref (a 8)), (2, .int (iI (y))), (3, .int (iI (w)))]) hx hb dX4_holders_4 hl (by decide) rfl (fun ls hl => ?_)
  have LP6 : ∀ (fu : Nat) (j : Nat) (x5 x4 : Int), x5 = (j : Int) → x4 = sm (fun i => b2i (((0 ≤ (nw i) ∧ (nw i) < s 0) ∧ (y) < s (20 + (nw i).toNat)) ∨ (((w) : Int) ≠ 0 ∧ ((0 ≤ (nw i) ∧ (nw i) < s 0) ∧ s (8 + (nw i).toNat) = 1)))) j → ((j : Int) ≤ nz) → (nz).toNat - j < fu → ∀ ls : Array Slot, lv_has ls 7 [(5, .int (iI (x5))), (4, .int (iI (x4))), (0, .ref (a 0)), (1, .ref (a 8)), (2, .int (iI (y))), (3, .int (iI (w)))] → W p l e (headSpec wsX4_holders (rmK 2 43)).room s0 m ([.ref (a 0), .ref (a 8), .int (iI (y)), .int (iI (w))] : List Value).toArray below meth c s0.heap [] 0 0 (MQ below (pQ (some (.int (iI (sm (fun i => b2i (((0 ≤ (nw i) ∧ (nw i) < s 0) ∧ (y) < s (20 + (nw i).toNat)) ∨ (((w) : Int) ≠ 0 ∧ ((0 ≤ (nw i) ∧ (nw i) < s 0) ∧ s (8 + (nw i).toNat) = 1)))) nz.toNat))))) ([.ref (a 0), .ref (a 8), .int (iI (y)), .int (iI (w))] : List Value).toArray s0 0 0 (fun _ => False)) (F0 m 6 ls []) := by
    intro fu
    induction fu with
    | zero =>
      intros
      omega
    | succ fu ih =>
      intro j x5 x4 ex5 ex4 hinv hmeas  ls hl
      subst ex5
      subst ex4
      have hsm := sm_rg (f := fun i => b2i (((0 ≤ (nw i) ∧ (nw i) < s 0) ∧ (y) < s (20 + (nw i).toNat)) ∨ (((w) : Int) ≠ 0 ∧ ((0 ≤ (nw i) ∧ (nw i) < s 0) ∧ s (8 + (nw i).toNat) = 1)))) (fun k => b2i_rg) j
      refine lv_iload hx hb dX4_holders_6 (lv_at hl 0 rfl) ?_
      refine lv_aload_n hx hb dX4_holders_8 rfl (lv_at hl 3 rfl) ?_
      refine p_callV (v := .int (iI (nz))) (ci := 0) (n := 0) (As := []) (rest := [.int (iI ((j : Int)))]) ⟨hx, hb, hml, hown, hts⟩ hK (kX0_size l D cI cV (a 8) (a 9) nz nw) (vil_new hP) rfl rfl gX4_holders_X0_size rfl (by decide +kernel) ⟨Nat.le_of_ble_eq_true rfl, Nat.le_of_ble_eq_true rfl⟩ rfl hl.1 (Nat.le_of_ble_eq_true rfl) dX4_holders_9 ⟨Nat.zero_le _, Nat.zero_le _⟩ rfl ?_
      refine j_ige (tgt := 55) hx hb (by omega) (by omega) dX4_holders_12 (by decide) (fun c1 => ?_) (fun c1 => ?_)
      · refine lv_iload hx hb dX4_holders_55 (lv_at hl 1 rfl) ?_
        exact p_iret hx hb hr hlocks (by rw [show (nz).toNat = j from by omega]) dX4_holders_57
      · refine lv_aload_n hx hb dX4_holders_15 rfl (lv_at hl 3 rfl) ?_
        refine lv_iload hx hb dX4_holders_16 (lv_at hl 0 rfl) ?_
        refine p_callV (v := .int (iI (nw j))) (ci := 0) (n := 1) (As := [.int (iI ((j : Int)))]) (rest := []) ⟨hx, hb, hml, hown, hts⟩ hK (kX0_elderOn l D cI cV (a 8) (a 9) nz nw (j : Int) (by omega) (by omega)) (vil_new hP) rfl rfl gX4_holders_X0_elderOn rfl (by decide +kernel) ⟨Nat.le_of_ble_eq_true rfl, Nat.le_of_ble_eq_true rfl⟩ rfl hl.1 (Nat.le_of_ble_eq_true rfl) dX4_holders_18 ⟨Nat.zero_le _, Nat.zero_le _⟩ rfl ?_
        have f35 : bd (nw j) := hbn _
        refine lv_istore (lv' := [(6, .int (iI (nw j))), (5, .int (iI ((j : Int)))), (4, .int (iI (sm (fun i => b2i (((0 ≤ (nw i) ∧ (nw i) < s 0) ∧ (y) < s (20 + (nw i).toNat)) ∨ (((w) : Int) ≠ 0 ∧ ((0 ≤ (nw i) ∧ (nw i) < s 0) ∧ s (8 + (nw i).toNat) = 1)))) j))), (0, .ref (a 0)), (1, .ref (a 8)), (2, .int (iI (y))), (3, .int (iI (w)))]) hx hb dX4_holders_21 hl (by decide) rfl (fun ls hl => ?_)
        refine lv_aload_n hx hb dX4_holders_23 rfl (lv_at hl 3 rfl) ?_
        refine lv_iload hx hb dX4_holders_24 (lv_at hl 0 rfl) ?_
        refine lv_iload_n hx hb dX4_holders_26 rfl (lv_at hl 5 rfl) ?_
        refine p_callV (v := .int (iI (b2i ((0 ≤ ((nw j)) ∧ ((nw j)) < s 0) ∧ (y) < s (20 + ((nw j)).toNat))))) (ci := 4) (n := 2) (As := [.int (iI (nw j)), .int (iI (y))]) (rest := []) ⟨hx, hb, hml, hown, hts⟩ hK (kX4_holds l D cI cV a s nz nw (nw j) y hV (by omega) (by omega)) hP rfl rfl gX4_holders_X4_holds rfl (by decide +kernel) ⟨Nat.le_of_ble_eq_true rfl, Nat.le_of_ble_eq_true rfl⟩ rfl hl.1 (Nat.le_of_ble_eq_true rfl) dX4_holders_27 ⟨Nat.zero_le _, Nat.zero_le _⟩ rfl ?_
        refine j_bne (tgt := 46) hx hb dX4_holders_30 (by decide) (fun c2 => ?_) (fun c2 => ?_)
        · refine lv_iinc (v := iI ((sm (fun i => b2i (((0 ≤ (nw i) ∧ (nw i) < s 0) ∧ (y) < s (20 + (nw i).toNat)) ∨ (((w) : Int) ≠ 0 ∧ ((0 ≤ (nw i) ∧ (nw i) < s 0) ∧ s (8 + (nw i).toNat) = 1)))) j) + 1)) (lv' := [(4, .int (iI ((sm (fun i => b2i (((0 ≤ (nw i) ∧ (nw i) < s 0) ∧ (y) < s (20 + (nw i).toNat)) ∨ (((w) : Int) ≠ 0 ∧ ((0 ≤ (nw i) ∧ (nw i) < s 0) ∧ s (8 + (nw i).toNat) = 1)))) j) + 1))), (6, .int (iI (nw j))), (5, .int (iI ((j : Int)))), (0, .ref (a 0)), (1, .ref (a 8)), (2, .int (iI (y))), (3, .int (iI (w)))]) hx hb dX4_holders_46 hl (k := 2) rfl (iI_add _ _) (by decide) rfl (fun ls hl => ?_)
          refine lv_iinc (v := iI ((j : Int) + 1)) (lv' := [(5, .int (iI ((j : Int) + 1))), (4, .int (iI ((sm (fun i => b2i (((0 ≤ (nw i) ∧ (nw i) < s 0) ∧ (y) < s (20 + (nw i).toNat)) ∨ (((w) : Int) ≠ 0 ∧ ((0 ≤ (nw i) ∧ (nw i) < s 0) ∧ s (8 + (nw i).toNat) = 1)))) j) + 1))), (6, .int (iI (nw j))), (0, .ref (a 0)), (1, .ref (a 8)), (2, .int (iI (y))), (3, .int (iI (w)))]) hx hb dX4_holders_49 hl (k := 2) rfl (iI_add _ _) (by decide) rfl (fun ls hl => ?_)
          refine lv_goto (tgt := 6) hx hb dX4_holders_52 (by decide) ?_
          exact ih (j + 1) ((j : Int) + 1) ((sm (fun i => b2i (((0 ≤ (nw i) ∧ (nw i) < s 0) ∧ (y) < s (20 + (nw i).toNat)) ∨ (((w) : Int) ≠ 0 ∧ ((0 ≤ (nw i) ∧ (nw i) < s 0) ∧ s (8 + (nw i).toNat) = 1)))) j) + 1) (by first | rfl | omega | (simp only [sm, b2i]; (repeat' split) <;> first | rfl | omega | (exfalso; omega) | (exfalso; simp_all))) (by first | rfl | omega | (simp only [sm, b2i]; (repeat' split) <;> first | rfl | omega | (exfalso; omega) | (exfalso; simp_all))) (by omega) (by omega) ls (lv_sub hl [0, 1, 3, 4, 5, 6] rfl)
        · refine lv_iload_n hx hb dX4_holders_33 rfl (lv_at hl 6 rfl) ?_
          refine j_zeq (tgt := 49) hx hb (by omega) dX4_holders_34 (by decide) (fun c3 => ?_) (fun c3 => ?_)
          · refine lv_iinc (v := iI ((j : Int) + 1)) (lv' := [(5, .int (iI ((j : Int) + 1))), (6, .int (iI (nw j))), (4, .int (iI (sm (fun i => b2i (((0 ≤ (nw i) ∧ (nw i) < s 0) ∧ (y) < s (20 + (nw i).toNat)) ∨ (((w) : Int) ≠ 0 ∧ ((0 ≤ (nw i) ∧ (nw i) < s 0) ∧ s (8 + (nw i).toNat) = 1)))) j))), (0, .ref (a 0)), (1, .ref (a 8)), (2, .int (iI (y))), (3, .int (iI (w)))]) hx hb dX4_holders_49 hl (k := 1) rfl (iI_add _ _) (by decide) rfl (fun ls hl => ?_)
            refine lv_goto (tgt := 6) hx hb dX4_holders_52 (by decide) ?_
            exact ih (j + 1) ((j : Int) + 1) (sm (fun i => b2i (((0 ≤ (nw i) ∧ (nw i) < s 0) ∧ (y) < s (20 + (nw i).toNat)) ∨ (((w) : Int) ≠ 0 ∧ ((0 ≤ (nw i) ∧ (nw i) < s 0) ∧ s (8 + (nw i).toNat) = 1)))) j) (by first | rfl | omega | (simp only [sm, b2i]; (repeat' split) <;> first | rfl | omega | (exfalso; omega) | (exfalso; simp_all))) (by first | rfl | omega | (simp only [sm, b2i]; (repeat' split) <;> first | rfl | omega | (exfalso; omega) | (exfalso; simp_all))) (by omega) (by omega) ls (lv_sub hl [0, 2, 3, 4, 5, 6] rfl)
          · refine lv_aload_n hx hb dX4_holders_37 rfl (lv_at hl 3 rfl) ?_
            refine lv_iload hx hb dX4_holders_38 (lv_at hl 0 rfl) ?_
            refine p_callV (v := .int (iI (b2i ((0 ≤ ((nw j)) ∧ ((nw j)) < s 0) ∧ s (8 + ((nw j)).toNat) = 1)))) (ci := 4) (n := 1) (As := [.int (iI (nw j))]) (rest := []) ⟨hx, hb, hml, hown, hts⟩ hK (kX4_isPresent l D cI cV a s nz nw (nw j) hV (by omega)) hP rfl rfl gX4_holders_X4_isPresent rfl (by decide +kernel) ⟨Nat.le_of_ble_eq_true rfl, Nat.le_of_ble_eq_true rfl⟩ rfl hl.1 (Nat.le_of_ble_eq_true rfl) dX4_holders_40 ⟨Nat.zero_le _, Nat.zero_le _⟩ rfl ?_
            refine j_beq (tgt := 49) hx hb dX4_holders_43 (by decide) (fun c4 => ?_) (fun c4 => ?_)
            · refine lv_iinc (v := iI ((j : Int) + 1)) (lv' := [(5, .int (iI ((j : Int) + 1))), (6, .int (iI (nw j))), (4, .int (iI (sm (fun i => b2i (((0 ≤ (nw i) ∧ (nw i) < s 0) ∧ (y) < s (20 + (nw i).toNat)) ∨ (((w) : Int) ≠ 0 ∧ ((0 ≤ (nw i) ∧ (nw i) < s 0) ∧ s (8 + (nw i).toNat) = 1)))) j))), (0, .ref (a 0)), (1, .ref (a 8)), (2, .int (iI (y))), (3, .int (iI (w)))]) hx hb dX4_holders_49 hl (k := 1) rfl (iI_add _ _) (by decide) rfl (fun ls hl => ?_)
              refine lv_goto (tgt := 6) hx hb dX4_holders_52 (by decide) ?_
              exact ih (j + 1) ((j : Int) + 1) (sm (fun i => b2i (((0 ≤ (nw i) ∧ (nw i) < s 0) ∧ (y) < s (20 + (nw i).toNat)) ∨ (((w) : Int) ≠ 0 ∧ ((0 ≤ (nw i) ∧ (nw i) < s 0) ∧ s (8 + (nw i).toNat) = 1)))) j) (by first | rfl | omega | (simp only [sm, b2i]; (repeat' split) <;> first | rfl | omega | (exfalso; omega) | (exfalso; simp_all))) (by first | rfl | omega | (simp only [sm, b2i]; (repeat' split) <;> first | rfl | omega | (exfalso; omega) | (exfalso; simp_all))) (by omega) (by omega) ls (lv_sub hl [0, 2, 3, 4, 5, 6] rfl)
            · refine lv_iinc (v := iI ((sm (fun i => b2i (((0 ≤ (nw i) ∧ (nw i) < s 0) ∧ (y) < s (20 + (nw i).toNat)) ∨ (((w) : Int) ≠ 0 ∧ ((0 ≤ (nw i) ∧ (nw i) < s 0) ∧ s (8 + (nw i).toNat) = 1)))) j) + 1)) (lv' := [(4, .int (iI ((sm (fun i => b2i (((0 ≤ (nw i) ∧ (nw i) < s 0) ∧ (y) < s (20 + (nw i).toNat)) ∨ (((w) : Int) ≠ 0 ∧ ((0 ≤ (nw i) ∧ (nw i) < s 0) ∧ s (8 + (nw i).toNat) = 1)))) j) + 1))), (6, .int (iI (nw j))), (5, .int (iI ((j : Int)))), (0, .ref (a 0)), (1, .ref (a 8)), (2, .int (iI (y))), (3, .int (iI (w)))]) hx hb dX4_holders_46 hl (k := 2) rfl (iI_add _ _) (by decide) rfl (fun ls hl => ?_)
              refine lv_iinc (v := iI ((j : Int) + 1)) (lv' := [(5, .int (iI ((j : Int) + 1))), (4, .int (iI ((sm (fun i => b2i (((0 ≤ (nw i) ∧ (nw i) < s 0) ∧ (y) < s (20 + (nw i).toNat)) ∨ (((w) : Int) ≠ 0 ∧ ((0 ≤ (nw i) ∧ (nw i) < s 0) ∧ s (8 + (nw i).toNat) = 1)))) j) + 1))), (6, .int (iI (nw j))), (0, .ref (a 0)), (1, .ref (a 8)), (2, .int (iI (y))), (3, .int (iI (w)))]) hx hb dX4_holders_49 hl (k := 2) rfl (iI_add _ _) (by decide) rfl (fun ls hl => ?_)
              refine lv_goto (tgt := 6) hx hb dX4_holders_52 (by decide) ?_
              exact ih (j + 1) ((j : Int) + 1) ((sm (fun i => b2i (((0 ≤ (nw i) ∧ (nw i) < s 0) ∧ (y) < s (20 + (nw i).toNat)) ∨ (((w) : Int) ≠ 0 ∧ ((0 ≤ (nw i) ∧ (nw i) < s 0) ∧ s (8 + (nw i).toNat) = 1)))) j) + 1) (by first | rfl | omega | (simp only [sm, b2i]; (repeat' split) <;> first | rfl | omega | (exfalso; omega) | (exfalso; simp_all))) (by first | rfl | omega | (simp only [sm, b2i]; (repeat' split) <;> first | rfl | omega | (exfalso; omega) | (exfalso; simp_all))) (by omega) (by omega) ls (lv_sub hl [0, 1, 3, 4, 5, 6] rfl)
  exact LP6 (_) 0 0 0 (by first | rfl | omega) (by first | rfl | omega) (by omega) (by exact Nat.lt_succ_self _) ls (lv_sub hl [0, 1, 2, 3, 4, 5] rfl)
set_option maxHeartbeats 4000000 in
set_option maxRecDepth 100000 in
theorem kX4_isSupported (l : Launch) (D : va_G) (cI cV : ClassId) (a : Nat → Nat) (s : Nat → Int) (nz : Int) (nw : Nat → Int) (y : Int) (w : Int) (hV : VI s nz nw) (r_y : rg y) (h_w : w = 0 ∨ w = 1) : PM l yX4_isSupported wsX4_isSupported 3 69 [.ref (a 0), .int (iI (y)), .int (iI (w))] (vilw cI a s nz nw) D cI cV (some (.int (iI (b2i (nz / 2 + 1 ≤ sm (fun i => b2i (((0 ≤ (nw i) ∧ (nw i) < s 0) ∧ (y) < s (20 + (nw i).toNat)) ∨ (((w) : Int) ≠ 0 ∧ ((0 ≤ (nw i) ∧ (nw i) < s 0) ∧ s (8 + (nw i).toNat) = 1)))) nz.toNat ∧ (¬ (s 5 ≠ -9 ∧ (y) ≤ s 5) ∨ s 1 / 2 + 1 ≤ sm (fun i => b2i (((0 ≤ (s (32 + i)) ∧ (s (32 + i)) < s 0) ∧ (y) < s (20 + (s (32 + i)).toNat)) ∨ (((w) : Int) ≠ 0 ∧ ((0 ≤ (s (32 + i)) ∧ (s (32 + i)) < s 0) ∧ s (8 + (s (32 + i)).toNat) = 1)))) (s 1).toNat)))))) := by
  refine PM.of (cc := cX4_isSupported) (maxL := 3) (ret := (some .boolean)) (by decide) rfl (Nat.le_of_ble_eq_true rfl) ?_
  intro p e s0 m below meth c ls hx hb hr hts hown hlocks hml hP hK hl
  have hown : s0.vm.findClass RX4 = some m.cls := hown
  have hin : ∀ w ∈ u_ws RX4 TX4 13, w ∈ wsX4_isSupported := by decide +kernel
  have hl : lv_has ls 3 [(0, .ref (a 0)), (1, .int (iI (y))), (2, .int (iI (w)))] := hl
  obtain ⟨hbs, hbn, h00, h01, h10, h11, hz0, hz1, h30, h31, h40, h41, h70, h71, h60, h61⟩ := id hV
  have hb5 := hbs 5
  have hb2 := hbs 2
  refine lv_aload_n hx hb dX4_isSupported_0 rfl (lv_at hl 0 rfl) ?_
  refine lv_aload_n hx hb dX4_isSupported_1 rfl (lv_at hl 0 rfl) ?_
  refine Vg4 hx hb hts hin hown hK hP (by decide +kernel) dX4_isSupported_2 ?_
  refine lv_iload_n hx hb dX4_isSupported_5 rfl (lv_at hl 1 rfl) ?_
  refine lv_iload_n hx hb dX4_isSupported_6 rfl (lv_at hl 2 rfl) ?_
  refine p_callV (v := .int (iI (sm (fun i => b2i (((0 ≤ (nw i) ∧ (nw i) < s 0) ∧ (y) < s (20 + (nw i).toNat)) ∨ (((w) : Int) ≠ 0 ∧ ((0 ≤ (nw i) ∧ (nw i) < s 0) ∧ s (8 + (nw i).toNat) = 1)))) nz.toNat))) (ci := 4) (n := 3) (As := [.ref (a 8), .int (iI (y)), .int (iI (w))]) (rest := []) ⟨hx, hb, hml, hown, hts⟩ hK (kX4_holders_new l D cI cV a s nz nw y w hV (by omega) (by first | decide | exact b2i_or | omega)) hP rfl rfl gX4_isSupported_X4_holders rfl (by decide +kernel) ⟨Nat.le_of_ble_eq_true rfl, Nat.le_of_ble_eq_true rfl⟩ rfl hl.1 (Nat.le_of_ble_eq_true rfl) dX4_isSupported_7 ⟨Nat.zero_le _, Nat.zero_le _⟩ rfl ?_
  have f17 := sm_rg (f := (fun i => b2i (((0 ≤ (nw i) ∧ (nw i) < s 0) ∧ (y) < s (20 + (nw i).toNat)) ∨ (((w) : Int) ≠ 0 ∧ ((0 ≤ (nw i) ∧ (nw i) < s 0) ∧ s (8 + (nw i).toNat) = 1))))) (fun k => b2i_rg) (nz.toNat)
  refine lv_aload_n hx hb dX4_isSupported_10 rfl (lv_at hl 0 rfl) ?_
  refine Vg4 hx hb hts hin hown hK hP (by decide +kernel) dX4_isSupported_11 ?_
  refine p_callV (v := .int (iI (nz / 2 + 1))) (ci := 0) (n := 0) (As := []) (rest := [.int (iI (sm (fun i => b2i (((0 ≤ (nw i) ∧ (nw i) < s 0) ∧ (y) < s (20 + (nw i).toNat)) ∨ (((w) : Int) ≠ 0 ∧ ((0 ≤ (nw i) ∧ (nw i) < s 0) ∧ s (8 + (nw i).toNat) = 1)))) nz.toNat))]) ⟨hx, hb, hml, hown, hts⟩ hK (kX0_majority l D cI cV (a 8) (a 9) nz nw (by omega)) (vil_new hP) rfl rfl gX4_isSupported_X0_majority rfl (by decide +kernel) ⟨Nat.le_of_ble_eq_true rfl, Nat.le_of_ble_eq_true rfl⟩ rfl hl.1 (Nat.le_of_ble_eq_true rfl) dX4_isSupported_14 ⟨Nat.zero_le _, Nat.zero_le _⟩ rfl ?_
  refine j_ige (tgt := 22) hx hb (by omega) (by omega) dX4_isSupported_17 (by decide) (fun c1 => ?_) (fun c1 => ?_)
  · refine lv_aload_n hx hb dX4_isSupported_22 rfl (lv_at hl 0 rfl) ?_
    refine lv_iload_n hx hb dX4_isSupported_23 rfl (lv_at hl 1 rfl) ?_
    refine p_callV (v := .int (iI (b2i (s 5 ≠ -9 ∧ (y) ≤ s 5)))) (ci := 4) (n := 1) (As := [.int (iI (y))]) (rest := []) ⟨hx, hb, hml, hown, hts⟩ hK (kX4_oldCounts l D cI cV a s nz nw y hV (by omega)) hP rfl rfl gX4_isSupported_X4_oldCounts rfl (by decide +kernel) ⟨Nat.le_of_ble_eq_true rfl, Nat.le_of_ble_eq_true rfl⟩ rfl hl.1 (Nat.le_of_ble_eq_true rfl) dX4_isSupported_24 ⟨Nat.zero_le _, Nat.zero_le _⟩ rfl ?_
    refine j_beq (tgt := 50) hx hb dX4_isSupported_27 (by decide) (fun c2 => ?_) (fun c2 => ?_)
    · refine j_c hx hb dX4_isSupported_50 ?_
      refine lv_goto (tgt := 55) hx hb dX4_isSupported_51 (by decide) ?_
      exact p_zret hx hb hr hlocks (by first | decide | exact b2i_or) (by first | rfl | omega | exact (b2i_t (by omega)).symm | exact (b2i_f (by omega)).symm | (simp only [b2i]; (repeat' split) <;> first | rfl | omega | (exfalso; omega))) dX4_isSupported_55
    · refine lv_aload_n hx hb dX4_isSupported_30 rfl (lv_at hl 0 rfl) ?_
      refine lv_aload_n hx hb dX4_isSupported_31 rfl (lv_at hl 0 rfl) ?_
      refine Vg3 hx hb hts hin hown hK hP (by decide +kernel) dX4_isSupported_32 ?_
      refine lv_iload_n hx hb dX4_isSupported_35 rfl (lv_at hl 1 rfl) ?_
      refine lv_iload_n hx hb dX4_isSupported_36 rfl (lv_at hl 2 rfl) ?_
      refine p_callV (v := .int (iI (sm (fun i => b2i (((0 ≤ (s (32 + i)) ∧ (s (32 + i)) < s 0) ∧ (y) < s (20 + (s (32 + i)).toNat)) ∨ (((w) : Int) ≠ 0 ∧ ((0 ≤ (s (32 + i)) ∧ (s (32 + i)) < s 0) ∧ s (8 + (s (32 + i)).toNat) = 1)))) (s 1).toNat))) (ci := 4) (n := 3) (As := [.ref (a 6), .int (iI (y)), .int (iI (w))]) (rest := []) ⟨hx, hb, hml, hown, hts⟩ hK (kX4_holders_old l D cI cV a s nz nw y w hV (by omega) (by first | decide | exact b2i_or | omega)) hP rfl rfl gX4_isSupported_X4_holders rfl (by decide +kernel) ⟨Nat.le_of_ble_eq_true rfl, Nat.le_of_ble_eq_true rfl⟩ rfl hl.1 (Nat.le_of_ble_eq_true rfl) dX4_isSupported_37 ⟨Nat.zero_le _, Nat.zero_le _⟩ rfl ?_
      have f35 := sm_rg (f := (fun i => b2i (((0 ≤ (s (32 + i)) ∧ (s (32 + i)) < s 0) ∧ (y) < s (20 + (s (32 + i)).toNat)) ∨ (((w) : Int) ≠ 0 ∧ ((0 ≤ (s (32 + i)) ∧ (s (32 + i)) < s 0) ∧ s (8 + (s (32 + i)).toNat) = 1))))) (fun k => b2i_rg) ((s 1).toNat)
      refine lv_aload_n hx hb dX4_isSupported_40 rfl (lv_at hl 0 rfl) ?_
      refine Vg3 hx hb hts hin hown hK hP (by decide +kernel) dX4_isSupported_41 ?_
      refine p_callV (v := .int (iI ((s 1) / 2 + 1))) (ci := 0) (n := 0) (As := []) (rest := [.int (iI (sm (fun i => b2i (((0 ≤ (s (32 + i)) ∧ (s (32 + i)) < s 0) ∧ (y) < s (20 + (s (32 + i)).toNat)) ∨ (((w) : Int) ≠ 0 ∧ ((0 ≤ (s (32 + i)) ∧ (s (32 + i)) < s 0) ∧ s (8 + (s (32 + i)).toNat) = 1)))) (s 1).toNat))]) ⟨hx, hb, hml, hown, hts⟩ hK (kX0_majority l D cI cV (a 6) (a 7) (s 1) (fun i => s (32 + i)) (by omega)) (vil_old hP) rfl rfl gX4_isSupported_X0_majority rfl (by decide +kernel) ⟨Nat.le_of_ble_eq_true rfl, Nat.le_of_ble_eq_true rfl⟩ rfl hl.1 (Nat.le_of_ble_eq_true rfl) dX4_isSupported_44 ⟨Nat.zero_le _, Nat.zero_le _⟩ rfl ?_
      refine j_ilt (tgt := 54) hx hb (by omega) (by omega) dX4_isSupported_47 (by decide) (fun c3 => ?_) (fun c3 => ?_)
      · refine j_c hx hb dX4_isSupported_54 ?_
        exact p_zret hx hb hr hlocks (by first | decide | exact b2i_or) (by first | rfl | omega | exact (b2i_t (by omega)).symm | exact (b2i_f (by omega)).symm | (simp only [b2i]; (repeat' split) <;> first | rfl | omega | (exfalso; omega))) dX4_isSupported_55
      · refine j_c hx hb dX4_isSupported_50 ?_
        refine lv_goto (tgt := 55) hx hb dX4_isSupported_51 (by decide) ?_
        exact p_zret hx hb hr hlocks (by first | decide | exact b2i_or) (by first | rfl | omega | exact (b2i_t (by omega)).symm | exact (b2i_f (by omega)).symm | (simp only [b2i]; (repeat' split) <;> first | rfl | omega | (exfalso; omega))) dX4_isSupported_55
  · refine j_c hx hb dX4_isSupported_20 ?_
    exact p_zret hx hb hr hlocks (by first | decide | exact b2i_or) (by first | rfl | omega | exact (b2i_t (by omega)).symm | exact (b2i_f (by omega)).symm | (simp only [b2i]; (repeat' split) <;> first | rfl | omega | (exfalso; omega))) dX4_isSupported_21
