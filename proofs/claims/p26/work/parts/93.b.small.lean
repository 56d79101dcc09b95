/-! the law: its small methods -/
set_option maxHeartbeats 4000000 in
set_option maxRecDepth 100000 in
theorem kL_both (l : Launch) (D : va_G) (cI cV cL : ClassId) (ga va : Nat) (post : va_W) (m : Nat → Int) (hbd : ∀ k, bd (m k)) : PL l yL_both wsL_both 0 0 [.ref (ga)] (lw2 cI ga va m post) D cI cV cL (some (.int (iI (boV m)))) := by
  refine PL.of (cc := cL_both) (maxL := 1) (ret := (some .int)) (by decide) rfl (Nat.le_of_ble_eq_true rfl) ?_
  intro p e s0 mi below meth c ls hx hb hr hts hown hlocks hml hP hK hl
  have hown : s0.vm.findClass RL = some mi.cls := hown
  have hl : lv_has ls 1 [(0, .ref (ga))] := hl
  refine lv_aload_n hx hb dL_both_0 rfl (lv_at hl 0 rfl) ?_
  refine j_c hx hb dL_both_1 ?_
  refine Gld hx hb hK hP (5) (by omega) (by omega) dL_both_2 ?_
  have r1 : bd (m 5) := hbd 5
  refine j_zge (tgt := 11) hx hb (by omega) dL_both_3 (by decide) (fun c2 => ?_) (fun c2 => ?_)
  · refine j_bi hx hb dL_both_11 rfl ?_
    exact p_iret hx hb hr hlocks (by unfold boV; first | rw [if_pos (by omega)] | rw [if_neg (by omega)]) dL_both_13
  · refine j_bi hx hb dL_both_6 rfl ?_
    refine lv_goto (tgt := 13) hx hb dL_both_8 (by decide) ?_
    exact p_iret hx hb hr hlocks (by unfold boV; first | rw [if_pos (by omega)] | rw [if_neg (by omega)]) dL_both_13

set_option maxHeartbeats 4000000 in
set_option maxRecDepth 100000 in
theorem kL_seat (l : Launch) (D : va_G) (cI cV cL : ClassId) (ga va : Nat) (post : va_W) (m : Nat → Int) (hbd : ∀ k, bd (m k)) (h1 : 0 ≤ m 1 ∧ m 1 ≤ 5) (fr : Int) (o : Nat) (x : Int) (ho : 8 + fr = (o : Int)) (ho2 : 8 ≤ o ∧ o ≤ 37) (r_x : rg x) : PL l yL_seat wsL_seat 0 0 [.ref (ga), .ref (va), .int (iI (fr)), .int (iI (x))] (lw2 cI ga va m post) D cI cV cL (some (.int (iI (seatL (fun i => m (o + i)) x (m 1).toNat)))) := by
  refine PL.of (cc := cL_seat) (maxL := 6) (ret := (some .int)) (by decide) rfl (Nat.le_of_ble_eq_true rfl) ?_
  intro p e s0 mi below meth c ls hx hb hr hts hown hlocks hml hP hK hl
  have hown : s0.vm.findClass RL = some mi.cls := hown
  have hl : lv_has ls 6 [(0, .ref (ga)), (1, .ref (va)), (2, .int (iI (fr))), (3, .int (iI (x)))] := hl
  refine j_bi hx hb dL_seat_0 rfl ?_
  refine lv_istore (lv' := [(4, .int (iI ((-9)))), (0, .ref (ga)), (1, .ref (va)), (2, .int (iI (fr))), (3, .int (iI (x)))]) hx hb dL_seat_2 hl (by decide) rfl (fun ls hl => ?_)
  refine j_c hx hb dL_seat_4 ?_
  refine lv_istore (lv' := [(5, .int (iI (0))), (4, .int (iI ((-9)))), (0, .ref (ga)), (1, .ref (va)), (2, .int (iI (fr))), (3, .int (iI (x)))]) hx hb dL_seat_5 hl (by decide) rfl (fun ls hl => ?_)
  have LP7 : ∀ (fu : Nat) (i : Nat) (x4 : Int), x4 = seatL (fun i => m (o + i)) x i → ((i : Int) ≤ m 1) → (m 1).toNat - i < fu → ∀ ls : Array Slot, lv_has ls 6 [(5, .int (iI ((i : Int)))), (4, .int (iI (x4))), (0, .ref (ga)), (1, .ref (va)), (2, .int (iI (fr))), (3, .int (iI (x)))] → W p l e (headSpec wsL_seat (rmK 0 0)).room s0 mi ([.ref (ga), .ref (va), .int (iI (fr)), .int (iI (x))] : List Value).toArray below meth c s0.heap [] 0 0 (MQ below (pQ (some (.int (iI (seatL (fun i => m (o + i)) x (m 1).toNat))))) ([.ref (ga), .ref (va), .int (iI (fr)), .int (iI (x))] : List Value).toArray s0 0 0 (fun _ => False)) (F0 mi 7 ls []) := by
    intro fu
    induction fu with
    | zero =>
      intros
      omega
    | succ fu ih =>
      intro i x4 ex4 hinv hmeas ls hl
      have sr := seatL_rg (el := fun i => m (o + i)) (v := x) i
      refine lv_iload hx hb dL_seat_7 (lv_at hl 0 rfl) ?_
      refine lv_aload_n hx hb dL_seat_9 rfl (lv_at hl 2 rfl) ?_
      refine j_c hx hb dL_seat_10 ?_
      refine Gld hx hb hK hP (1) (by omega) (by omega) dL_seat_11 ?_
      have r1 : bd (m 1) := hbd 1
      refine j_ige (tgt := 40) hx hb (by omega) (by omega) dL_seat_12 (by decide) (fun c2 => ?_) (fun c2 => ?_)
      · refine lv_iload hx hb dL_seat_40 (lv_at hl 1 rfl) ?_
        exact p_iret hx hb hr hlocks (by rw [ex4]; congr 1; omega) dL_seat_42
      · refine lv_aload_n hx hb dL_seat_15 rfl (lv_at hl 3 rfl) ?_
        refine lv_iload_n hx hb dL_seat_16 rfl (lv_at hl 4 rfl) ?_
        refine lv_iload hx hb dL_seat_17 (lv_at hl 0 rfl) ?_
        refine j_add hx hb dL_seat_19 ?_
        refine Vld hx hb hK hP (o + i) (by omega) (by omega) dL_seat_20 ?_
        have r3 : bd (m (o + i)) := hbd (o + i)
        refine lv_iload_n hx hb dL_seat_21 rfl (lv_at hl 5 rfl) ?_
        refine j_ine (tgt := 30) hx hb (by omega) (by omega) dL_seat_22 (by decide) (fun c4 => ?_) (fun c4 => ?_)
        · refine lv_iload hx hb dL_seat_30 (lv_at hl 1 rfl) ?_
          refine lv_istore (lv' := [(4, .int (iI (x4))), (5, .int (iI ((i : Int)))), (0, .ref (ga)), (1, .ref (va)), (2, .int (iI (fr))), (3, .int (iI (x)))]) hx hb dL_seat_32 hl (by decide) rfl (fun ls hl => ?_)
          refine lv_iinc (v := iI ((i : Int) + 1)) (lv' := [(5, .int (iI ((i : Int) + 1))), (4, .int (iI (x4))), (0, .ref (ga)), (1, .ref (va)), (2, .int (iI (fr))), (3, .int (iI (x)))]) hx hb dL_seat_34 hl (k := 1) rfl (iI_add _ _) (by decide) rfl (fun ls hl => ?_)
          refine lv_goto (tgt := 7) hx hb dL_seat_37 (by decide) ?_
          exact ih (i + 1) x4 (by simp only [seatL]; first | (rw [if_pos (by omega)]; done) | (rw [if_neg (by omega)]; exact ex4)) (by omega) (by omega) ls (lv_sub hl [0, 1, 2, 3, 4, 5] rfl)
        · refine lv_iload hx hb dL_seat_25 (lv_at hl 0 rfl) ?_
          refine lv_goto (tgt := 32) hx hb dL_seat_27 (by decide) ?_
          refine lv_istore (lv' := [(4, .int (iI ((i : Int)))), (5, .int (iI ((i : Int)))), (0, .ref (ga)), (1, .ref (va)), (2, .int (iI (fr))), (3, .int (iI (x)))]) hx hb dL_seat_32 hl (by decide) rfl (fun ls hl => ?_)
          refine lv_iinc (v := iI ((i : Int) + 1)) (lv' := [(5, .int (iI ((i : Int) + 1))), (4, .int (iI ((i : Int)))), (0, .ref (ga)), (1, .ref (va)), (2, .int (iI (fr))), (3, .int (iI (x)))]) hx hb dL_seat_34 hl (k := 1) rfl (iI_add _ _) (by decide) rfl (fun ls hl => ?_)
          refine lv_goto (tgt := 7) hx hb dL_seat_37 (by decide) ?_
          exact ih (i + 1) (i : Int) (by simp only [seatL]; first | (rw [if_pos (by omega)]; done) | (rw [if_neg (by omega)]; exact ex4)) (by omega) (by omega) ls (lv_sub hl [0, 1, 2, 3, 4, 5] rfl)
  exact LP7 _ 0 (-9) (by rfl) (by omega) (Nat.lt_succ_self _) ls (lv_sub hl [0, 1, 2, 3, 4, 5] rfl)

set_option maxHeartbeats 4000000 in
set_option maxRecDepth 100000 in
theorem kL_have (l : Launch) (D : va_G) (cI cV cL : ClassId) (ga va : Nat) (post : va_W) (m : Nat → Int) (hbd : ∀ k, bd (m k)) (h1 : 0 ≤ m 1 ∧ m 1 ≤ 5) (fr : Int) (o : Nat) (x : Int) (ho : 8 + fr = (o : Int)) (ho2 : 8 ≤ o ∧ o ≤ 37) (r_x : rg x) (hin : ∀ i : Nat, (i : Int) < m 1 → 0 ≤ m (o + i) ∧ m (o + i) < 12) : PL l yL_have wsL_have 0 0 [.ref (ga), .ref (va), .int (iI (fr)), .int (iI (x))] (lw2 cI ga va m post) D cI cV cL (some (.int (iI (sm (fun i => b2i (x < m (20 + (m (o + i)).toNat))) (m 1).toNat)))) := by
  refine PL.of (cc := cL_have) (maxL := 6) (ret := (some .int)) (by decide) rfl (Nat.le_of_ble_eq_true rfl) ?_
  intro p e s0 mi below meth c ls hx hb hr hts hown hlocks hml hP hK hl
  have hown : s0.vm.findClass RL = some mi.cls := hown
  have hl : lv_has ls 6 [(0, .ref (ga)), (1, .ref (va)), (2, .int (iI (fr))), (3, .int (iI (x)))] := hl
  refine j_c hx hb dL_have_0 ?_
  refine lv_istore (lv' := [(4, .int (iI (0))), (0, .ref (ga)), (1, .ref (va)), (2, .int (iI (fr))), (3, .int (iI (x)))]) hx hb dL_have_1 hl (by decide) rfl (fun ls hl => ?_)
  refine j_c hx hb dL_have_3 ?_
  refine lv_istore (lv' := [(5, .int (iI (0))), (4, .int (iI (0))), (0, .ref (ga)), (1, .ref (va)), (2, .int (iI (fr))), (3, .int (iI (x)))]) hx hb dL_have_4 hl (by decide) rfl (fun ls hl => ?_)
  have LP6 : ∀ (fu : Nat) (i : Nat) (x4 : Int), x4 = sm (fun i => b2i (x < m (20 + (m (o + i)).toNat))) i → ((i : Int) ≤ m 1) → (m 1).toNat - i < fu → ∀ ls : Array Slot, lv_has ls 6 [(5, .int (iI ((i : Int)))), (4, .int (iI (x4))), (0, .ref (ga)), (1, .ref (va)), (2, .int (iI (fr))), (3, .int (iI (x)))] → W p l e (headSpec wsL_have (rmK 0 0)).room s0 mi ([.ref (ga), .ref (va), .int (iI (fr)), .int (iI (x))] : List Value).toArray below meth c s0.heap [] 0 0 (MQ below (pQ (some (.int (iI (sm (fun i => b2i (x < m (20 + (m (o + i)).toNat))) (m 1).toNat))))) ([.ref (ga), .ref (va), .int (iI (fr)), .int (iI (x))] : List Value).toArray s0 0 0 (fun _ => False)) (F0 mi 6 ls []) := by
    intro fu
    induction fu with
    | zero =>
      intros
      omega
    | succ fu ih =>
      intro i x4 ex4 hinv hmeas ls hl
      have sr := sm_rg (f := (fun i => b2i (x < m (20 + (m (o + i)).toNat)))) (fun k => b2i_rg) i
      refine lv_iload hx hb dL_have_6 (lv_at hl 0 rfl) ?_
      refine lv_aload_n hx hb dL_have_8 rfl (lv_at hl 2 rfl) ?_
      refine j_c hx hb dL_have_9 ?_
      refine Gld hx hb hK hP (1) (by omega) (by omega) dL_have_10 ?_
      have r1 : bd (m 1) := hbd 1
      refine j_ige (tgt := 45) hx hb (by omega) (by omega) dL_have_11 (by decide) (fun c2 => ?_) (fun c2 => ?_)
      · refine lv_iload hx hb dL_have_45 (lv_at hl 1 rfl) ?_
        exact p_iret hx hb hr hlocks (by rw [ex4]; congr 1; omega) dL_have_47
      · refine lv_iload hx hb dL_have_14 (lv_at hl 1 rfl) ?_
        refine lv_aload_n hx hb dL_have_16 rfl (lv_at hl 3 rfl) ?_
        refine j_bi hx hb dL_have_17 rfl ?_
        refine lv_aload_n hx hb dL_have_19 rfl (lv_at hl 3 rfl) ?_
        refine lv_iload_n hx hb dL_have_20 rfl (lv_at hl 4 rfl) ?_
        refine lv_iload hx hb dL_have_21 (lv_at hl 0 rfl) ?_
        refine j_add hx hb dL_have_23 ?_
        refine Vld hx hb hK hP (o + i) (by omega) (by omega) dL_have_24 ?_
        have r3 : bd (m (o + i)) := hbd (o + i)
        have hq := hin i (by omega)
        refine j_add hx hb dL_have_25 ?_
        refine Vld hx hb hK hP (20 + (m (o + i)).toNat) (by omega) (by omega) dL_have_26 ?_
        have r4 : bd (m (20 + (m (o + i)).toNat)) := hbd (20 + (m (o + i)).toNat)
        refine lv_iload_n hx hb dL_have_27 rfl (lv_at hl 5 rfl) ?_
        refine j_ile (tgt := 35) hx hb (by omega) (by omega) dL_have_28 (by decide) (fun c5 => ?_) (fun c5 => ?_)
        · refine j_c hx hb dL_have_35 ?_
          refine j_add hx hb dL_have_36 ?_
          refine lv_istore (lv' := [(4, .int (iI (x4 + 0))), (5, .int (iI ((i : Int)))), (0, .ref (ga)), (1, .ref (va)), (2, .int (iI (fr))), (3, .int (iI (x)))]) hx hb dL_have_37 hl (by decide) rfl (fun ls hl => ?_)
          refine lv_iinc (v := iI ((i : Int) + 1)) (lv' := [(5, .int (iI ((i : Int) + 1))), (4, .int (iI (x4 + 0))), (0, .ref (ga)), (1, .ref (va)), (2, .int (iI (fr))), (3, .int (iI (x)))]) hx hb dL_have_39 hl (k := 1) rfl (iI_add _ _) (by decide) rfl (fun ls hl => ?_)
          refine lv_goto (tgt := 6) hx hb dL_have_42 (by decide) ?_
          exact ih (i + 1) (x4 + 0) (by simp only [sm]; first | rw [b2i_t (by omega), ← ex4] | rw [b2i_f (by omega), ← ex4]) (by omega) (by omega) ls (lv_sub hl [0, 1, 2, 3, 4, 5] rfl)
        · refine j_c hx hb dL_have_31 ?_
          refine lv_goto (tgt := 36) hx hb dL_have_32 (by decide) ?_
          refine j_add hx hb dL_have_36 ?_
          refine lv_istore (lv' := [(4, .int (iI (x4 + 1))), (5, .int (iI ((i : Int)))), (0, .ref (ga)), (1, .ref (va)), (2, .int (iI (fr))), (3, .int (iI (x)))]) hx hb dL_have_37 hl (by decide) rfl (fun ls hl => ?_)
          refine lv_iinc (v := iI ((i : Int) + 1)) (lv' := [(5, .int (iI ((i : Int) + 1))), (4, .int (iI (x4 + 1))), (0, .ref (ga)), (1, .ref (va)), (2, .int (iI (fr))), (3, .int (iI (x)))]) hx hb dL_have_39 hl (k := 1) rfl (iI_add _ _) (by decide) rfl (fun ls hl => ?_)
          refine lv_goto (tgt := 6) hx hb dL_have_42 (by decide) ?_
          exact ih (i + 1) (x4 + 1) (by simp only [sm]; first | rw [b2i_t (by omega), ← ex4] | rw [b2i_f (by omega), ← ex4]) (by omega) (by omega) ls (lv_sub hl [0, 1, 2, 3, 4, 5] rfl)
  exact LP6 _ 0 0 (by rfl) (by omega) (Nat.lt_succ_self _) ls (lv_sub hl [0, 1, 2, 3, 4, 5] rfl)

set_option maxHeartbeats 4000000 in
set_option maxRecDepth 100000 in
theorem kL_isElder (l : Launch) (D : va_G) (cI cV cL : ClassId) (ga va : Nat) (post : va_W) (m : Nat → Int) (hbd : ∀ k, bd (m k)) (h1 : 0 ≤ m 1 ∧ m 1 ≤ 5) (h5 : m 5 = -9 ∨ 0 ≤ m 5) (x : Int) (r_x : rg x) : PL l yL_isElder wsL_isElder 1 25 [.ref (ga), .ref (va), .int (iI (x))] (lw2 cI ga va m post) D cI cV cL (some (.int (iI (b2i (seatL (fun i => m (32 + i)) x (m 1).toNat ≠ -9 ∨ seatL (fun i => m ((if m 5 ≠ -9 then (37 : Int) else 32).toNat + i)) x (m 1).toNat ≠ -9))))) := by
  refine PL.of (cc := cL_isElder) (maxL := 3) (ret := (some .boolean)) (by decide) rfl (Nat.le_of_ble_eq_true rfl) ?_
  intro p e s0 mi below meth c ls hx hb hr hts hown hlocks hml hP hK hl
  have hown : s0.vm.findClass RL = some mi.cls := hown
  have hl : lv_has ls 3 [(0, .ref (ga)), (1, .ref (va)), (2, .int (iI (x)))] := hl
  refine lv_aload_n hx hb dL_isElder_0 rfl (lv_at hl 0 rfl) ?_
  refine lv_aload_n hx hb dL_isElder_1 rfl (lv_at hl 1 rfl) ?_
  refine j_bi hx hb dL_isElder_2 rfl ?_
  refine lv_iload_n hx hb dL_isElder_4 rfl (lv_at hl 2 rfl) ?_
  refine pl_callS (v := .int (iI (seatL (fun i => m (32 + i)) x (m 1).toNat))) (n := 4) (w := lw2 cI ga va m post) (As := [.ref (ga), .ref (va), .int (iI (24)), .int (iI (x))]) (rest := []) ⟨hx, hb, hml, hown, hts⟩ hK (kL_seat l D cI cV cL ga va post m hbd h1 24 32 x (by decide) (by decide) (by omega)) hP gL_isElder_L_seat rfl (by decide +kernel) ⟨Nat.le_of_ble_eq_true rfl, Nat.le_of_ble_eq_true rfl⟩ rfl hl.1 (Nat.le_of_ble_eq_true rfl) dL_isElder_5 ⟨Nat.zero_le _, Nat.zero_le _⟩ rfl ?_
  have se1 := seatL_rg (el := fun i => m (32 + i)) (v := x) (m 1).toNat
  refine j_zge (tgt := 24) hx hb (by omega) dL_isElder_8 (by decide) (fun c2 => ?_) (fun c2 => ?_)
  · refine j_c hx hb dL_isElder_24 ?_
    refine lv_goto (tgt := 29) hx hb dL_isElder_25 (by decide) ?_
    exact p_zret hx hb hr hlocks (by first | decide | exact b2i_or) (by first | exact (b2i_t (by omega)).symm | exact (b2i_f (by omega)).symm) dL_isElder_29
  · refine lv_aload_n hx hb dL_isElder_11 rfl (lv_at hl 0 rfl) ?_
    refine lv_aload_n hx hb dL_isElder_12 rfl (lv_at hl 1 rfl) ?_
    refine lv_aload_n hx hb dL_isElder_13 rfl (lv_at hl 0 rfl) ?_
    refine pl_callS (v := .int (iI (boV m))) (n := 1) (w := lw2 cI ga va m post) (As := [.ref (ga)]) (rest := [.ref (va), .ref (ga)]) ⟨hx, hb, hml, hown, hts⟩ hK (kL_both l D cI cV cL ga va post m hbd) hP gL_isElder_L_both rfl (by decide +kernel) ⟨Nat.le_of_ble_eq_true rfl, Nat.le_of_ble_eq_true rfl⟩ rfl hl.1 (Nat.le_of_ble_eq_true rfl) dL_isElder_14 ⟨Nat.zero_le _, Nat.zero_le _⟩ rfl ?_
    have bo3 := boV_o h5
    refine lv_iload_n hx hb dL_isElder_17 rfl (lv_at hl 2 rfl) ?_
    refine pl_callS (v := .int (iI (seatL (fun i => m ((if m 5 ≠ -9 then (37 : Int) else 32).toNat + i)) x (m 1).toNat))) (n := 4) (w := lw2 cI ga va m post) (As := [.ref (ga), .ref (va), .int (iI (boV m)), .int (iI (x))]) (rest := []) ⟨hx, hb, hml, hown, hts⟩ hK (kL_seat l D cI cV cL ga va post m hbd h1 (boV m) ((if m 5 ≠ -9 then (37 : Int) else 32).toNat) x (boV_o h5).1 ⟨(boV_o h5).2.1, (boV_o h5).2.2.1⟩ (by omega)) hP gL_isElder_L_seat rfl (by decide +kernel) ⟨Nat.le_of_ble_eq_true rfl, Nat.le_of_ble_eq_true rfl⟩ rfl hl.1 (Nat.le_of_ble_eq_true rfl) dL_isElder_18 ⟨Nat.zero_le _, Nat.zero_le _⟩ rfl ?_
    have se4 := seatL_rg (el := fun i => m ((if m 5 ≠ -9 then (37 : Int) else 32).toNat + i)) (v := x) (m 1).toNat
    refine j_zlt (tgt := 28) hx hb (by omega) dL_isElder_21 (by decide) (fun c5 => ?_) (fun c5 => ?_)
    · refine j_c hx hb dL_isElder_28 ?_
      exact p_zret hx hb hr hlocks (by first | decide | exact b2i_or) (by first | exact (b2i_t (by omega)).symm | exact (b2i_f (by omega)).symm) dL_isElder_29
    · refine j_c hx hb dL_isElder_24 ?_
      refine lv_goto (tgt := 29) hx hb dL_isElder_25 (by decide) ?_
      exact p_zret hx hb hr hlocks (by first | decide | exact b2i_or) (by first | exact (b2i_t (by omega)).symm | exact (b2i_f (by omega)).symm) dL_isElder_29

set_option maxHeartbeats 4000000 in
set_option maxRecDepth 100000 in
theorem kL_free (l : Launch) (D : va_G) (cI cV cL : ClassId) (ga va : Nat) (post : va_W) (m : Nat → Int) (hbd : ∀ k, bd (m k)) (h0 : 0 ≤ m 0 ∧ m 0 ≤ 12) (h1 : 0 ≤ m 1 ∧ m 1 ≤ 5) (pl : Int) (r_pl : rg pl) : PL l yL_free wsL_free 1 25 [.ref (ga), .ref (va), .int (iI (pl))] (lw2 cI ga va m post) D cI cV cL (some (.int (iI (if pl < 0 then sm (fun i => b2i (seatL (fun i => m (32 + i)) (i : Int) (m 1).toNat = -9)) (m 0).toNat else pickL (fun i => b2i (seatL (fun i => m (32 + i)) (i : Int) (m 1).toNat = -9)) pl (m 0).toNat)))) := by
  refine PL.of (cc := cL_free) (maxL := 6) (ret := (some .int)) (by decide) rfl (Nat.le_of_ble_eq_true rfl) ?_
  intro p e s0 mi below meth c ls hx hb hr hts hown hlocks hml hP hK hl
  have hown : s0.vm.findClass RL = some mi.cls := hown
  have hl : lv_has ls 6 [(0, .ref (ga)), (1, .ref (va)), (2, .int (iI (pl)))] := hl
  refine j_c hx hb dL_free_0 ?_
  refine lv_istore_n (lv' := [(3, .int (iI (0))), (0, .ref (ga)), (1, .ref (va)), (2, .int (iI (pl)))]) hx hb dL_free_1 rfl hl (by decide) rfl (fun ls hl => ?_)
  refine j_bi hx hb dL_free_2 rfl ?_
  refine lv_istore (lv' := [(4, .int (iI ((-9)))), (3, .int (iI (0))), (0, .ref (ga)), (1, .ref (va)), (2, .int (iI (pl)))]) hx hb dL_free_4 hl (by decide) rfl (fun ls hl => ?_)
  refine j_c hx hb dL_free_6 ?_
  refine lv_istore (lv' := [(5, .int (iI (0))), (4, .int (iI ((-9)))), (3, .int (iI (0))), (0, .ref (ga)), (1, .ref (va)), (2, .int (iI (pl)))]) hx hb dL_free_7 hl (by decide) rfl (fun ls hl => ?_)
  have LP9 : ∀ (fu : Nat) (i : Nat) (x4 x3 : Int), x4 = pickL (fun i => b2i (seatL (fun i => m (32 + i)) (i : Int) (m 1).toNat = -9)) pl i → x3 = sm (fun i => b2i (seatL (fun i => m (32 + i)) (i : Int) (m 1).toNat = -9)) i → ((i : Int) ≤ m 0) → (m 0).toNat - i < fu → ∀ ls : Array Slot, lv_has ls 6 [(5, .int (iI ((i : Int)))), (4, .int (iI (x4))), (3, .int (iI (x3))), (0, .ref (ga)), (1, .ref (va)), (2, .int (iI (pl)))] → W p l e (headSpec wsL_free (rmK 1 25)).room s0 mi ([.ref (ga), .ref (va), .int (iI (pl))] : List Value).toArray below meth c s0.heap [] 0 0 (MQ below (pQ (some (.int (iI (if pl < 0 then sm (fun i => b2i (seatL (fun i => m (32 + i)) (i : Int) (m 1).toNat = -9)) (m 0).toNat else pickL (fun i => b2i (seatL (fun i => m (32 + i)) (i : Int) (m 1).toNat = -9)) pl (m 0).toNat))))) ([.ref (ga), .ref (va), .int (iI (pl))] : List Value).toArray s0 0 0 (fun _ => False)) (F0 mi 9 ls []) := by
    intro fu
    induction fu with
    | zero =>
      intros
      omega
    | succ fu ih =>
      intro i x4 x3 ex4 ex3 hinv hmeas ls hl
      have sr := sm_rg (f := (fun i => b2i (seatL (fun i => m (32 + i)) (i : Int) (m 1).toNat = -9))) (fun k => b2i_rg) i
      have pr := pickL_rg (f := (fun i => b2i (seatL (fun i => m (32 + i)) (i : Int) (m 1).toNat = -9))) (p := pl) i
      refine lv_iload hx hb dL_free_9 (lv_at hl 0 rfl) ?_
      refine lv_aload_n hx hb dL_free_11 rfl (lv_at hl 3 rfl) ?_
      refine j_c hx hb dL_free_12 ?_
      refine Gld hx hb hK hP (0) (by omega) (by omega) dL_free_13 ?_
      have r1 : bd (m 0) := hbd 0
      refine j_ige (tgt := 52) hx hb (by omega) (by omega) dL_free_14 (by decide) (fun c2 => ?_) (fun c2 => ?_)
      · refine lv_iload_n hx hb dL_free_52 rfl (lv_at hl 5 rfl) ?_
        refine j_zge (tgt := 60) hx hb (by omega) dL_free_53 (by decide) (fun c3 => ?_) (fun c3 => ?_)
        · refine lv_iload hx hb dL_free_60 (lv_at hl 1 rfl) ?_
          exact p_iret hx hb hr hlocks (by first | (rw [if_pos (by omega), ex3]; congr 1; omega) | (rw [if_neg (by omega), ex4]; congr 1; omega)) dL_free_62
        · refine lv_iload_n hx hb dL_free_56 rfl (lv_at hl 2 rfl) ?_
          refine lv_goto (tgt := 62) hx hb dL_free_57 (by decide) ?_
          exact p_iret hx hb hr hlocks (by first | (rw [if_pos (by omega), ex3]; congr 1; omega) | (rw [if_neg (by omega), ex4]; congr 1; omega)) dL_free_62
      · refine lv_aload_n hx hb dL_free_17 rfl (lv_at hl 3 rfl) ?_
        refine lv_aload_n hx hb dL_free_18 rfl (lv_at hl 4 rfl) ?_
        refine j_bi hx hb dL_free_19 rfl ?_
        refine lv_iload hx hb dL_free_21 (lv_at hl 0 rfl) ?_
        refine pl_callS (v := .int (iI (seatL (fun i => m (32 + i)) (i : Int) (m 1).toNat))) (n := 4) (w := lw2 cI ga va m post) (As := [.ref (ga), .ref (va), .int (iI (24)), .int (iI ((i : Int)))]) (rest := []) ⟨hx, hb, hml, hown, hts⟩ hK (kL_seat l D cI cV cL ga va post m hbd h1 24 32 (i : Int) (by decide) (by decide) (by omega)) hP gL_free_L_seat rfl (by decide +kernel) ⟨Nat.le_of_ble_eq_true rfl, Nat.le_of_ble_eq_true rfl⟩ rfl hl.1 (Nat.le_of_ble_eq_true rfl) dL_free_23 ⟨Nat.zero_le _, Nat.zero_le _⟩ rfl ?_
        have se4 := seatL_rg (el := fun i => m (32 + i)) (v := (i : Int)) (m 1).toNat
        refine j_zge (tgt := 46) hx hb (by omega) dL_free_26 (by decide) (fun c5 => ?_) (fun c5 => ?_)
        · refine lv_iinc (v := iI ((i : Int) + 1)) (lv' := [(5, .int (iI ((i : Int) + 1))), (4, .int (iI (x4))), (3, .int (iI (x3))), (0, .ref (ga)), (1, .ref (va)), (2, .int (iI (pl)))]) hx hb dL_free_46 hl (k := 0) rfl (iI_add _ _) (by decide) rfl (fun ls hl => ?_)
          refine lv_goto (tgt := 9) hx hb dL_free_49 (by decide) ?_
          exact ih (i + 1) x4 x3 (by simp only [pickL]; first | (rw [if_pos ⟨b2i_t (by omega), by omega⟩]; done) | (rw [if_neg (fun q => by have q1 := q.1; rw [b2i_f (by omega)] at q1; omega), ← ex4]; done) | (rw [if_neg (fun q => by omega), ← ex4]; done)) (by simp only [sm]; first | rw [b2i_t (by omega), ← ex3] | (rw [b2i_f (by omega), ← ex3]; omega)) (by omega) (by omega) ls (lv_sub hl [0, 1, 2, 3, 4, 5] rfl)
        · refine lv_iload_n hx hb dL_free_29 rfl (lv_at hl 2 rfl) ?_
          refine lv_iload_n hx hb dL_free_30 rfl (lv_at hl 5 rfl) ?_
          refine j_ine (tgt := 39) hx hb (by omega) (by omega) dL_free_31 (by decide) (fun c6 => ?_) (fun c6 => ?_)
          · refine lv_iload hx hb dL_free_39 (lv_at hl 1 rfl) ?_
            refine lv_istore (lv' := [(4, .int (iI (x4))), (5, .int (iI ((i : Int)))), (3, .int (iI (x3))), (0, .ref (ga)), (1, .ref (va)), (2, .int (iI (pl)))]) hx hb dL_free_41 hl (by decide) rfl (fun ls hl => ?_)
            refine lv_iinc (v := iI (x3 + 1)) (lv' := [(3, .int (iI (x3 + 1))), (4, .int (iI (x4))), (5, .int (iI ((i : Int)))), (0, .ref (ga)), (1, .ref (va)), (2, .int (iI (pl)))]) hx hb dL_free_43 hl (k := 2) rfl (iI_add _ _) (by decide) rfl (fun ls hl => ?_)
            refine lv_iinc (v := iI ((i : Int) + 1)) (lv' := [(5, .int (iI ((i : Int) + 1))), (3, .int (iI (x3 + 1))), (4, .int (iI (x4))), (0, .ref (ga)), (1, .ref (va)), (2, .int (iI (pl)))]) hx hb dL_free_46 hl (k := 2) rfl (iI_add _ _) (by decide) rfl (fun ls hl => ?_)
            refine lv_goto (tgt := 9) hx hb dL_free_49 (by decide) ?_
            exact ih (i + 1) x4 (x3 + 1) (by simp only [pickL]; first | (rw [if_pos ⟨b2i_t (by omega), by omega⟩]; done) | (rw [if_neg (fun q => by have q1 := q.1; rw [b2i_f (by omega)] at q1; omega), ← ex4]; done) | (rw [if_neg (fun q => by omega), ← ex4]; done)) (by simp only [sm]; first | rw [b2i_t (by omega), ← ex3] | (rw [b2i_f (by omega), ← ex3]; omega)) (by omega) (by omega) ls (lv_sub hl [0, 2, 1, 3, 4, 5] rfl)
          · refine lv_iload hx hb dL_free_34 (lv_at hl 0 rfl) ?_
            refine lv_goto (tgt := 41) hx hb dL_free_36 (by decide) ?_
            refine lv_istore (lv' := [(4, .int (iI ((i : Int)))), (5, .int (iI ((i : Int)))), (3, .int (iI (x3))), (0, .ref (ga)), (1, .ref (va)), (2, .int (iI (pl)))]) hx hb dL_free_41 hl (by decide) rfl (fun ls hl => ?_)
            refine lv_iinc (v := iI (x3 + 1)) (lv' := [(3, .int (iI (x3 + 1))), (4, .int (iI ((i : Int)))), (5, .int (iI ((i : Int)))), (0, .ref (ga)), (1, .ref (va)), (2, .int (iI (pl)))]) hx hb dL_free_43 hl (k := 2) rfl (iI_add _ _) (by decide) rfl (fun ls hl => ?_)
            refine lv_iinc (v := iI ((i : Int) + 1)) (lv' := [(5, .int (iI ((i : Int) + 1))), (3, .int (iI (x3 + 1))), (4, .int (iI ((i : Int)))), (0, .ref (ga)), (1, .ref (va)), (2, .int (iI (pl)))]) hx hb dL_free_46 hl (k := 2) rfl (iI_add _ _) (by decide) rfl (fun ls hl => ?_)
            refine lv_goto (tgt := 9) hx hb dL_free_49 (by decide) ?_
            exact ih (i + 1) (i : Int) (x3 + 1) (by simp only [pickL]; first | (rw [if_pos ⟨b2i_t (by omega), by omega⟩]; done) | (rw [if_neg (fun q => by have q1 := q.1; rw [b2i_f (by omega)] at q1; omega), ← ex4]; done) | (rw [if_neg (fun q => by omega), ← ex4]; done)) (by simp only [sm]; first | rw [b2i_t (by omega), ← ex3] | (rw [b2i_f (by omega), ← ex3]; omega)) (by omega) (by omega) ls (lv_sub hl [0, 2, 1, 3, 4, 5] rfl)
  exact LP9 _ 0 (-9) 0 (by rfl) (by rfl) (by omega) (Nat.lt_succ_self _) ls (lv_sub hl [0, 1, 2, 3, 4, 5] rfl)

set_option maxHeartbeats 4000000 in
set_option maxRecDepth 100000 in
theorem kL_next (l : Launch) (D : va_G) (cI cV cL : ClassId) (x : Int) (h : 0 ≤ x ∧ x < 65536) : PL l yL_next wsL_next 0 0 [.int (iI (x))] ([] : va_W) D cI cV cL (some (.int (iI ((x * 25173 + 13849) % 65536)))) := by
  refine PL.of (cc := cL_next) (maxL := 1) (ret := (some .int)) (by decide) rfl (Nat.le_of_ble_eq_true rfl) ?_
  intro p e s0 mi below meth c ls hx hb hr hts hown hlocks hml hP hK hl
  have hown : s0.vm.findClass RL = some mi.cls := hown
  have hl : lv_has ls 1 [(0, .int (iI (x)))] := hl
  refine lv_iload_n hx hb dL_next_0 rfl (lv_at hl 0 rfl) ?_
  refine j_i2l hx hb (by omega) dL_next_1 ?_
  refine j_ldc2 (n := 25173) hx hb hown (hts (.constantLong RL 22 25173) (by decide +kernel)) rfl dL_next_2 ?_
  refine j_lmul hx hb dL_next_5 ?_
  refine j_ldc2 (n := 13849) hx hb hown (hts (.constantLong RL 24 13849) (by decide +kernel)) rfl dL_next_6 ?_
  refine j_ladd hx hb dL_next_9 ?_
  refine j_ldc2 (n := 65535) hx hb hown (hts (.constantLong RL 26 65535) (by decide +kernel)) rfl dL_next_10 ?_
  refine j_land (q := 65536) (s' := 16) (P := 65536) hx hb (by omega) (by decide) (by decide) (by decide) (by decide) (by decide) dL_next_13 ?_
  refine j_l2i hx hb dL_next_14 ?_
  exact p_iret hx hb hr hlocks (by rfl) dL_next_15

set_option maxHeartbeats 4000000 in
set_option maxRecDepth 100000 in
theorem kL_low (l : Launch) (D : va_G) (cI cV cL : ClassId) (v n : Int) (r_v : rg v) (hn : 0 < n ∧ n < 2147483648) : PL l yL_low wsL_low 0 0 [.int (iI (v)), .int (iI (n))] ([] : va_W) D cI cV cL (some (.int (iI (lowV v n)))) := by
  refine PL.of (cc := cL_low) (maxL := 2) (ret := (some .int)) (by decide) rfl (Nat.le_of_ble_eq_true rfl) ?_
  intro p e s0 mi below meth c ls hx hb hr hts hown hlocks hml hP hK hl
  have hown : s0.vm.findClass RL = some mi.cls := hown
  have hl : lv_has ls 2 [(0, .int (iI (v))), (1, .int (iI (n)))] := hl
  refine lv_iload_n hx hb dL_low_0 rfl (lv_at hl 0 rfl) ?_
  refine j_ldc (n := 2147483647) hx hb hown (hts (.constant RL 8 2147483647) (by decide +kernel)) rfl dL_low_1 ?_
  refine lv_iand hx hb dL_low_3 (j_any hx hb ?_)
  obtain ⟨q1, eq1⟩ : ∃ zz_ : Int, zz_ = (iI (v) &&& iI (2147483647)).toInt := ⟨_, rfl⟩
  rw [← eq1]
  have rq1 : rg q1 := eq1 ▸ rg_of _
  have nq1 : 0 ≤ q1 := eq1 ▸ and_nn _
  refine lv_iload_n hx hb dL_low_4 rfl (lv_at hl 1 rfl) ?_
  refine j_rem hx hb (by omega) (by omega) dL_low_5 ?_
  exact p_iret hx hb hr hlocks (by unfold lowV; rw [eq1]) dL_low_6

set_option maxHeartbeats 4000000 in
set_option maxRecDepth 100000 in
theorem kL_writes (l : Launch) (D : va_G) (cI cV cL : ClassId) (ga va ea : Nat) (m ev : Nat → Int) (hbd : ∀ k, bd (m k)) (h3 : 0 ≤ m 3 ∧ m 3 < 60) (h2 : 0 ≤ m 2 ∧ m 2 ≤ 255) (x y : Int) (h_x : 0 ≤ x ∧ x < 12) (h_y : -9 ≤ y ∧ y ≤ 999) : ML l yL_writes wsL_writes 0 0 [.ref (ga), .ref (va), .ref (ea), .int (iI (x)), .int (iI (y))] (lw2 cI ga va m [(ea, arL cL 60 ev)]) (fun w' => w' = lw2 cI ga va (wtS m x y) [(ea, arL cL 60 (up ev (m 3).toNat (y + 9 + m 2 * 1024 + x * 262144)))]) D cI cV cL (none) := by
  refine ML.of (cc := cL_writes) (maxL := 5) (ret := none) (by decide) rfl (Nat.le_of_ble_eq_true rfl) ?_
  intro p e s0 mi below meth c ls hx hb hr hts hown hlocks hml hW hK hl
  have hown : s0.vm.findClass RL = some mi.cls := hown
  have hl : lv_has ls 5 [(0, .ref (ga)), (1, .ref (va)), (2, .ref (ea)), (3, .int (iI (x))), (4, .int (iI (y)))] := hl
  refine lv_aload_n hx hb dL_writes_0 rfl (lv_at hl 2 rfl) ?_
  refine lv_aload_n hx hb dL_writes_1 rfl (lv_at hl 0 rfl) ?_
  refine j_c hx hb dL_writes_2 ?_
  refine Gld hx hb hK hW.1 (3) (by omega) (by omega) dL_writes_3 ?_
  have r1 : bd (m 3) := hbd 3
  refine lv_iload hx hb dL_writes_4 (lv_at hl 4 rfl) ?_
  refine j_i2l hx hb (by omega) dL_writes_6 ?_
  refine j_ldc2 (n := 9) hx hb hown (hts (.constantLong RL 28 9) (by decide +kernel)) rfl dL_writes_7 ?_
  refine j_ladd hx hb dL_writes_10 ?_
  refine lv_aload_n hx hb dL_writes_11 rfl (lv_at hl 0 rfl) ?_
  refine j_c hx hb dL_writes_12 ?_
  refine Gld hx hb hK hW.1 (2) (by omega) (by omega) dL_writes_13 ?_
  have r2 : bd (m 2) := hbd 2
  refine j_i2l hx hb (by omega) dL_writes_14 ?_
  refine j_bi hx hb dL_writes_15 rfl ?_
  refine j_lshl (q := 1024) (k' := 10) hx hb (by decide) (by decide) (by decide) dL_writes_17 ?_
  refine j_lor (k' := 10) (P := 1024) hx hb (by decide) (by decide) (by omega) (by omega) (by omega) dL_writes_18 ?_
  refine lv_iload_n hx hb dL_writes_19 rfl (lv_at hl 3 rfl) ?_
  refine j_i2l hx hb (by omega) dL_writes_20 ?_
  refine j_bi hx hb dL_writes_21 rfl ?_
  refine j_lshl (q := 262144) (k' := 18) hx hb (by decide) (by decide) (by decide) dL_writes_23 ?_
  refine j_lor (k' := 18) (P := 262144) hx hb (by decide) (by decide) (by omega) (by omega) (by omega) dL_writes_24 ?_
  refine Lst hx hb hK hW 2 (f := ev) rfl ((m 3).toNat) (by omega) (by omega) dL_writes_25 (lw2 cI ga va m [(ea, arL cL 60 (up ev ((m 3).toNat) (((y + 9) + (m 2) * 1024) + x * 262144)))]) rfl (fun H locs hW => ?_)
  obtain ⟨ev_3, eev_3⟩ : ∃ zz_, zz_ = up ev ((m 3).toNat) (((y + 9) + (m 2) * 1024) + x * 262144) := ⟨_, rfl⟩
  rw [← eev_3] at hW
  refine lv_aload_n hx hb dL_writes_26 rfl (lv_at hl 0 rfl) ?_
  refine j_c hx hb dL_writes_27 ?_
  refine lv_dup2_11 hx hb dL_writes_28 rfl rfl ?_
  refine Gld hx hb hK hW.1 (3) (by omega) (by omega) dL_writes_29 ?_
  have r4 : bd (m 3) := hbd 3
  refine j_c hx hb dL_writes_30 ?_
  refine j_add hx hb dL_writes_31 ?_
  refine Gst hx hb hK hW (3) (by omega) (by omega) dL_writes_32 (fun H locs hW => ?_)
  obtain ⟨mu_5, emu_5⟩ : ∃ zz_, zz_ = up m (3) ((m 3) + 1) := ⟨_, rfl⟩
  rw [← emu_5] at hW
  refine lv_aload_n hx hb dL_writes_33 rfl (lv_at hl 1 rfl) ?_
  refine j_bi hx hb dL_writes_34 rfl ?_
  refine lv_iload_n hx hb dL_writes_36 rfl (lv_at hl 3 rfl) ?_
  refine j_add hx hb dL_writes_37 ?_
  refine lv_dup2_11 hx hb dL_writes_38 rfl rfl ?_
  refine Vld hx hb hK hW.1 (20 + x.toNat) (by omega) (by omega) dL_writes_39 ?_
  rw [show mu_5 (20 + x.toNat) = m (20 + x.toNat) from by rw [emu_5, up_ne (by omega)]]
  have r6 : bd (m (20 + x.toNat)) := hbd (20 + x.toNat)
  refine j_c hx hb dL_writes_40 ?_
  refine j_add hx hb dL_writes_41 ?_
  refine Vst hx hb hK hW (20 + x.toNat) (by omega) (by omega) dL_writes_42 (fun H locs hW => ?_)
  obtain ⟨mu_7, emu_7⟩ : ∃ zz_, zz_ = up mu_5 (20 + x.toNat) ((m (20 + x.toNat)) + 1) := ⟨_, rfl⟩
  rw [← emu_7] at hW
  exact e_vret hx hb hr hlocks hW (by subst emu_7; subst emu_5; subst eev_3; exact lw2_congr (fun j hj => by unfold wtS; by_cases j3 : j = 3 <;> by_cases jx : j = 20 + x.toNat <;> first | omega | (simp only [up]; (repeat' split) <;> first | rfl | omega))) dL_writes_43
