set_option maxHeartbeats 4000000 in
set_option maxRecDepth 100000 in
theorem kX0_init (l : Launch) (D : va_G) (cI cV : ClassId) (h0 : Nat) : NM l yX0_init wsX0_init 1 12 1 5 h0 (.inr (0, [.int 0, .null])) (fun r : Nat → Nat => couw cI h0 (r 0) 0 (fun _ => 0)) D cI cV := by
  refine NM.of (cc := cX0_init) (maxL := 1) (by decide) rfl (Nat.le_of_ble_eq_true rfl) ?_
  intro p e s0 m below meth c ls hx hb hr hts hown hlocks hnm hml hW hK hN hl
  have hown : s0.vm.findClass RX0 = some m.cls := hown
  have hnm : meth.name = "<init>" := hnm
  have hin : ∀ w ∈ u_ws RX0 TX0 2, w ∈ wsX0_init := by decide +kernel
  have hA : ∀ q : Nat, s0.heap.size ≤ q → nA h0 s0.heap.size q := fun q h => Or.inr h
  refine lv_aload_n hx hb dX0_init_0 rfl (lv_at hl 0 rfl) ?_
  refine W.objInit hx hb hown (hts (.methodLink RX0 3 objectInit) (by decide +kernel)) (hts (.instanceMethod objectInit) (by decide +kernel)) (hts (.code objectInit ⟨#[0xb1]⟩ 1 none) (by decide +kernel)) rfl (by rw [hml]; exact hl.1) rfl dX0_init_1 (Nat.le_of_ble_eq_true rfl) (Nat.le_of_ble_eq_true rfl) ?_
  refine W.eq (g2 := F0 m 4 ls []) rfl ?_
  refine lv_aload_n hx hb dX0_init_4 rfl (lv_at hl 0 rfl) ?_
  refine j_c hx hb dX0_init_5 ?_
  refine j_newI hx hb (hts (.arrayClass .int) (by decide +kernel)) hK hW hA (n := 5) rfl (Nat.lt_of_lt_of_le (Nat.lt_succ_self _) (Nat.le_of_ble_eq_true rfl)) (Nat.le_of_ble_eq_true rfl) (Nat.le_of_ble_eq_true rfl) dX0_init_6 (fun q1 H hW => ?_)
  have hW : Wd D _ [(h0, .inr (0, [.int 0, .null])), (q1, arI cI 5 (fun _ => 0))] s0.heap H _ := hW
  refine va_putF (D := D) (ci := 0) (v := .ref q1) (ty := .array .int) (C := RX0) (T := TX0) (N := 2) hx hb hts hin tyX0 tyX0_ok nmX0 hown hK hW.1 hW.2.1 hW.2.2 0 rfl rfl 1 (by decide) (hts (.fieldLink RX0 9 "VillageLog$Council" "elders" "[I") (by decide +kernel)) (fun _ h => h) rfl hnm rfl (by decide +kernel) rfl rfl (Nat.le_of_ble_eq_true rfl) dX0_init_8 (fun H locs hP hD hS => ?_)
  have hW : Wd D _ [(h0, .inr (0, [.int 0, .ref q1])), (q1, arI cI 5 (fun _ => 0))] s0.heap H locs := ⟨hP, hD, hS⟩
  refine W.widen (k := 1) (n := 5) (Nat.le_of_ble_eq_true rfl) (Nat.le_of_ble_eq_true rfl) ?_
  exact n_ret hx hb hr hlocks hW (fun _ => q1) (rfl) dX0_init_11
set_option maxHeartbeats 4000000 in
set_option maxRecDepth 100000 in
theorem kX2_init (l : Launch) (D : va_G) (cI cV : ClassId) (h0 : Nat) : NM l yX2_init wsX2_init 1 12 5 300 h0 (.inr (2, [.int 0, .int 0, .null, .null, .null, .null, .null])) (fun r : Nat → Nat => [(h0, .inr (2, [.int (iI 1), .int (iI 0), .ref (r 0), .ref (r 1), .ref (r 2), .ref (r 3), .ref (r 4)])), (r 0, arI cI 60 (fun _ => 0)), (r 1, arI cI 60 (fun _ => 0)), (r 2, arI cI 60 (fun _ => 0)), (r 3, arI cI 60 (fun _ => 0)), (r 4, arI cI 60 (fun _ => 0))]) D cI cV := by
  refine NM.of (cc := cX2_init) (maxL := 1) (by decide) rfl (Nat.le_of_ble_eq_true rfl) ?_
  intro p e s0 m below meth c ls hx hb hr hts hown hlocks hnm hml hW hK hN hl
  have hown : s0.vm.findClass RX2 = some m.cls := hown
  have hnm : meth.name = "<init>" := hnm
  have hin : ∀ w ∈ u_ws RX2 TX2 7, w ∈ wsX2_init := by decide +kernel
  have hA : ∀ q : Nat, s0.heap.size ≤ q → nA h0 s0.heap.size q := fun q h => Or.inr h
  refine lv_aload_n hx hb dX2_init_0 rfl (lv_at hl 0 rfl) ?_
  refine W.objInit hx hb hown (hts (.methodLink RX2 3 objectInit) (by decide +kernel)) (hts (.instanceMethod objectInit) (by decide +kernel)) (hts (.code objectInit ⟨#[0xb1]⟩ 1 none) (by decide +kernel)) rfl (by rw [hml]; exact hl.1) rfl dX2_init_1 (Nat.le_of_ble_eq_true rfl) (Nat.le_of_ble_eq_true rfl) ?_
  refine W.eq (g2 := F0 m 4 ls []) rfl ?_
  refine lv_aload_n hx hb dX2_init_4 rfl (lv_at hl 0 rfl) ?_
  refine j_c hx hb dX2_init_5 ?_
  refine va_put (D := D) (ci := 2) (v := .int (iI (1))) (ty := .int) (C := RX2) (T := TX2) (N := 7) hx hb hts hin tyX2 tyX2_ok nmX2 hown hK hW.1 hW.2.1 hW.2.2 0 rfl rfl 0 (by decide) (hts (.fieldLink RX2 9 "VillageLog$Lot" "state" "I") (by decide +kernel)) (fun _ h => h) rfl (by decide +kernel) rfl rfl (Nat.le_of_ble_eq_true rfl) dX2_init_6 (fun H locs hP hD hS => ?_)
  have hW : Wd D _ [(h0, .inr (2, [.int (iI (1)), .int 0, .null, .null, .null, .null, .null]))] s0.heap H locs := ⟨hP, hD, hS⟩
  refine lv_aload_n hx hb dX2_init_9 rfl (lv_at hl 0 rfl) ?_
  refine j_bi hx hb dX2_init_10 rfl ?_
  refine j_newI hx hb (hts (.arrayClass .int) (by decide +kernel)) hK hW hA (n := 60) rfl (Nat.lt_of_lt_of_le (Nat.lt_succ_self _) (Nat.le_of_ble_eq_true rfl)) (Nat.le_of_ble_eq_true rfl) (Nat.le_of_ble_eq_true rfl) dX2_init_12 (fun q1 H hW => ?_)
  have hW : Wd D _ [(h0, .inr (2, [.int (iI (1)), .int 0, .null, .null, .null, .null, .null])), (q1, arI cI 60 (fun _ => 0))] s0.heap H _ := hW
  refine va_putF (D := D) (ci := 2) (v := .ref q1) (ty := .array .int) (C := RX2) (T := TX2) (N := 7) hx hb hts hin tyX2 tyX2_ok nmX2 hown hK hW.1 hW.2.1 hW.2.2 0 rfl rfl 2 (by decide) (hts (.fieldLink RX2 15 "VillageLog$Lot" "states" "[I") (by decide +kernel)) (fun _ h => h) rfl hnm rfl (by decide +kernel) rfl rfl (Nat.le_of_ble_eq_true rfl) dX2_init_14 (fun H locs hP hD hS => ?_)
  have hW : Wd D _ [(h0, .inr (2, [.int (iI (1)), .int 0, .ref q1, .null, .null, .null, .null])), (q1, arI cI 60 (fun _ => 0))] s0.heap H locs := ⟨hP, hD, hS⟩
  refine lv_aload_n hx hb dX2_init_17 rfl (lv_at hl 0 rfl) ?_
  refine j_bi hx hb dX2_init_18 rfl ?_
  refine j_newI hx hb (hts (.arrayClass .int) (by decide +kernel)) hK hW hA (n := 60) rfl (Nat.lt_of_lt_of_le (Nat.lt_succ_self _) (Nat.le_of_ble_eq_true rfl)) (Nat.le_of_ble_eq_true rfl) (Nat.le_of_ble_eq_true rfl) dX2_init_20 (fun q2 H hW => ?_)
  have hW : Wd D _ [(h0, .inr (2, [.int (iI (1)), .int 0, .ref q1, .null, .null, .null, .null])), (q1, arI cI 60 (fun _ => 0)), (q2, arI cI 60 (fun _ => 0))] s0.heap H _ := hW
  refine va_putF (D := D) (ci := 2) (v := .ref q2) (ty := .array .int) (C := RX2) (T := TX2) (N := 7) hx hb hts hin tyX2 tyX2_ok nmX2 hown hK hW.1 hW.2.1 hW.2.2 0 rfl rfl 3 (by decide) (hts (.fieldLink RX2 19 "VillageLog$Lot" "candidates" "[I") (by decide +kernel)) (fun _ h => h) rfl hnm rfl (by decide +kernel) rfl rfl (Nat.le_of_ble_eq_true rfl) dX2_init_22 (fun H locs hP hD hS => ?_)
  have hW : Wd D _ [(h0, .inr (2, [.int (iI (1)), .int 0, .ref q1, .ref q2, .null, .null, .null])), (q1, arI cI 60 (fun _ => 0)), (q2, arI cI 60 (fun _ => 0))] s0.heap H locs := ⟨hP, hD, hS⟩
  refine lv_aload_n hx hb dX2_init_25 rfl (lv_at hl 0 rfl) ?_
  refine j_bi hx hb dX2_init_26 rfl ?_
  refine j_newI hx hb (hts (.arrayClass .int) (by decide +kernel)) hK hW hA (n := 60) rfl (Nat.lt_of_lt_of_le (Nat.lt_succ_self _) (Nat.le_of_ble_eq_true rfl)) (Nat.le_of_ble_eq_true rfl) (Nat.le_of_ble_eq_true rfl) dX2_init_28 (fun q3 H hW => ?_)
  have hW : Wd D _ [(h0, .inr (2, [.int (iI (1)), .int 0, .ref q1, .ref q2, .null, .null, .null])), (q1, arI cI 60 (fun _ => 0)), (q2, arI cI 60 (fun _ => 0)), (q3, arI cI 60 (fun _ => 0))] s0.heap H _ := hW
  refine va_putF (D := D) (ci := 2) (v := .ref q3) (ty := .array .int) (C := RX2) (T := TX2) (N := 7) hx hb hts hin tyX2 tyX2_ok nmX2 hown hK hW.1 hW.2.1 hW.2.2 0 rfl rfl 4 (by decide) (hts (.fieldLink RX2 22 "VillageLog$Lot" "drawn" "[I") (by decide +kernel)) (fun _ h => h) rfl hnm rfl (by decide +kernel) rfl rfl (Nat.le_of_ble_eq_true rfl) dX2_init_30 (fun H locs hP hD hS => ?_)
  have hW : Wd D _ [(h0, .inr (2, [.int (iI (1)), .int 0, .ref q1, .ref q2, .ref q3, .null, .null])), (q1, arI cI 60 (fun _ => 0)), (q2, arI cI 60 (fun _ => 0)), (q3, arI cI 60 (fun _ => 0))] s0.heap H locs := ⟨hP, hD, hS⟩
  refine lv_aload_n hx hb dX2_init_33 rfl (lv_at hl 0 rfl) ?_
  refine j_bi hx hb dX2_init_34 rfl ?_
  refine j_newI hx hb (hts (.arrayClass .int) (by decide +kernel)) hK hW hA (n := 60) rfl (Nat.lt_of_lt_of_le (Nat.lt_succ_self _) (Nat.le_of_ble_eq_true rfl)) (Nat.le_of_ble_eq_true rfl) (Nat.le_of_ble_eq_true rfl) dX2_init_36 (fun q4 H hW => ?_)
  have hW : Wd D _ [(h0, .inr (2, [.int (iI (1)), .int 0, .ref q1, .ref q2, .ref q3, .null, .null])), (q1, arI cI 60 (fun _ => 0)), (q2, arI cI 60 (fun _ => 0)), (q3, arI cI 60 (fun _ => 0)), (q4, arI cI 60 (fun _ => 0))] s0.heap H _ := hW
  refine va_putF (D := D) (ci := 2) (v := .ref q4) (ty := .array .int) (C := RX2) (T := TX2) (N := 7) hx hb hts hin tyX2 tyX2_ok nmX2 hown hK hW.1 hW.2.1 hW.2.2 0 rfl rfl 5 (by decide) (hts (.fieldLink RX2 25 "VillageLog$Lot" "standing" "[I") (by decide +kernel)) (fun _ h => h) rfl hnm rfl (by decide +kernel) rfl rfl (Nat.le_of_ble_eq_true rfl) dX2_init_38 (fun H locs hP hD hS => ?_)
  have hW : Wd D _ [(h0, .inr (2, [.int (iI (1)), .int 0, .ref q1, .ref q2, .ref q3, .ref q4, .null])), (q1, arI cI 60 (fun _ => 0)), (q2, arI cI 60 (fun _ => 0)), (q3, arI cI 60 (fun _ => 0)), (q4, arI cI 60 (fun _ => 0))] s0.heap H locs := ⟨hP, hD, hS⟩
  refine lv_aload_n hx hb dX2_init_41 rfl (lv_at hl 0 rfl) ?_
  refine j_bi hx hb dX2_init_42 rfl ?_
  refine j_newI hx hb (hts (.arrayClass .int) (by decide +kernel)) hK hW hA (n := 60) rfl (Nat.lt_of_lt_of_le (Nat.lt_succ_self _) (Nat.le_of_ble_eq_true rfl)) (Nat.le_of_ble_eq_true rfl) (Nat.le_of_ble_eq_true rfl) dX2_init_44 (fun q5 H hW => ?_)
  have hW : Wd D _ [(h0, .inr (2, [.int (iI (1)), .int 0, .ref q1, .ref q2, .ref q3, .ref q4, .null])), (q1, arI cI 60 (fun _ => 0)), (q2, arI cI 60 (fun _ => 0)), (q3, arI cI 60 (fun _ => 0)), (q4, arI cI 60 (fun _ => 0)), (q5, arI cI 60 (fun _ => 0))] s0.heap H _ := hW
  refine va_putF (D := D) (ci := 2) (v := .ref q5) (ty := .array .int) (C := RX2) (T := TX2) (N := 7) hx hb hts hin tyX2 tyX2_ok nmX2 hown hK hW.1 hW.2.1 hW.2.2 0 rfl rfl 6 (by decide) (hts (.fieldLink RX2 28 "VillageLog$Lot" "seats" "[I") (by decide +kernel)) (fun _ h => h) rfl hnm rfl (by decide +kernel) rfl rfl (Nat.le_of_ble_eq_true rfl) dX2_init_46 (fun H locs hP hD hS => ?_)
  have hW : Wd D _ [(h0, .inr (2, [.int (iI (1)), .int 0, .ref q1, .ref q2, .ref q3, .ref q4, .ref q5])), (q1, arI cI 60 (fun _ => 0)), (q2, arI cI 60 (fun _ => 0)), (q3, arI cI 60 (fun _ => 0)), (q4, arI cI 60 (fun _ => 0)), (q5, arI cI 60 (fun _ => 0))] s0.heap H locs := ⟨hP, hD, hS⟩
  refine W.widen (k := 5) (n := 300) (Nat.le_of_ble_eq_true rfl) (Nat.le_of_ble_eq_true rfl) ?_
  exact n_ret hx hb hr hlocks hW (fun k => if k = 0 then q1 else if k = 1 then q2 else if k = 2 then q3 else if k = 3 then q4 else q5) (rfl) dX2_init_49
set_option maxHeartbeats 4000000 in
set_option maxRecDepth 100000 in
theorem kX3_init (l : Launch) (D : va_G) (cI cV : ClassId) (h0 : Nat) : NM l yX3_init wsX3_init 1 12 1 60 h0 (.inr (3, [.null, .int 0, .int 0, .int 0, .int 0, .int 0])) (fun r : Nat → Nat => txtw cI h0 (r 0) (fun _ => 0) 0 0 0 0 0) D cI cV := by
  refine NM.of (cc := cX3_init) (maxL := 1) (by decide) rfl (Nat.le_of_ble_eq_true rfl) ?_
  intro p e s0 m below meth c ls hx hb hr hts hown hlocks hnm hml hW hK hN hl
  have hown : s0.vm.findClass RX3 = some m.cls := hown
  have hnm : meth.name = "<init>" := hnm
  have hin : ∀ w ∈ u_ws RX3 TX3 6, w ∈ wsX3_init := by decide +kernel
  have hA : ∀ q : Nat, s0.heap.size ≤ q → nA h0 s0.heap.size q := fun q h => Or.inr h
  refine lv_aload_n hx hb dX3_init_0 rfl (lv_at hl 0 rfl) ?_
  refine W.objInit hx hb hown (hts (.methodLink RX3 3 objectInit) (by decide +kernel)) (hts (.instanceMethod objectInit) (by decide +kernel)) (hts (.code objectInit ⟨#[0xb1]⟩ 1 none) (by decide +kernel)) rfl (by rw [hml]; exact hl.1) rfl dX3_init_1 (Nat.le_of_ble_eq_true rfl) (Nat.le_of_ble_eq_true rfl) ?_
  refine W.eq (g2 := F0 m 4 ls []) rfl ?_
  refine lv_aload_n hx hb dX3_init_4 rfl (lv_at hl 0 rfl) ?_
  refine j_bi hx hb dX3_init_5 rfl ?_
  refine j_newI hx hb (hts (.arrayClass .int) (by decide +kernel)) hK hW hA (n := 60) rfl (Nat.lt_of_lt_of_le (Nat.lt_succ_self _) (Nat.le_of_ble_eq_true rfl)) (Nat.le_of_ble_eq_true rfl) (Nat.le_of_ble_eq_true rfl) dX3_init_7 (fun q1 H hW => ?_)
  have hW : Wd D _ [(h0, .inr (3, [.null, .int 0, .int 0, .int 0, .int 0, .int 0])), (q1, arI cI 60 (fun _ => 0))] s0.heap H _ := hW
  refine va_putF (D := D) (ci := 3) (v := .ref q1) (ty := .array .int) (C := RX3) (T := TX3) (N := 6) hx hb hts hin tyX3 tyX3_ok nmX3 hown hK hW.1 hW.2.1 hW.2.2 0 rfl rfl 0 (by decide) (hts (.fieldLink RX3 9 "VillageLog$Text" "characters" "[I") (by decide +kernel)) (fun _ h => h) rfl hnm rfl (by decide +kernel) rfl rfl (Nat.le_of_ble_eq_true rfl) dX3_init_9 (fun H locs hP hD hS => ?_)
  have hW : Wd D _ [(h0, .inr (3, [.ref q1, .int 0, .int 0, .int 0, .int 0, .int 0])), (q1, arI cI 60 (fun _ => 0))] s0.heap H locs := ⟨hP, hD, hS⟩
  refine W.widen (k := 1) (n := 60) (Nat.le_of_ble_eq_true rfl) (Nat.le_of_ble_eq_true rfl) ?_
  exact n_ret hx hb hr hlocks hW (fun _ => q1) (rfl) dX3_init_12
