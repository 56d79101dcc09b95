set_option maxHeartbeats 4000000 in
set_option maxRecDepth 100000 in
theorem kX6_init (l : Launch) (D : va_G) (cI cV : ClassId) (h0 : Nat) : NM l yX6_init wsX6_init 1 12 4 3714 h0 (.inr (6, [.null, .null, .null, .int 0, .int 0, .null, .int 0, .int 0, .int 0])) (fun r : Nat → Nat => modw cI (fun k => if k = 0 then h0 else r k) S0 (fun _ => 0) (fun _ => 0) 0 0 (fun _ => 0) 0 0 0) D cI cV := by
  refine NM.of (cc := cX6_init) (maxL := 1) (by decide) rfl (Nat.le_of_ble_eq_true rfl) ?_
  intro p e s0 m below meth c ls hx hb hr hts hown hlocks hnm hml hW hK hN hl
  have hown : s0.vm.findClass RX6 = some m.cls := hown
  have hnm : meth.name = "<init>" := hnm
  have hin : ∀ w ∈ u_ws RX6 TX6 9, w ∈ wsX6_init := by decide +kernel
  have hA : ∀ q : Nat, s0.heap.size ≤ q → nA h0 s0.heap.size q := fun q h => Or.inr h
  refine lv_aload_n hx hb dX6_init_0 rfl (lv_at hl 0 rfl) ?_
  refine W.objInit hx hb hown (hts (.methodLink RX6 1 objectInit) (by decide +kernel)) (hts (.instanceMethod objectInit) (by decide +kernel)) (hts (.code objectInit ⟨#[0xb1]⟩ 1 none) (by decide +kernel)) rfl (by rw [hml]; exact hl.1) rfl dX6_init_1 (Nat.le_of_ble_eq_true rfl) (Nat.le_of_ble_eq_true rfl) ?_
  refine W.eq (g2 := F0 m 4 ls []) rfl ?_
  refine lv_aload_n hx hb dX6_init_4 rfl (lv_at hl 0 rfl) ?_
  refine j_si hx hb dX6_init_5 rfl ?_
  refine j_newI hx hb (hts (.arrayClass .int) (by decide +kernel)) hK hW hA (n := 522) rfl (Nat.lt_of_lt_of_le (Nat.lt_succ_self _) (Nat.le_of_ble_eq_true rfl)) (Nat.le_of_ble_eq_true rfl) (Nat.le_of_ble_eq_true rfl) dX6_init_8 (fun q1 H hW => ?_)
  have hW : Wd D _ [(h0, .inr (6, [.null, .null, .null, .int 0, .int 0, .null, .int 0, .int 0, .int 0])), (q1, arI cI 522 (fun _ => 0))] s0.heap H _ := hW
  refine va_putF (D := D) (ci := 6) (v := .ref q1) (ty := .array .int) (C := RX6) (T := TX6) (N := 9) hx hb hts hin tyX6 tyX6_ok nmX6 hown hK hW.1 hW.2.1 hW.2.2 0 rfl rfl 0 (by decide) (hts (.fieldLink RX6 7 "VillageLogModel" "s" "[I") (by decide +kernel)) (fun _ h => h) rfl hnm rfl (by decide +kernel) rfl rfl (Nat.le_of_ble_eq_true rfl) dX6_init_10 (fun H locs hP hD hS => ?_)
  have hW : Wd D _ [(h0, .inr (6, [.ref q1, .null, .null, .int 0, .int 0, .null, .int 0, .int 0, .int 0])), (q1, arI cI 522 (fun _ => 0))] s0.heap H locs := ⟨hP, hD, hS⟩
  refine lv_aload_n hx hb dX6_init_13 rfl (lv_at hl 0 rfl) ?_
  refine j_si hx hb dX6_init_14 rfl ?_
  refine j_newI hx hb (hts (.arrayClass .int) (by decide +kernel)) hK hW hA (n := 2610) rfl (Nat.lt_of_lt_of_le (Nat.lt_succ_self _) (Nat.le_of_ble_eq_true rfl)) (Nat.le_of_ble_eq_true rfl) (Nat.le_of_ble_eq_true rfl) dX6_init_17 (fun q2 H hW => ?_)
  have hW : Wd D _ [(h0, .inr (6, [.ref q1, .null, .null, .int 0, .int 0, .null, .int 0, .int 0, .int 0])), (q1, arI cI 522 (fun _ => 0)), (q2, arI cI 2610 (fun _ => 0))] s0.heap H _ := hW
  refine va_putF (D := D) (ci := 6) (v := .ref q2) (ty := .array .int) (C := RX6) (T := TX6) (N := 9) hx hb hts hin tyX6 tyX6_ok nmX6 hown hK hW.1 hW.2.1 hW.2.2 0 rfl rfl 1 (by decide) (hts (.fieldLink RX6 13 "VillageLogModel" "past" "[I") (by decide +kernel)) (fun _ h => h) rfl hnm rfl (by decide +kernel) rfl rfl (Nat.le_of_ble_eq_true rfl) dX6_init_19 (fun H locs hP hD hS => ?_)
  have hW : Wd D _ [(h0, .inr (6, [.ref q1, .ref q2, .null, .int 0, .int 0, .null, .int 0, .int 0, .int 0])), (q1, arI cI 522 (fun _ => 0)), (q2, arI cI 2610 (fun _ => 0))] s0.heap H locs := ⟨hP, hD, hS⟩
  refine lv_aload_n hx hb dX6_init_22 rfl (lv_at hl 0 rfl) ?_
  refine j_si hx hb dX6_init_23 rfl ?_
  refine j_newI hx hb (hts (.arrayClass .int) (by decide +kernel)) hK hW hA (n := 522) rfl (Nat.lt_of_lt_of_le (Nat.lt_succ_self _) (Nat.le_of_ble_eq_true rfl)) (Nat.le_of_ble_eq_true rfl) (Nat.le_of_ble_eq_true rfl) dX6_init_26 (fun q3 H hW => ?_)
  have hW : Wd D _ [(h0, .inr (6, [.ref q1, .ref q2, .null, .int 0, .int 0, .null, .int 0, .int 0, .int 0])), (q1, arI cI 522 (fun _ => 0)), (q2, arI cI 2610 (fun _ => 0)), (q3, arI cI 522 (fun _ => 0))] s0.heap H _ := hW
  refine va_putF (D := D) (ci := 6) (v := .ref q3) (ty := .array .int) (C := RX6) (T := TX6) (N := 9) hx hb hts hin tyX6 tyX6_ok nmX6 hown hK hW.1 hW.2.1 hW.2.2 0 rfl rfl 2 (by decide) (hts (.fieldLink RX6 16 "VillageLogModel" "held" "[I") (by decide +kernel)) (fun _ h => h) rfl hnm rfl (by decide +kernel) rfl rfl (Nat.le_of_ble_eq_true rfl) dX6_init_28 (fun H locs hP hD hS => ?_)
  have hW : Wd D _ [(h0, .inr (6, [.ref q1, .ref q2, .ref q3, .int 0, .int 0, .null, .int 0, .int 0, .int 0])), (q1, arI cI 522 (fun _ => 0)), (q2, arI cI 2610 (fun _ => 0)), (q3, arI cI 522 (fun _ => 0))] s0.heap H locs := ⟨hP, hD, hS⟩
  refine lv_aload_n hx hb dX6_init_31 rfl (lv_at hl 0 rfl) ?_
  refine j_bi hx hb dX6_init_32 rfl ?_
  refine j_newI hx hb (hts (.arrayClass .int) (by decide +kernel)) hK hW hA (n := 60) rfl (Nat.lt_of_lt_of_le (Nat.lt_succ_self _) (Nat.le_of_ble_eq_true rfl)) (Nat.le_of_ble_eq_true rfl) (Nat.le_of_ble_eq_true rfl) dX6_init_34 (fun q4 H hW => ?_)
  have hW : Wd D _ [(h0, .inr (6, [.ref q1, .ref q2, .ref q3, .int 0, .int 0, .null, .int 0, .int 0, .int 0])), (q1, arI cI 522 (fun _ => 0)), (q2, arI cI 2610 (fun _ => 0)), (q3, arI cI 522 (fun _ => 0)), (q4, arI cI 60 (fun _ => 0))] s0.heap H _ := hW
  refine va_putF (D := D) (ci := 6) (v := .ref q4) (ty := .array .int) (C := RX6) (T := TX6) (N := 9) hx hb hts hin tyX6 tyX6_ok nmX6 hown hK hW.1 hW.2.1 hW.2.2 0 rfl rfl 5 (by decide) (hts (.fieldLink RX6 19 "VillageLogModel" "text" "[I") (by decide +kernel)) (fun _ h => h) rfl hnm rfl (by decide +kernel) rfl rfl (Nat.le_of_ble_eq_true rfl) dX6_init_36 (fun H locs hP hD hS => ?_)
  have hW : Wd D _ [(h0, .inr (6, [.ref q1, .ref q2, .ref q3, .int 0, .int 0, .ref q4, .int 0, .int 0, .int 0])), (q1, arI cI 522 (fun _ => 0)), (q2, arI cI 2610 (fun _ => 0)), (q3, arI cI 522 (fun _ => 0)), (q4, arI cI 60 (fun _ => 0))] s0.heap H locs := ⟨hP, hD, hS⟩
  have hW : Wd D _ (modw cI (fun k => if k = 0 then h0 else ([h0, q1, q2, q3, q4] : List Nat).getD k 0) (fun _ => 0) (fun _ => 0) (fun _ => 0) 0 0 (fun _ => 0) 0 0 0) s0.heap H _ := hW
  refine lv_aload_n hx hb dX6_init_39 rfl (lv_at hl 0 rfl) ?_
  refine Mg0 (b := (fun k => if k = 0 then h0 else ([h0, q1, q2, q3, q4] : List Nat).getD k 0)) hx hb hts hin hown hK hW.1 (by decide +kernel) dX6_init_40 ?_
  refine j_c hx hb dX6_init_43 ?_
  refine j_bi hx hb dX6_init_44 rfl ?_
  refine Ms0 (b := (fun k => if k = 0 then h0 else ([h0, q1, q2, q3, q4] : List Nat).getD k 0)) hx hb hK hW (by decide) dX6_init_46 (fun H locs hW => ?_)
  refine lv_aload_n hx hb dX6_init_47 rfl (lv_at hl 0 rfl) ?_
  refine Mg0 (b := (fun k => if k = 0 then h0 else ([h0, q1, q2, q3, q4] : List Nat).getD k 0)) hx hb hts hin hown hK hW.1 (by decide +kernel) dX6_init_48 ?_
  refine j_bi hx hb dX6_init_51 rfl ?_
  refine j_c hx hb dX6_init_53 ?_
  refine Ms0 (b := (fun k => if k = 0 then h0 else ([h0, q1, q2, q3, q4] : List Nat).getD k 0)) hx hb hK hW (by decide) dX6_init_54 (fun H locs hW => ?_)
  refine W.widen (k := 4) (n := 3714) (Nat.le_of_ble_eq_true rfl) (Nat.le_of_ble_eq_true rfl) ?_
  exact n_ret hx hb hr hlocks hW (fun k => ([h0, q1, q2, q3, q4] : List Nat).getD k 0) rfl dX6_init_55
