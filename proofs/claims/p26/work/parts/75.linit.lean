theorem logperm {O V HI R T : va_W} : (((O ++ V) ++ (HI ++ R)) ++ T).Perm (O ++ (T ++ (HI ++ (V ++ R)))) := by
  refine perm_of_count (fun i x => ?_)
  simp only [List.count_append]
  omega
set_option maxHeartbeats 4000000 in
set_option maxRecDepth 100000 in
theorem kX5_init (l : Launch) (D : va_G) (cI cV : ClassId) (h0 : Nat) : NM l yX5_init wsX5_init 4 73 116 3841 h0 (.inr (5, [.null, .null, .null])) (fun r : (Nat → Nat) × (Nat → Nat) × (Nat → Nat → Nat) => logw cI cV (fun k => if k = 0 then h0 else r.1 k) r.2.1 r.2.2 S0 0 (fun _ => 0) (fun _ => S0) (fun _ => 0) (fun _ _ => 0) 0 0 (fun _ => 0) 0 0 0 0 0) D cI cV := by
  refine NM.of (cc := cX5_init) (maxL := 1) (by decide) rfl (Nat.le_of_ble_eq_true rfl) ?_
  intro p e s0 m below meth c ls hx hb hr hts hown hlocks hnm hml hW hK hN hl
  have hown : s0.vm.findClass RX5 = some m.cls := hown
  have hnm : meth.name = "<init>" := hnm
  have hin : ∀ w ∈ u_ws RX5 TX5 3, w ∈ wsX5_init := by decide +kernel
  have hA : ∀ q : Nat, s0.heap.size ≤ q → nA h0 s0.heap.size q := fun q h => Or.inr h
  refine lv_aload_n hx hb dX5_init_0 rfl (lv_at hl 0 rfl) ?_
  refine W.objInit hx hb hown (hts (.methodLink RX5 1 objectInit) (by decide +kernel)) (hts (.instanceMethod objectInit) (by decide +kernel)) (hts (.code objectInit ⟨#[0xb1]⟩ 1 none) (by decide +kernel)) rfl (by rw [hml]; exact hl.1) rfl dX5_init_1 (Nat.le_of_ble_eq_true rfl) (Nat.le_of_ble_eq_true rfl) ?_
  refine W.eq (g2 := F0 m 4 ls []) rfl ?_
  refine lv_aload_n hx hb dX5_init_4 rfl (lv_at hl 0 rfl) ?_
  refine va_new (ci := 4) (fs := [.int 0, .null, .null, .null, .null, .int 0, .int 0, .null, .int 0, .int 0, .null, .null, .null]) (C := RX4) (T := TX4) (N := 13) hx hb hts (by decide +kernel) tyX4 tyX4_ok hown (hts (.classLink RX5 7 RX4) (by decide +kernel)) (hts (.instantiable RX4 13) (by decide +kernel)) (hts (.initialized RX4) (by decide +kernel)) hK hW.1 hW.2.1 hW.2.2 hA rfl (fun j hj => by rcases (show j = 0 ∨ j = 1 ∨ j = 2 ∨ j = 3 ∨ j = 4 ∨ j = 5 ∨ j = 6 ∨ j = 7 ∨ j = 8 ∨ j = 9 ∨ j = 10 ∨ j = 11 ∨ j = 12 by omega) with h | h | h | h | h | h | h | h | h | h | h | h | h <;> subst h <;> rfl) (Nat.le_of_ble_eq_true rfl) (Nat.le_of_ble_eq_true rfl) dX5_init_5 (fun q1 H hP hD hS => ?_)
  have hW : Wd D (nA h0 s0.heap.size) (([(h0, .inr (5, [.null, .null, .null]))]) ++ [(q1, .inr (4, [.int 0, .null, .null, .null, .null, .int 0, .int 0, .null, .int 0, .int 0, .null, .null, .null]))]) s0.heap H _ := ⟨hP, hD, hS⟩
  clear hP hD hS
  refine lv_dup hx hb dX5_init_8 rfl ?_
  refine n_callN (w := [(h0, .inr (5, [.null, .null, .null]))]) (rest := [.ref q1, .ref h0]) ⟨hx, hb, hml, hown, hts⟩ hK hN hW hA (kX4_init l D cI cV q1) hN.2.2.2.1 gX5_init_X4_init_n9 rfl (hts (.initialized RX4) (by decide +kernel)) (hts (.instanceMethod yX4_init) (by decide +kernel)) rfl (by decide +kernel) ⟨Nat.le_of_ble_eq_true rfl, Nat.le_of_ble_eq_true rfl⟩ hl.1 (Nat.le_of_ble_eq_true rfl) dX5_init_9 ⟨Nat.le_of_ble_eq_true rfl, Nat.le_of_ble_eq_true rfl⟩ (fun r1 H locs hW => ?_)
  have hW : Wd D (nA h0 s0.heap.size) ([(h0, .inr (5, [.null, .null, .null]))] ++ vilw cI (fun k => if k = 0 then q1 else r1 k) S0 0 (fun _ => 0)) s0.heap H locs := hW
  refine va_putF (D := D) (ci := 5) (v := .ref q1) (ty := .object "VillageLog$Village") (C := RX5) (T := TX5) (N := 3) hx hb hts hin tyX5 tyX5_ok nmX5 hown hK hW.1 hW.2.1 hW.2.2 0 rfl rfl 0 (by decide) (hts (.fieldLink RX5 10 "VillageLog" "village" "LVillageLog$Village;") (by decide +kernel)) (fun _ h => h) rfl hnm rfl (by decide +kernel) rfl rfl (Nat.le_of_ble_eq_true rfl) dX5_init_12 (fun H locs hP hD hS => ?_)
  have hW : Wd D (nA h0 s0.heap.size) ([(h0, .inr (5, [.ref q1, .null, .null]))] ++ vilw cI (fun k => if k = 0 then q1 else r1 k) S0 0 (fun _ => 0)) s0.heap H locs := ⟨hP, hD, hS⟩
  clear hP hD hS
  refine lv_aload_n hx hb dX5_init_15 rfl (lv_at hl 0 rfl) ?_
  refine va_new (ci := 1) (fs := [.null, .int 0, .int 0]) (C := RX1) (T := TX1) (N := 3) hx hb hts (by decide +kernel) tyX1 tyX1_ok hown (hts (.classLink RX5 16 RX1) (by decide +kernel)) (hts (.instantiable RX1 3) (by decide +kernel)) (hts (.initialized RX1) (by decide +kernel)) hK hW.1 hW.2.1 hW.2.2 hA rfl (fun j hj => by rcases (show j = 0 ∨ j = 1 ∨ j = 2 by omega) with h | h | h <;> subst h <;> rfl) (Nat.le_of_ble_eq_true rfl) (Nat.le_of_ble_eq_true rfl) dX5_init_16 (fun q2 H hP hD hS => ?_)
  have hW : Wd D (nA h0 s0.heap.size) (([(h0, .inr (5, [.ref q1, .null, .null]))] ++ vilw cI (fun k => if k = 0 then q1 else r1 k) S0 0 (fun _ => 0)) ++ [(q2, .inr (1, [.null, .int 0, .int 0]))]) s0.heap H _ := ⟨hP, hD, hS⟩
  clear hP hD hS
  refine lv_dup hx hb dX5_init_19 rfl ?_
  refine n_callI (w := [(h0, .inr (5, [.ref q1, .null, .null]))] ++ vilw cI (fun k => if k = 0 then q1 else r1 k) S0 0 (fun _ => 0)) (rest := [.ref q2, .ref h0]) ⟨hx, hb, hml, hown, hts⟩ hK hN hW hA (kX1_init l D cI cV q2) (hts (.methodLink RX5 18 yX1_init) (by decide +kernel)) gX5_init_X1_init rfl (hts (.initialized RX1) (by decide +kernel)) (hts (.instanceMethod yX1_init) (by decide +kernel)) rfl (by decide +kernel) ⟨Nat.le_of_ble_eq_true rfl, Nat.le_of_ble_eq_true rfl⟩ hl.1 (Nat.le_of_ble_eq_true rfl) dX5_init_20 ⟨Nat.le_of_ble_eq_true rfl, Nat.le_of_ble_eq_true rfl⟩ (fun r2 H locs hW => ?_)
  have hW : Wd D (nA h0 s0.heap.size) (([(h0, .inr (5, [.ref q1, .null, .null]))] ++ vilw cI (fun k => if k = 0 then q1 else r1 k) S0 0 (fun _ => 0)) ++ (hisw cV q2 r2.1 (fun k => r2.2 k 0) 0 0 ++ rw6 cI r2.2 (fun _ => S0) (fun _ => 0) (fun _ _ => 0))) s0.heap H locs := hW
  refine va_putF (D := D) (ci := 5) (v := .ref q2) (ty := .object "VillageLog$History") (C := RX5) (T := TX5) (N := 3) hx hb hts hin tyX5 tyX5_ok nmX5 hown hK hW.1 hW.2.1 hW.2.2 0 rfl rfl 1 (by decide) (hts (.fieldLink RX5 19 "VillageLog" "history" "LVillageLog$History;") (by decide +kernel)) (fun _ h => h) rfl hnm rfl (by decide +kernel) rfl rfl (Nat.le_of_ble_eq_true rfl) dX5_init_23 (fun H locs hP hD hS => ?_)
  have hW : Wd D (nA h0 s0.heap.size) (([(h0, .inr (5, [.ref q1, .ref q2, .null]))] ++ vilw cI (fun k => if k = 0 then q1 else r1 k) S0 0 (fun _ => 0)) ++ (hisw cV q2 r2.1 (fun k => r2.2 k 0) 0 0 ++ rw6 cI r2.2 (fun _ => S0) (fun _ => 0) (fun _ _ => 0))) s0.heap H locs := ⟨hP, hD, hS⟩
  clear hP hD hS
  refine lv_aload_n hx hb dX5_init_26 rfl (lv_at hl 0 rfl) ?_
  refine va_new (ci := 3) (fs := [.null, .int 0, .int 0, .int 0, .int 0, .int 0]) (C := RX3) (T := TX3) (N := 6) hx hb hts (by decide +kernel) tyX3 tyX3_ok hown (hts (.classLink RX5 23 RX3) (by decide +kernel)) (hts (.instantiable RX3 6) (by decide +kernel)) (hts (.initialized RX3) (by decide +kernel)) hK hW.1 hW.2.1 hW.2.2 hA rfl (fun j hj => by rcases (show j = 0 ∨ j = 1 ∨ j = 2 ∨ j = 3 ∨ j = 4 ∨ j = 5 by omega) with h | h | h | h | h | h <;> subst h <;> rfl) (Nat.le_of_ble_eq_true rfl) (Nat.le_of_ble_eq_true rfl) dX5_init_27 (fun q3 H hP hD hS => ?_)
  have hW : Wd D (nA h0 s0.heap.size) ((([(h0, .inr (5, [.ref q1, .ref q2, .null]))] ++ vilw cI (fun k => if k = 0 then q1 else r1 k) S0 0 (fun _ => 0)) ++ (hisw cV q2 r2.1 (fun k => r2.2 k 0) 0 0 ++ rw6 cI r2.2 (fun _ => S0) (fun _ => 0) (fun _ _ => 0))) ++ [(q3, .inr (3, [.null, .int 0, .int 0, .int 0, .int 0, .int 0]))]) s0.heap H _ := ⟨hP, hD, hS⟩
  clear hP hD hS
  refine lv_dup hx hb dX5_init_30 rfl ?_
  refine n_callN (w := ([(h0, .inr (5, [.ref q1, .ref q2, .null]))] ++ vilw cI (fun k => if k = 0 then q1 else r1 k) S0 0 (fun _ => 0)) ++ (hisw cV q2 r2.1 (fun k => r2.2 k 0) 0 0 ++ rw6 cI r2.2 (fun _ => S0) (fun _ => 0) (fun _ _ => 0))) (rest := [.ref q3, .ref h0]) ⟨hx, hb, hml, hown, hts⟩ hK hN hW hA (kX3_init l D cI cV q3) hN.2.2.2.2.1 gX5_init_X3_init_n25 rfl (hts (.initialized RX3) (by decide +kernel)) (hts (.instanceMethod yX3_init) (by decide +kernel)) rfl (by decide +kernel) ⟨Nat.le_of_ble_eq_true rfl, Nat.le_of_ble_eq_true rfl⟩ hl.1 (Nat.le_of_ble_eq_true rfl) dX5_init_31 ⟨Nat.le_of_ble_eq_true rfl, Nat.le_of_ble_eq_true rfl⟩ (fun r3 H locs hW => ?_)
  have hW : Wd D (nA h0 s0.heap.size) ((([(h0, .inr (5, [.ref q1, .ref q2, .null]))] ++ vilw cI (fun k => if k = 0 then q1 else r1 k) S0 0 (fun _ => 0)) ++ (hisw cV q2 r2.1 (fun k => r2.2 k 0) 0 0 ++ rw6 cI r2.2 (fun _ => S0) (fun _ => 0) (fun _ _ => 0))) ++ txtw cI q3 (r3 0) (fun _ => 0) 0 0 0 0 0) s0.heap H locs := hW
  refine va_putF (D := D) (ci := 5) (v := .ref q3) (ty := .object "VillageLog$Text") (C := RX5) (T := TX5) (N := 3) hx hb hts hin tyX5 tyX5_ok nmX5 hown hK hW.1 hW.2.1 hW.2.2 0 rfl rfl 2 (by decide) (hts (.fieldLink RX5 26 "VillageLog" "text" "LVillageLog$Text;") (by decide +kernel)) (fun _ h => h) rfl hnm rfl (by decide +kernel) rfl rfl (Nat.le_of_ble_eq_true rfl) dX5_init_34 (fun H locs hP hD hS => ?_)
  have hW : Wd D (nA h0 s0.heap.size) ((([(h0, .inr (5, [.ref q1, .ref q2, .ref q3]))] ++ vilw cI (fun k => if k = 0 then q1 else r1 k) S0 0 (fun _ => 0)) ++ (hisw cV q2 r2.1 (fun k => r2.2 k 0) 0 0 ++ rw6 cI r2.2 (fun _ => S0) (fun _ => 0) (fun _ _ => 0))) ++ txtw cI q3 (r3 0) (fun _ => 0) 0 0 0 0 0) s0.heap H locs := ⟨hP, hD, hS⟩
  clear hP hD hS
  have hW := hW.perm logperm
  refine W.widen (k := 116) (n := 3841) (Nat.le_of_ble_eq_true rfl) (Nat.le_of_ble_eq_true rfl) ?_
  exact n_ret hx hb hr hlocks hW (fun k => ([h0, q2, r2.1, q3, r3 0] : List Nat).getD k 0, fun k => if k = 0 then q1 else r1 k, r2.2) rfl dX5_init_37
