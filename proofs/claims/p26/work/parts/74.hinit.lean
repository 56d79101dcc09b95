theorem rev6 {v0 v1 v2 v3 v4 v5 : va_W} : (v5 ++ (v4 ++ (v3 ++ (v2 ++ (v1 ++ (v0 ++ [])))))).Perm (v0 ++ (v1 ++ (v2 ++ (v3 ++ (v4 ++ v5))))) := by
  refine perm_of_count (fun i x => ?_)
  simp only [List.count_append, List.count_nil]
  omega
set_option maxHeartbeats 4000000 in
set_option maxRecDepth 100000 in
theorem kX1_init (l : Launch) (D : va_G) (cI cV : ClassId) (h0 : Nat) : NM l yX1_init wsX1_init 3 52 97 3234 h0 (.inr (1, [.null, .int 0, .int 0])) (fun r : Nat × (Nat → Nat → Nat) => hisw cV h0 r.1 (fun k => r.2 k 0) 0 0 ++ rw6 cI r.2 (fun _ => S0) (fun _ => 0) (fun _ _ => 0)) D cI cV := by
  refine NM.of (cc := cX1_init) (maxL := 2) (by decide) rfl (Nat.le_of_ble_eq_true rfl) ?_
  intro p e s0 m below meth c ls hx hb hr hts hown hlocks hnm hml hW hK hN hl
  have hown : s0.vm.findClass RX1 = some m.cls := hown
  have hnm : meth.name = "<init>" := hnm
  have hin : ∀ w ∈ u_ws RX1 TX1 3, w ∈ wsX1_init := by decide +kernel
  have hA : ∀ q : Nat, s0.heap.size ≤ q → nA h0 s0.heap.size q := fun q h => Or.inr h
  have hl : lv_has ls 2 [(0, .ref h0)] := hl
  refine lv_aload_n hx hb dX1_init_0 rfl (lv_at hl 0 rfl) ?_
  refine W.objInit hx hb hown (hts (.methodLink RX1 3 objectInit) (by decide +kernel)) (hts (.instanceMethod objectInit) (by decide +kernel)) (hts (.code objectInit ⟨#[0xb1]⟩ 1 none) (by decide +kernel)) rfl (by rw [hml]; exact hl.1) rfl dX1_init_1 (Nat.le_of_ble_eq_true rfl) (Nat.le_of_ble_eq_true rfl) ?_
  refine W.eq (g2 := F0 m 4 ls []) rfl ?_
  refine lv_aload_n hx hb dX1_init_4 rfl (lv_at hl 0 rfl) ?_
  refine j_bi hx hb dX1_init_5 rfl ?_
  refine j_newV hx hb hown (hts (.classLink RX1 11 "VillageLog$Village") (by decide +kernel)) hN.2.2.2.2.2 hK hW hA (n := 6) rfl (by decide) (Nat.le_of_ble_eq_true rfl) (Nat.le_of_ble_eq_true rfl) dX1_init_7 (fun q H hW => ?_)
  have hW : Wd D _ [(h0, .inr (1, [.null, .int 0, .int 0])), (q, .inl (cV, 6, .inr (.inr (.inr (.inr (fun _ => none))))))] s0.heap H _ := hW
  refine va_putF (D := D) (ci := 1) (v := .ref q) (ty := .array (.object "VillageLog$Village")) (C := RX1) (T := TX1) (N := 3) hx hb hts hin tyX1 tyX1_ok nmX1 hown hK hW.1 hW.2.1 hW.2.2 0 rfl rfl 0 (by decide) (hts (.fieldLink RX1 13 "VillageLog$History" "rows" "[LVillageLog$Village;") (by decide +kernel)) (fun _ h => h) rfl hnm rfl (by decide +kernel) rfl rfl (Nat.le_of_ble_eq_true rfl) dX1_init_10 (fun H locs hP hD hS => ?_)
  have hW : Wd D (nA h0 s0.heap.size) ((h0, .inr (1, [.ref q, .int 0, .int 0])) :: (q, .inl (cV, 6, .inr (.inr (.inr (.inr (fun _ => none)))))) :: []) s0.heap H locs := ⟨hP, hD, hS⟩
  clear hP hD hS
  refine j_c hx hb dX1_init_13 ?_
  refine lv_istore_n (lv' := [(1, .int (iI 0)), (0, .ref h0)]) hx hb dX1_init_14 rfl hl (by decide) rfl (fun ls hl => ?_)
  have step : ∀ (i : Nat), i < 6 → ∀ (f : Nat → Option Nat) (P : va_W) (cells slots : Nat) (ls : Array Slot) (H : Heap) (locs : List Loc), lv_has ls 2 [(1, .int (iI (i : Int))), (0, .ref h0)] → Wd D (nA h0 s0.heap.size) ((h0, .inr (1, [.ref q, .int 0, .int 0])) :: (q, .inl (cV, 6, .inr (.inr (.inr (.inr (f)))))) :: P) s0.heap H locs → cells + 16 ≤ 97 → slots + 538 ≤ 3234 → (∀ (rr : Nat → Nat) (H' : Heap) (locs' : List Loc) (ls' : Array Slot), lv_has ls' 2 [(1, .int (iI ((i + 1 : Nat) : Int))), (0, .ref h0)] → Wd D (nA h0 s0.heap.size) ((h0, .inr (1, [.ref q, .int 0, .int 0])) :: (q, .inl (cV, 6, .inr (.inr (.inr (.inr (va_up f i (some (rr 0)))))))) :: (vilw cI rr S0 0 (fun _ => 0) ++ P)) s0.heap H' locs' → W p l e (headSpec wsX1_init (rmN 3 52 97 3234)).room s0 m ([.ref h0] : List Value).toArray below meth c H' locs' (cells + 16) (slots + 538) (MQ below (nQ D (fun r : Nat × (Nat → Nat → Nat) => hisw cV h0 r.1 (fun k => r.2 k 0) 0 0 ++ rw6 cI r.2 (fun _ => S0) (fun _ => 0) (fun _ _ => 0)) (nA h0 s0.heap.size)) ([.ref h0] : List Value).toArray s0 97 3234 (nA h0 s0.heap.size)) (F0 m 15 ls' [])) → W p l e (headSpec wsX1_init (rmN 3 52 97 3234)).room s0 m ([.ref h0] : List Value).toArray below meth c H locs (cells) (slots) (MQ below (nQ D (fun r : Nat × (Nat → Nat → Nat) => hisw cV h0 r.1 (fun k => r.2 k 0) 0 0 ++ rw6 cI r.2 (fun _ => S0) (fun _ => 0) (fun _ _ => 0)) (nA h0 s0.heap.size)) ([.ref h0] : List Value).toArray s0 97 3234 (nA h0 s0.heap.size)) (F0 m 15 ls []) := by
    intro i hi f P cells slots ls H locs hl hW hc hs kk
    refine lv_iload_n hx hb dX1_init_15 rfl (lv_at hl 0 rfl) ?_
    refine j_bi hx hb dX1_init_16 rfl ?_
    refine j_ige (tgt := 40) hx hb ⟨by omega, by omega⟩ ⟨by omega, by omega⟩ dX1_init_18 (by decide) (fun c1 => ?_) (fun c1 => ?_)
    · exfalso; omega
    refine lv_aload_n hx hb dX1_init_21 rfl (lv_at hl 1 rfl) ?_
    refine va_get (D := D) (ci := 1) (v := .ref q) (C := RX1) (T := TX1) (N := 3) hx hb hts hin hown hK hW.1 0 rfl rfl 0 (by decide) (hts (.fieldLink RX1 13 "VillageLog$History" "rows" "[LVillageLog$Village;") (by decide +kernel)) (fun _ h => h) rfl dX1_init_22 ?_
    refine lv_iload_n hx hb dX1_init_25 rfl (lv_at hl 0 rfl) ?_
    refine va_new (ci := 4) (fs := [.int 0, .null, .null, .null, .null, .int 0, .int 0, .null, .int 0, .int 0, .null, .null, .null]) (C := RX4) (T := TX4) (N := 13) hx hb hts (by decide +kernel) tyX4 tyX4_ok hown (hts (.classLink RX1 11 RX4) (by decide +kernel)) (hts (.instantiable RX4 13) (by decide +kernel)) (hts (.initialized RX4) (by decide +kernel)) hK hW.1 hW.2.1 hW.2.2 hA rfl (fun j hj => by rcases (show j = 0 ∨ j = 1 ∨ j = 2 ∨ j = 3 ∨ j = 4 ∨ j = 5 ∨ j = 6 ∨ j = 7 ∨ j = 8 ∨ j = 9 ∨ j = 10 ∨ j = 11 ∨ j = 12 by omega) with h | h | h | h | h | h | h | h | h | h | h | h | h <;> subst h <;> rfl) (by show cells + 1 ≤ 97; omega) (by show slots + 13 ≤ 3234; omega) dX1_init_26 (fun v H hP hD hS => ?_)
    have hW : Wd D (nA h0 s0.heap.size) (((h0, .inr (1, [.ref q, .int 0, .int 0])) :: (q, .inl (cV, 6, .inr (.inr (.inr (.inr (f)))))) :: P) ++ [(v, .inr (4, [.int 0, .null, .null, .null, .null, .int 0, .int 0, .null, .int 0, .int 0, .null, .null, .null]))]) s0.heap H _ := ⟨hP, hD, hS⟩
    clear hP hD hS
    refine lv_dup hx hb dX1_init_29 rfl ?_
    refine n_callN (w := (h0, .inr (1, [.ref q, .int 0, .int 0])) :: (q, .inl (cV, 6, .inr (.inr (.inr (.inr (f)))))) :: P) (rest := [.ref v, .int (iI (i : Int)), .ref q]) ⟨hx, hb, hml, hown, hts⟩ hK hN hW hA (kX4_init l D cI cV v) hN.2.2.1 gX1_init_X4_init_n17 rfl (hts (.initialized RX4) (by decide +kernel)) (hts (.instanceMethod yX4_init) (by decide +kernel)) rfl (by decide +kernel) ⟨Nat.le_of_ble_eq_true rfl, Nat.le_of_ble_eq_true rfl⟩ hl.1 (Nat.le_of_ble_eq_true rfl) dX1_init_30 ⟨by show cells + 1 + 15 ≤ 97; omega, by show slots + 13 + 525 ≤ 3234; omega⟩ (fun r H locs hW => ?_)
    have hW := hW.perm (List.Perm.append_left [(h0, .inr (1, [.ref q, .int 0, .int 0])), (q, .inl (cV, 6, .inr (.inr (.inr (.inr (f))))))] (List.perm_append_comm (l₁ := P) (l₂ := vilw cI (fun k => if k = 0 then v else r k) S0 0 (fun _ => 0))))
    refine j_astV hx hb hK hW 1 2 rfl rfl (by omega) (by decide) dX1_init_33 (fun H locs hW => ?_)
    refine lv_iinc (v := iI ((i : Int) + 1)) (lv' := [(1, .int (iI ((i : Int) + 1))), (0, .ref h0)]) hx hb dX1_init_34 hl (k := 0) rfl (iI_add _ _) (by decide) rfl (fun ls hl => ?_)
    refine lv_goto (tgt := 15) hx hb dX1_init_37 (by decide) ?_
    exact kk (fun k => if k = 0 then v else r k) _ _ _ hl hW
  refine step 0 (by decide) _ _ _ _ _ _ _ hl hW (Nat.le_of_ble_eq_true rfl) (Nat.le_of_ble_eq_true rfl) (fun r0 H locs ls hl hW => ?_)
  refine step 1 (by decide) _ _ _ _ _ _ _ hl hW (Nat.le_of_ble_eq_true rfl) (Nat.le_of_ble_eq_true rfl) (fun r1 H locs ls hl hW => ?_)
  refine step 2 (by decide) _ _ _ _ _ _ _ hl hW (Nat.le_of_ble_eq_true rfl) (Nat.le_of_ble_eq_true rfl) (fun r2 H locs ls hl hW => ?_)
  refine step 3 (by decide) _ _ _ _ _ _ _ hl hW (Nat.le_of_ble_eq_true rfl) (Nat.le_of_ble_eq_true rfl) (fun r3 H locs ls hl hW => ?_)
  refine step 4 (by decide) _ _ _ _ _ _ _ hl hW (Nat.le_of_ble_eq_true rfl) (Nat.le_of_ble_eq_true rfl) (fun r4 H locs ls hl hW => ?_)
  refine step 5 (by decide) _ _ _ _ _ _ _ hl hW (Nat.le_of_ble_eq_true rfl) (Nat.le_of_ble_eq_true rfl) (fun r5 H locs ls hl hW => ?_)
  clear step
  refine lv_iload_n hx hb dX1_init_15 rfl (lv_at hl 0 rfl) ?_
  refine j_bi hx hb dX1_init_16 rfl ?_
  refine j_ige (tgt := 40) hx hb ⟨by decide, by decide⟩ ⟨by decide, by decide⟩ dX1_init_18 (by decide) (fun c1 => ?_) (fun c1 => absurd c1 (by decide))
  have hW := Wd.arr (g := fun k => some ((fun k => if k = 0 then r0 else if k = 1 then r1 else if k = 2 then r2 else if k = 3 then r3 else if k = 4 then r4 else r5) k 0)) (fun i hi => by rcases (show i = 0 ∨ i = 1 ∨ i = 2 ∨ i = 3 ∨ i = 4 ∨ i = 5 by omega) with h | h | h | h | h | h <;> subst h <;> rfl) hW
  have hW := hW.perm (List.Perm.append_left [(h0, .inr (1, [.ref q, .int 0, .int 0])), (q, .inl (cV, 6, .inr (.inr (.inr (.inr (fun k => some ((fun k => if k = 0 then r0 else if k = 1 then r1 else if k = 2 then r2 else if k = 3 then r3 else if k = 4 then r4 else r5) k 0)))))))] (rev6 (v0 := vilw cI r0 S0 0 (fun _ => 0)) (v1 := vilw cI r1 S0 0 (fun _ => 0)) (v2 := vilw cI r2 S0 0 (fun _ => 0)) (v3 := vilw cI r3 S0 0 (fun _ => 0)) (v4 := vilw cI r4 S0 0 (fun _ => 0)) (v5 := vilw cI r5 S0 0 (fun _ => 0))))
  refine W.widen (k := 97) (n := 3234) (Nat.le_of_ble_eq_true rfl) (Nat.le_of_ble_eq_true rfl) ?_
  exact n_ret hx hb hr hlocks hW (q, (fun k => if k = 0 then r0 else if k = 1 then r1 else if k = 2 then r2 else if k = 3 then r3 else if k = 4 then r4 else r5)) rfl dX1_init_40
