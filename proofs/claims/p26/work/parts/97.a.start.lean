/-! the law: its start -/
set_option maxHeartbeats 4000000 in
set_option maxRecDepth 100000 in
theorem whole_start {p : Program} {e : Env} {s : State} {m : MethodId} {below : List Frame} {meth : Method} {c : Code} (l : Launch) (hflags : l.flags = flags0) {b L : Nat} {xs : Nat → Int32} (hL : L ≤ 260) (C0 : lw_At p s m meth c b L xs) : W p l e room_1 s m #[Value.ref b] below meth c s.heap [] 0 0 (lw_Z below #[Value.ref b] s) (entryFrame m ([Value.ref b] : List Value).toArray 9) := by
  have C1 := C0
  obtain ⟨hx, hb, hr, hml, hown, hts0, hX, hbl, hlocks, hgv⟩ := C1
  have hts : ∀ w ∈ wsL_law, w.before #[Value.ref b] s = true := fun w h => hts0 w (wsL_law_in w h)
  have hown : s.vm.findClass RL = some m.cls := hown
  have hA : ∀ q : Nat, s.heap.size ≤ q → (fun q : Nat => s.heap.size ≤ q) q := fun _ h => h
  obtain ⟨c0, i0, hk0⟩ := u_known (C := RX0) (T := TX0) (N := 2) (n := 2) hts inlX0 (hts (.instantiable RX0 2) (by decide +kernel))
  obtain ⟨c1, i1, hk1⟩ := u_known (C := RX1) (T := TX1) (N := 3) (n := 3) hts inlX1 (hts (.instantiable RX1 3) (by decide +kernel))
  obtain ⟨c2, i2, hk2⟩ := u_known (C := RX2) (T := TX2) (N := 7) (n := 7) hts inlX2 (hts (.instantiable RX2 7) (by decide +kernel))
  obtain ⟨c3, i3, hk3⟩ := u_known (C := RX3) (T := TX3) (N := 6) (n := 6) hts inlX3 (hts (.instantiable RX3 6) (by decide +kernel))
  obtain ⟨c4, i4, hk4⟩ := u_known (C := RX4) (T := TX4) (N := 13) (n := 13) hts inlX4 (hts (.instantiable RX4 13) (by decide +kernel))
  obtain ⟨c5, i5, hk5⟩ := u_known (C := RX5) (T := TX5) (N := 3) (n := 3) hts inlX5 (hts (.instantiable RX5 3) (by decide +kernel))
  obtain ⟨D, hKc⟩ : ∃ D : va_G, ∀ (k : Nat) (q : vw_C), vwCl[k]? = some q → u_Kn s q.1 q.2.1 q.2.2 (D.1 k) (D.2 k) := by
    refine ⟨(fun k => if k = 0 then c0 else if k = 1 then c1 else if k = 2 then c2 else if k = 3 then c3 else if k = 4 then c4 else c5, fun k => if k = 0 then i0 else if k = 1 then i1 else if k = 2 then i2 else if k = 3 then i3 else if k = 4 then i4 else i5), ?_⟩
    intro k q hq
    match k, hq with
    | 0, hq => cases hq; exact hk0
    | 1, hq => cases hq; exact hk1
    | 2, hq => cases hq; exact hk2
    | 3, hq => cases hq; exact hk3
    | 4, hq => cases hq; exact hk4
    | 5, hq => cases hq; exact hk5
    | k + 6, hq => simp [vwCl] at hq
  obtain ⟨cI, cV, cL, hK⟩ := kl_known (hts0 (.arrayClass .int) (by decide +kernel)) (hts0 (.arrayOver (.object "VillageLog$Village")) (by decide +kernel)) (hts0 (.arrayClass .long) (by decide +kernel)) hKc
  have hK2 : va_K D vwCl (kt cI cV) s := hK.sub [0, 1] rfl
  have hN : NW s := ⟨va_Nw.of rfl (hts0 (.methodLinkNest RX4 20 yX0_init "VillageLog") (by decide +kernel)), va_Nw.of rfl (hts0 (.methodLinkNest RX4 34 yX2_init "VillageLog") (by decide +kernel)), va_Nw.of rfl (hts0 (.methodLinkNest RX1 17 yX4_init "VillageLog") (by decide +kernel)), va_Nw.of rfl (hts0 (.methodLinkNest RX5 9 yX4_init "VillageLog") (by decide +kernel)), va_Nw.of rfl (hts0 (.methodLinkNest RX5 25 yX3_init "VillageLog") (by decide +kernel)), va_AO.of (hts0 (.arrayOver (.object "VillageLog$Village")) (by decide +kernel))⟩
  have hW : Wd D (fun q : Nat => s.heap.size ≤ q) [] s.heap s.heap [] := ⟨fun k q h => by simp at h, ⟨fun i j p q h => by simp at h, fun k q h => by simp at h⟩, va_S.rf⟩
  have hl := lv_entry ([.ref b]) (n := 9) (Nat.le_of_ble_eq_true rfl)
  rw [lg_entry_eq]
  generalize (lg_sl ([.ref b]) ++ List.replicate (9 - (lg_sl ([.ref b])).length) Slot.unset).toArray = ls at hl ⊢
  have hl : lv_has ls 9 [(0, .ref b)] := hl
  refine va_new (ci := 5) (fs := [.null, .null, .null]) (C := RX5) (T := TX5) (N := 3) hx hb hts inlX5 tyX5 tyX5_ok hown (hts (.classLink RL 35 RX5) (by decide +kernel)) (hts (.instantiable RX5 3) (by decide +kernel)) (hts (.initialized RX5) (by decide +kernel)) hK2 hW.1 hW.2.1 hW.2.2 hA rfl (fun j hj => by rcases (show j = 0 ∨ j = 1 ∨ j = 2 by omega) with h | h | h <;> subst h <;> rfl) (Nat.le_of_ble_eq_true rfl) (Nat.le_of_ble_eq_true rfl) dL_law_0 (fun q5 H hP hD hS => ?_)
  have hW : Wd D (fun q : Nat => s.heap.size ≤ q) ((([] : va_W)) ++ [(q5, .inr (5, [.null, .null, .null]))]) s.heap H _ := ⟨hP, hD, hS⟩
  clear hP hD hS
  refine lv_dup hx hb dL_law_3 rfl ?_
  refine n_callI (w := ([] : va_W)) (rest := [.ref q5]) ⟨hx, hb, hml, hown, hts⟩ hK2 hN hW hA (kX5_init l D cI cV q5) (hts (.methodLink RL 111 yX5_init) (by decide +kernel)) gL_law_X5_init rfl (hts (.initialized RX5) (by decide +kernel)) (hts (.instanceMethod yX5_init) (by decide +kernel)) rfl (by decide +kernel) ⟨Nat.le_of_ble_eq_true rfl, Nat.le_of_ble_eq_true rfl⟩ hl.1 (Nat.le_of_ble_eq_true rfl) dL_law_4 ⟨Nat.le_of_ble_eq_true rfl, Nat.le_of_ble_eq_true rfl⟩ (fun r5 H locs hW => ?_)
  have hW : Wd D (fun q : Nat => s.heap.size ≤ q) (logw cI cV (fun k => if k = 0 then q5 else r5.1 k) r5.2.1 r5.2.2 S0 0 (fun _ => 0) (fun _ => S0) (fun _ => 0) (fun _ _ => 0) 0 0 (fun _ => 0) 0 0 0 0 0) s.heap H locs := hW
  obtain ⟨wL, ewL⟩ : ∃ wL, wL = logw cI cV (fun k => if k = 0 then q5 else r5.1 k) r5.2.1 r5.2.2 S0 0 (fun _ => 0) (fun _ => S0) (fun _ => 0) (fun _ _ => 0) 0 0 (fun _ => 0) 0 0 0 0 0 := ⟨_, rfl⟩
  rw [← ewL] at hW
  have hLW : LW cI cV (fun k => if k = 0 then q5 else r5.1 k) r5.2.1 r5.2.2 S0 wL := by
    rw [ewL]
    exact LW_S0
  refine lv_astore_n (lv' := [(1, .ref q5), (0, .ref b)]) hx hb dL_law_7 rfl hl (by decide) rfl (fun ls hl => ?_)
  refine j_bi hx hb dL_law_8 rfl ?_
  refine j_newI (n := 8) hx hb (hts (.arrayClass .int) (by decide +kernel)) hK2 hW hA rfl (by omega) (Nat.le_of_ble_eq_true rfl) (Nat.le_of_ble_eq_true rfl) dL_law_10 (fun ga H hW => ?_)
  refine lv_astore_n (lv' := [(2, .ref ga), (1, .ref q5), (0, .ref b)]) hx hb dL_law_12 rfl hl (by decide) rfl (fun ls hl => ?_)
  refine j_bi hx hb dL_law_13 rfl ?_
  refine j_newI (n := 34) hx hb (hts (.arrayClass .int) (by decide +kernel)) hK2 hW hA rfl (by omega) (Nat.le_of_ble_eq_true rfl) (Nat.le_of_ble_eq_true rfl) dL_law_15 (fun va H hW => ?_)
  refine lv_astore_n (lv' := [(3, .ref va), (2, .ref ga), (1, .ref q5), (0, .ref b)]) hx hb dL_law_17 rfl hl (by decide) rfl (fun ls hl => ?_)
  refine j_bi hx hb dL_law_18 rfl ?_
  refine j_newL (n := 60) hx hb (hts (.arrayClass .long) (by decide +kernel)) hK hW hA rfl (by omega) (Nat.le_of_ble_eq_true rfl) (Nat.le_of_ble_eq_true rfl) dL_law_20 (fun ea H hW => ?_)
  refine lv_astore (lv' := [(4, .ref ea), (3, .ref va), (2, .ref ga), (1, .ref q5), (0, .ref b)]) hx hb dL_law_22 hl (by decide) rfl (fun ls hl => ?_)
  refine j_bi hx hb dL_law_24 rfl ?_
  refine j_newL (n := 60) hx hb (hts (.arrayClass .long) (by decide +kernel)) hK hW hA rfl (by omega) (Nat.le_of_ble_eq_true rfl) (Nat.le_of_ble_eq_true rfl) dL_law_26 (fun da H hW => ?_)
  refine lv_astore (lv' := [(5, .ref da), (4, .ref ea), (3, .ref va), (2, .ref ga), (1, .ref q5), (0, .ref b)]) hx hb dL_law_28 hl (by decide) rfl (fun ls hl => ?_)
  refine W.widen (k := 600000) (n := 7302250) (Nat.le_of_ble_eq_true rfl) (Nat.le_of_ble_eq_true rfl) ?_
  have hW : Wd D (fun q : Nat => s.heap.size ≤ q) (lw2 cI ga va (fun _ => 0) (ed2 cL ea da (fun _ => 0) (fun _ => 0) wL)) s.heap H locs := by
    have h2 : Wd D (fun q : Nat => s.heap.size ≤ q) ([(ga, arI cI 8 (fun _ => 0)), (va, arI cI 34 (fun _ => 0)), (ea, arL cL 60 (fun _ => 0)), (da, arL cL 60 (fun _ => 0))] ++ wL) s.heap H locs := Wd.perm (by
      simp only [List.append_assoc, List.cons_append, List.nil_append]
      exact List.perm_append_comm) hW
    exact h2
  refine lv_aload_n hx hb dL_law_30 rfl (lv_at hl 3 rfl) ?_
  refine j_c hx hb dL_law_31 ?_
  refine j_bi hx hb dL_law_32 rfl ?_
  refine Gst hx hb hK hW 5 (by decide) (by decide) dL_law_34 (fun H locs hW => ?_)
  refine lv_aload_n hx hb dL_law_35 rfl (lv_at hl 3 rfl) ?_
  refine j_bi hx hb dL_law_36 rfl ?_
  refine j_c hx hb dL_law_38 ?_
  refine Gst hx hb hK hW 6 (by decide) (by decide) dL_law_39 (fun H locs hW => ?_)
  have hW : Wd D (fun q : Nat => s.heap.size ≤ q) (lw2 cI ga va S0 (ed2 cL ea da (fun _ => 0) (fun _ => 0) wL)) s.heap H locs := hW
  refine lv_aload_n hx hb dL_law_40 rfl (lv_at hl 4 rfl) ?_
  refine lv_aload_n hx hb dL_law_41 rfl (lv_at hl 3 rfl) ?_
  refine lv_aload_n hx hb dL_law_42 rfl (lv_at hl 2 rfl) ?_
  refine lv_aload hx hb dL_law_43 (lv_at hl 1 rfl) ?_
  refine lv_aload hx hb dL_law_45 (lv_at hl 0 rfl) ?_
  refine pl_callS (v := .int (iI (1))) (n := 5) (w := lw2 cI ga va S0 (ed2 cL ea da (fun _ => 0) (fun _ => 0) wL)) (As := [.ref q5, .ref ga, .ref va, .ref ea, .ref da]) (rest := []) ⟨hx, hb, hml, hown, hts⟩ hK (kL_isSo l D cI cV cL ga va ea da (fun k => if k = 0 then q5 else r5.1 k) r5.2.1 r5.2.2 S0 (fun _ => 0) (fun _ => 0) wL SV_S0 hLW) hW.1 gL_law_L_isSo rfl (by decide +kernel) ⟨Nat.le_of_ble_eq_true rfl, Nat.le_of_ble_eq_true rfl⟩ rfl hl.1 (Nat.le_of_ble_eq_true rfl) dL_law_47 ⟨Nat.le_refl _, Nat.le_refl _⟩ rfl ?_
  refine lv_istore (lv' := [(6, .int (iI 1)), (5, .ref da), (4, .ref ea), (3, .ref va), (2, .ref ga), (1, .ref q5), (0, .ref b)]) hx hb dL_law_50 hl (by decide) rfl (fun ls hl => ?_)
  refine j_c hx hb dL_law_52 ?_
  refine lv_istore (lv' := [(7, .int (iI 0)), (6, .int (iI 1)), (5, .ref da), (4, .ref ea), (3, .ref va), (2, .ref ga), (1, .ref q5), (0, .ref b)]) hx hb dL_law_53 hl (by decide) rfl (fun ls hl => ?_)
  exact law_loop1 l hL C0 (g := fun k => if k = 0 then q5 else r5.1 k) (a := r5.2.1) (ra := r5.2.2) (ga := ga) (va := va) (ea := ea) (da := da) hK 9 0 (by omega) (by omega) _ H locs ⟨S0, fun _ => 0, fun _ => 0, wL, SV_S0, by rw [S0_e (by omega) (by omega)]; exact Int.le_refl _, hLW, rfl⟩ hW ls (lv_sub hl [7, 6, 5, 4, 3, 2, 1, 0] rfl)
