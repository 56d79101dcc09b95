/-! the law: its loop, and its start -/
set_option maxHeartbeats 4000000 in
set_option maxRecDepth 100000 in
theorem law_loop {p : Program} {e : Env} {s : State} {m : MethodId} {below : List Frame} {meth : Method} {c : Code} (l : Launch) {b L : Nat} {xs : Nat → Int32} (hL : L ≤ 1536) (C0 : lw_At p s m meth c b L xs) {D : va_G} {cI cV : ClassId} {g a : Nat → Nat} {ra : Nat → Nat → Nat} {b6 : Nat → Nat} (hK : va_K D vwCl (kt cI cV) s) : ∀ (n : Nat) (iv : Int), 0 ≤ iv → iv ≤ 2000 → (L : Int) - iv < n → ∀ (wL wM : va_W) (H : Heap) (locs : List Loc), Sim cI cV g a ra b6 wL wM → Wd D (fun q : Nat => s.heap.size ≤ q) (wL ++ wM) s.heap H locs → ∀ (ls : Array Slot), lv_has ls 4 [(0, .ref b), (1, .ref (g 0)), (2, .ref (b6 0)), (3, .int (iI iv))] → W p l e room_1 s m #[Value.ref b] below meth c H locs 600000 7302250 (lw_Z below #[Value.ref b] s) (F0 m 18 ls []) := by
  have C1 := C0
  obtain ⟨hx, hb, hr, hml, hown, hts0, hX, hbl, hlocks, hgv⟩ := C1
  have hbA : ¬ (fun q : Nat => s.heap.size ≤ q) b := Nat.not_le.mpr hbl
  intro n
  induction n with
  | zero =>
    intro iv h1 h2 h3
    intro wL wM H locs hS hW ls hl
    refine lv_iload_n hx hb dL_law_18 rfl (lv_at hl 3 rfl) ?_
    refine lv_aload_n hx hb dL_law_19 rfl (lv_at hl 0 rfl) ?_
    refine va_slen hx hb hX hbl hbA hW.2.2 dL_law_20 ?_
    rw [← Int32.ofInt_eq_ofNat]
    refine j_c hx hb dL_law_21 ?_
    refine j_sub (a := (L : Int)) hx hb dL_law_22 ?_
    refine j_igt (tgt := 705) hx hb ⟨by omega, by omega⟩ ⟨by omega, by omega⟩ dL_law_23 (by decide) (fun c23 => ?_) (fun c23 => ?_)
    · refine lv_iconst (v := 1) hx hb dL_law_705 (by decide) ?_
      refine va_forget (fun q hq => hW.2.2.2.2 q hq) ?_
      exact lw_ret hx hb hr hlocks dL_law_706
    · omega
  | succ n ih =>
    intro iv h1 h2 h3 wL wM H locs hS hW ls hl
    refine lv_iload_n hx hb dL_law_18 rfl (lv_at hl 3 rfl) ?_
    refine lv_aload_n hx hb dL_law_19 rfl (lv_at hl 0 rfl) ?_
    refine va_slen hx hb hX hbl hbA hW.2.2 dL_law_20 ?_
    rw [← Int32.ofInt_eq_ofNat]
    refine j_c hx hb dL_law_21 ?_
    refine j_sub (a := (L : Int)) hx hb dL_law_22 ?_
    refine j_igt (tgt := 705) hx hb ⟨by omega, by omega⟩ ⟨by omega, by omega⟩ dL_law_23 (by decide) (fun c23 => ?_) (fun c23 => ?_)
    · refine lv_iconst (v := 1) hx hb dL_law_705 (by decide) ?_
      refine va_forget (fun q hq => hW.2.2.2.2 q hq) ?_
      exact lw_ret hx hb hr hlocks dL_law_706
    have hi : 0 ≤ iv ∧ iv + 3 ≤ L := by omega
    have kk : ∀ (wL' wM' : va_W) (H' : Heap) (locs' : List Loc), Sim cI cV g a ra b6 wL' wM' → Wd D (fun q : Nat => s.heap.size ≤ q) (wL' ++ wM') s.heap H' locs' → W p l e room_1 s m #[Value.ref b] below meth c H' locs' 600000 7302250 (lw_Z below #[Value.ref b] s) (F0 m 699 ls []) := fun wL' wM' H' locs' hS' hW' => by
      refine lv_iinc (v := iI (iv + 3)) (lv' := [(3, .int (iI (iv + 3))), (0, .ref b), (1, .ref (g 0)), (2, .ref (b6 0))]) hx hb dL_law_699 hl (k := 3) rfl (iI_add iv 3) (by decide) rfl (fun ls hl => ?_)
      refine lv_goto (tgt := 18) hx hb dL_law_702 (by decide) ?_
      exact ih (iv + 3) (by omega) (by omega) (by omega) wL' wM' H' locs' hS' hW' ls (lv_sub hl [1, 2, 3, 0] rfl)
    refine lv_aload_n hx hb dL_law_26 rfl (lv_at hl 0 rfl) ?_
    refine lv_iload_n hx hb dL_law_27 rfl (lv_at hl 3 rfl) ?_
    refine j_sld hx hb hX hbl hbA hW.2.2 (by omega) hL dL_law_28 ?_
    refine j_bi hx hb dL_law_29 (by decide) ?_
    refine lv_iand hx hb dL_law_31 ?_
    rw [← iI_of (iI (xs iv.toNat).toInt &&& iI 31)]
    obtain ⟨kz, hkz⟩ : ∃ z, z = (iI (xs iv.toNat).toInt &&& iI 31).toInt := ⟨_, rfl⟩
    have rkz : rg kz := by rw [hkz]; exact rg_of _
    rw [← hkz]
    by_cases h0 : kz = 0
    · refine j_tin (tgt := 140) hx hb h0 ⟨by omega, by omega⟩ dL_law_32 (by omega) (by omega) rfl (by decide) ?_
      exact law_come l hL C0 hK hi hS hW hl kk
    by_cases h1 : kz = 1
    · refine j_tin (tgt := 153) hx hb h1 ⟨by omega, by omega⟩ dL_law_32 (by omega) (by omega) rfl (by decide) ?_
      exact law_attend l hL C0 hK hi hS hW hl kk
    by_cases h2 : kz = 2
    · refine j_tin (tgt := 186) hx hb h2 ⟨by omega, by omega⟩ dL_law_32 (by omega) (by omega) rfl (by decide) ?_
      exact law_found l hL C0 hK hi hS hW hl kk
    by_cases h3 : kz = 3
    · refine j_tin (tgt := 209) hx hb h3 ⟨by omega, by omega⟩ dL_law_32 (by omega) (by omega) rfl (by decide) ?_
      exact law_setLot l hL C0 hK hi hS hW hl kk
    by_cases h4 : kz = 4
    · refine j_tin (tgt := 232) hx hb h4 ⟨by omega, by omega⟩ dL_law_32 (by omega) (by omega) rfl (by decide) ?_
      exact law_change l hL C0 hK hi hS hW hl kk
    by_cases h5 : kz = 5
    · refine j_tin (tgt := 265) hx hb h5 ⟨by omega, by omega⟩ dL_law_32 (by omega) (by omega) rfl (by decide) ?_
      exact law_forge l hL C0 hK hi hS hW hl kk
    by_cases h6 : kz = 6
    · refine j_tin (tgt := 288) hx hb h6 ⟨by omega, by omega⟩ dL_law_32 (by omega) (by omega) rfl (by decide) ?_
      exact law_propose l hL C0 hK hi hS hW hl kk
    by_cases h7 : kz = 7
    · refine j_tin (tgt := 321) hx hb h7 ⟨by omega, by omega⟩ dL_law_32 (by omega) (by omega) rfl (by decide) ?_
      exact law_second l hL C0 hK hi hS hW hl kk
    by_cases h8 : kz = 8
    · refine j_tin (tgt := 354) hx hb h8 ⟨by omega, by omega⟩ dL_law_32 (by omega) (by omega) rfl (by decide) ?_
      exact law_learn l hL C0 hK hi hS hW hl kk
    by_cases h9 : kz = 9
    · refine j_tin (tgt := 377) hx hb h9 ⟨by omega, by omega⟩ dL_law_32 (by omega) (by omega) rfl (by decide) ?_
      exact law_undo l hL C0 hK hi hS hW hl kk
    by_cases h10 : kz = 10
    · refine j_tin (tgt := 390) hx hb h10 ⟨by omega, by omega⟩ dL_law_32 (by omega) (by omega) rfl (by decide) ?_
      exact law_append l hL C0 hK hi hS hW hl kk
    by_cases h11 : kz = 11
    · refine j_tin (tgt := 413) hx hb h11 ⟨by omega, by omega⟩ dL_law_32 (by omega) (by omega) rfl (by decide) ?_
      exact law_clearText l hL C0 hK hi hS hW hl kk
    by_cases h12 : kz = 12
    · refine j_tin (tgt := 426) hx hb h12 ⟨by omega, by omega⟩ dL_law_32 (by omega) (by omega) rfl (by decide) ?_
      exact law_run l hL C0 hK hi hS hW hl kk
    by_cases h13 : kz = 13
    · refine j_tin (tgt := 439) hx hb h13 ⟨by omega, by omega⟩ dL_law_32 (by omega) (by omega) rfl (by decide) ?_
      exact law_count l hL C0 hK hi hS hW hl kk
    by_cases h14 : kz = 14
    · refine j_tin (tgt := 462) hx hb h14 ⟨by omega, by omega⟩ dL_law_32 (by omega) (by omega) rfl (by decide) ?_
      exact law_elder l hL C0 hK hi hS hW hl kk
    by_cases h15 : kz = 15
    · refine j_tin (tgt := 495) hx hb h15 ⟨by omega, by omega⟩ dL_law_32 (by omega) (by omega) rfl (by decide) ?_
      exact law_villager l hL C0 hK hi hS hW hl kk
    by_cases h16 : kz = 16
    · refine j_tin (tgt := 528) hx hb h16 ⟨by omega, by omega⟩ dL_law_32 (by omega) (by omega) rfl (by decide) ?_
      exact law_entry l hL C0 hK hi hS hW hl kk
    by_cases h17 : kz = 17
    · refine j_tin (tgt := 561) hx hb h17 ⟨by omega, by omega⟩ dL_law_32 (by omega) (by omega) rfl (by decide) ?_
      exact law_draw l hL C0 hK hi hS hW hl kk
    by_cases h18 : kz = 18
    · refine j_tin (tgt := 594) hx hb h18 ⟨by omega, by omega⟩ dL_law_32 (by omega) (by omega) rfl (by decide) ?_
      exact law_missing l hL C0 hK hi hS hW hl kk
    by_cases h19 : kz = 19
    · refine j_tin (tgt := 617) hx hb h19 ⟨by omega, by omega⟩ dL_law_32 (by omega) (by omega) rfl (by decide) ?_
      exact law_reachable l hL C0 hK hi hS hW hl kk
    by_cases h20 : kz = 20
    · refine j_tin (tgt := 630) hx hb h20 ⟨by omega, by omega⟩ dL_law_32 (by omega) (by omega) rfl (by decide) ?_
      exact law_nextDrawn l hL C0 hK hi hS hW hl kk
    by_cases h21 : kz = 21
    · refine j_tin (tgt := 653) hx hb h21 ⟨by omega, by omega⟩ dL_law_32 (by omega) (by omega) rfl (by decide) ?_
      exact law_spare l hL C0 hK hi hS hW hl kk
    by_cases h22 : kz = 22
    · refine j_tin (tgt := 666) hx hb h22 ⟨by omega, by omega⟩ dL_law_32 (by omega) (by omega) rfl (by decide) ?_
      exact law_lotFor l hL C0 hK hi hS hW hl kk
    exact j_tout (tgt := 699) hx hb rkz dL_law_32 (by omega) (by decide) (kk wL wM H locs hS hW)
set_option maxHeartbeats 4000000 in
set_option maxRecDepth 100000 in
theorem whole_start {p : Program} {e : Env} {s : State} {m : MethodId} {below : List Frame} {meth : Method} {c : Code} (l : Launch) (hflags : l.flags = flags0) {b L : Nat} {xs : Nat → Int32} (hL : L ≤ 1536) (C0 : lw_At p s m meth c b L xs) : W p l e room_1 s m #[Value.ref b] below meth c s.heap [] 0 0 (lw_Z below #[Value.ref b] s) (entryFrame m ([Value.ref b] : List Value).toArray 4) := by
  have C1 := C0
  obtain ⟨hx, hb, hr, hml, hown, hts0, hX, hbl, hlocks, hgv⟩ := C1
  have hts : ∀ w ∈ wsL_law, w.before #[Value.ref b] s = true := fun w h => hts0 w (wsL_law_in w h)
  have hown : s.vm.findClass RL = some m.cls := hown
  have hA : ∀ q : Nat, s.heap.size ≤ q → (fun q : Nat => s.heap.size ≤ q) q := fun _ h => h
  obtain ⟨c0, i0, hk0⟩ := u_known (C := RX0) (T := TX0) (N := 2) (n := 2) hts inlX0 (hts (.instantiable RX0 2) (by decide +kernel))
  obtain ⟨c1, i1, hk1⟩ := u_known (C := RX1) (T := TX1) (N := 3) (n := 3) hts inlX1 (hts (.instantiable RX1 3) (by decide +kernel))
  obtain ⟨c2, i2, hk2⟩ := u_known (C := RX2) (T := TX2) (N := 7) (n := 7) hts inlX2 (hts (.instantiable RX2 7) (by decide +kernel))
  obtain ⟨c3, i3, hk3⟩ := u_known (C := RX3) (T := TX3) (N := 6) (n := 6) hts inlX3 (hts (.instantiable RX3 6) (by decide +kernel))
  obtain ⟨c4, i4, hk4⟩ := u_known (C := RX4) (T := TX4) (N := 13) (n := 13) hts inlX4 (hts (.instantiable RX4 13) (by decide +kernel))
  obtain ⟨c5, i5, hk5⟩ := u_known (C := RX5) (T := TX5) (N := 3) (n := 3) hts inlX5 (hts (.instantiable RX5 3) (by decide +kernel))
  obtain ⟨c6, i6, hk6⟩ := u_known (C := RX6) (T := TX6) (N := 9) (n := 9) hts inlX6 (hts (.instantiable RX6 9) (by decide +kernel))
  obtain ⟨D, hKc⟩ : ∃ D : va_G, ∀ (k : Nat) (q : vw_C), vwCl[k]? = some q → u_Kn s q.1 q.2.1 q.2.2 (D.1 k) (D.2 k) := by
    refine ⟨(fun k => if k = 0 then c0 else if k = 1 then c1 else if k = 2 then c2 else if k = 3 then c3 else if k = 4 then c4 else if k = 5 then c5 else c6, fun k => if k = 0 then i0 else if k = 1 then i1 else if k = 2 then i2 else if k = 3 then i3 else if k = 4 then i4 else if k = 5 then i5 else i6), ?_⟩
    intro k q hq
    match k, hq with
    | 0, hq => cases hq; exact hk0
    | 1, hq => cases hq; exact hk1
    | 2, hq => cases hq; exact hk2
    | 3, hq => cases hq; exact hk3
    | 4, hq => cases hq; exact hk4
    | 5, hq => cases hq; exact hk5
    | 6, hq => cases hq; exact hk6
    | k + 7, hq => simp [vwCl] at hq
  obtain ⟨cI, cV, hK⟩ := kt_known (hts0 (.arrayClass .int) (by decide +kernel)) (hts0 (.arrayOver (.object "VillageLog$Village")) (by decide +kernel)) hKc
  have hN : NW s := ⟨va_Nw.of rfl (hts0 (.methodLinkNest RX4 20 yX0_init "VillageLog") (by decide +kernel)), va_Nw.of rfl (hts0 (.methodLinkNest RX4 34 yX2_init "VillageLog") (by decide +kernel)), va_Nw.of rfl (hts0 (.methodLinkNest RX1 17 yX4_init "VillageLog") (by decide +kernel)), va_Nw.of rfl (hts0 (.methodLinkNest RX5 9 yX4_init "VillageLog") (by decide +kernel)), va_Nw.of rfl (hts0 (.methodLinkNest RX5 25 yX3_init "VillageLog") (by decide +kernel)), va_AO.of (hts0 (.arrayOver (.object "VillageLog$Village")) (by decide +kernel))⟩
  have hW : Wd D (fun q : Nat => s.heap.size ≤ q) [] s.heap s.heap [] := ⟨fun k q h => by simp at h, ⟨fun i j p q h => by simp at h, fun k q h => by simp at h⟩, va_S.rf⟩
  have hl := lv_entry ([.ref b]) (n := 4) (Nat.le_of_ble_eq_true rfl)
  rw [lg_entry_eq]
  generalize (lg_sl ([.ref b]) ++ List.replicate (4 - (lg_sl ([.ref b])).length) Slot.unset).toArray = ls at hl ⊢
  have hl : lv_has ls 4 [(0, .ref b)] := hl
  refine va_new (ci := 5) (fs := [.null, .null, .null]) (C := RX5) (T := TX5) (N := 3) hx hb hts inlX5 tyX5 tyX5_ok hown (hts (.classLink RL 7 RX5) (by decide +kernel)) (hts (.instantiable RX5 3) (by decide +kernel)) (hts (.initialized RX5) (by decide +kernel)) hK hW.1 hW.2.1 hW.2.2 hA rfl (fun j hj => by rcases (show j = 0 ∨ j = 1 ∨ j = 2 by omega) with h | h | h <;> subst h <;> rfl) (Nat.le_of_ble_eq_true rfl) (Nat.le_of_ble_eq_true rfl) dL_law_0 (fun q5 H hP hD hS => ?_)
  have hW : Wd D (fun q : Nat => s.heap.size ≤ q) ((([] : va_W)) ++ [(q5, .inr (5, [.null, .null, .null]))]) s.heap H _ := ⟨hP, hD, hS⟩
  clear hP hD hS
  refine lv_dup hx hb dL_law_3 rfl ?_
  refine n_callI (w := ([] : va_W)) (rest := [.ref q5]) ⟨hx, hb, hml, hown, hts⟩ hK hN hW hA (kX5_init l D cI cV q5) (hts (.methodLink RL 9 yX5_init) (by decide +kernel)) gL_law_X5_init rfl (hts (.initialized RX5) (by decide +kernel)) (hts (.instanceMethod yX5_init) (by decide +kernel)) rfl (by decide +kernel) ⟨Nat.le_of_ble_eq_true rfl, Nat.le_of_ble_eq_true rfl⟩ hl.1 (Nat.le_of_ble_eq_true rfl) dL_law_4 ⟨Nat.le_of_ble_eq_true rfl, Nat.le_of_ble_eq_true rfl⟩ (fun r5 H locs hW => ?_)
  have hW : Wd D (fun q : Nat => s.heap.size ≤ q) (logw cI cV (fun k => if k = 0 then q5 else r5.1 k) r5.2.1 r5.2.2 S0 0 (fun _ => 0) (fun _ => S0) (fun _ => 0) (fun _ _ => 0) 0 0 (fun _ => 0) 0 0 0 0 0) s.heap H locs := hW
  refine lv_astore_n (lv' := [(1, .ref q5), (0, .ref b)]) hx hb dL_law_7 rfl hl (by decide) rfl (fun ls hl => ?_)
  refine va_new (ci := 6) (fs := [.null, .null, .null, .int 0, .int 0, .null, .int 0, .int 0, .int 0]) (C := RX6) (T := TX6) (N := 9) hx hb hts inlX6 tyX6 tyX6_ok hown (hts (.classLink RL 10 RX6) (by decide +kernel)) (hts (.instantiable RX6 9) (by decide +kernel)) (hts (.initialized RX6) (by decide +kernel)) hK hW.1 hW.2.1 hW.2.2 hA rfl (fun j hj => by rcases (show j = 0 ∨ j = 1 ∨ j = 2 ∨ j = 3 ∨ j = 4 ∨ j = 5 ∨ j = 6 ∨ j = 7 ∨ j = 8 by omega) with h | h | h | h | h | h | h | h | h <;> subst h <;> rfl) (Nat.le_of_ble_eq_true rfl) (Nat.le_of_ble_eq_true rfl) dL_law_8 (fun q6 H hP hD hS => ?_)
  have hW : Wd D (fun q : Nat => s.heap.size ≤ q) ((logw cI cV (fun k => if k = 0 then q5 else r5.1 k) r5.2.1 r5.2.2 S0 0 (fun _ => 0) (fun _ => S0) (fun _ => 0) (fun _ _ => 0) 0 0 (fun _ => 0) 0 0 0 0 0) ++ [(q6, .inr (6, [.null, .null, .null, .int 0, .int 0, .null, .int 0, .int 0, .int 0]))]) s.heap H _ := ⟨hP, hD, hS⟩
  clear hP hD hS
  refine lv_dup hx hb dL_law_11 rfl ?_
  refine n_callI (w := logw cI cV (fun k => if k = 0 then q5 else r5.1 k) r5.2.1 r5.2.2 S0 0 (fun _ => 0) (fun _ => S0) (fun _ => 0) (fun _ _ => 0) 0 0 (fun _ => 0) 0 0 0 0 0) (rest := [.ref q6]) ⟨hx, hb, hml, hown, hts⟩ hK hN hW hA (kX6_init l D cI cV q6) (hts (.methodLink RL 12 yX6_init) (by decide +kernel)) gL_law_X6_init rfl (hts (.initialized RX6) (by decide +kernel)) (hts (.instanceMethod yX6_init) (by decide +kernel)) rfl (by decide +kernel) ⟨Nat.le_of_ble_eq_true rfl, Nat.le_of_ble_eq_true rfl⟩ hl.1 (Nat.le_of_ble_eq_true rfl) dL_law_12 ⟨Nat.le_of_ble_eq_true rfl, Nat.le_of_ble_eq_true rfl⟩ (fun r6 H locs hW => ?_)
  have hW : Wd D (fun q : Nat => s.heap.size ≤ q) (logw cI cV (fun k => if k = 0 then q5 else r5.1 k) r5.2.1 r5.2.2 S0 0 (fun _ => 0) (fun _ => S0) (fun _ => 0) (fun _ _ => 0) 0 0 (fun _ => 0) 0 0 0 0 0 ++ modw cI (fun k => if k = 0 then q6 else r6 k) S0 (fun _ => 0) (fun _ => 0) 0 0 (fun _ => 0) 0 0 0) s.heap H locs := hW
  refine lv_astore_n (lv' := [(2, .ref q6), (1, .ref q5), (0, .ref b)]) hx hb dL_law_15 rfl hl (by decide) rfl (fun ls hl => ?_)
  refine j_c hx hb dL_law_16 ?_
  refine lv_istore_n (lv' := [(3, .int (iI 0)), (2, .ref q6), (1, .ref q5), (0, .ref b)]) hx hb dL_law_17 rfl hl (by decide) rfl (fun ls hl => ?_)
  refine W.widen (k := 600000) (n := 7302250) (Nat.le_of_ble_eq_true rfl) (Nat.le_of_ble_eq_true rfl) ?_
  have hl : lv_has ls 4 [(0, .ref b), (1, .ref q5), (2, .ref q6), (3, .int (iI 0))] := lv_sub hl [3, 2, 1, 0] rfl
  exact law_loop l hL C0 (g := fun k => if k = 0 then q5 else r5.1 k) (a := r5.2.1) (ra := r5.2.2) (b6 := fun k => if k = 0 then q6 else r6 k) hK (L + 1) 0 (by omega) (by omega) (by omega) _ _ H locs Sim_0 hW ls hl
