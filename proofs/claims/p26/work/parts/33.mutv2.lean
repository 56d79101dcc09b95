theorem vil_pa {cI : ClassId} {a : Nat → Nat} {s nw : Nat → Int} {nz : Int} : (vilw cI a s nz nw).Perm ((couw cI (a 6) (a 7) (s 1) (fun i => s (32 + i)) ++ couw cI (a 8) (a 9) nz nw) ++ (vilo cI a s ++ lotw cI a s)) := by
  unfold vilw
  refine perm_of_count (fun i x => ?_)
  simp only [List.count_append]
  omega
theorem vil_pa' {cI : ClassId} {a : Nat → Nat} {s nw : Nat → Int} {nz : Int} : ((couw cI (a 6) (a 7) nz nw ++ couw cI (a 8) (a 9) nz nw) ++ (vilo cI a s ++ lotw cI a s)).Perm (vilw cI a (setOld s nz nw) nz nw) := by
  rw [vil_setOld]
  refine perm_of_count (fun i x => ?_)
  simp only [List.count_append]
  omega
theorem vil_pb {cI : ClassId} {a : Nat → Nat} {s nw : Nat → Int} {nz : Int} : (vilw cI a s nz nw).Perm ((couw cI (a 8) (a 9) nz nw ++ couw cI (a 6) (a 7) (s 1) (fun i => s (32 + i))) ++ (vilo cI a s ++ lotw cI a s)) := by
  unfold vilw
  refine perm_of_count (fun i x => ?_)
  simp only [List.count_append]
  omega
def endS (nz : Int) (nw s : Nat → Int) : Nat → Int := up (up (setOld s nz nw) 5 (-9)) 2 ((setOld s nz nw) 2 + 1)
def endIf (nz : Int) (nw s : Nat → Int) : Nat → Int := if s 4 = s 5 then endS nz nw s else s
def agS (nz : Int) (nw : Nat → Int) : Nat → (Nat → Int) → (Nat → Int)
  | 0, s => s
  | n + 1, s => if s 4 < s 3 ∧ (nz / 2 + 1 ≤ sm (fun i => b2i (((0 ≤ (nw i) ∧ (nw i) < s 0) ∧ (s 4) < s (20 + (nw i).toNat)) ∨ (((0) : Int) ≠ 0 ∧ ((0 ≤ (nw i) ∧ (nw i) < s 0) ∧ s (8 + (nw i).toNat) = 1)))) nz.toNat ∧ (¬ (s 5 ≠ -9 ∧ (s 4) ≤ s 5) ∨ s 1 / 2 + 1 ≤ sm (fun i => b2i (((0 ≤ (s (32 + i)) ∧ (s (32 + i)) < s 0) ∧ (s 4) < s (20 + (s (32 + i)).toNat)) ∨ (((0) : Int) ≠ 0 ∧ ((0 ≤ (s (32 + i)) ∧ (s (32 + i)) < s 0) ∧ s (8 + (s (32 + i)).toNat) = 1)))) (s 1).toNat)) then agS nz nw n (up (endIf nz nw s) 4 (endIf nz nw s 4 + 1)) else s
theorem endS_ne {nz : Int} {nw s : Nat → Int} {j : Nat} (h : j ≠ 1 ∧ j ≠ 2 ∧ j ≠ 5 ∧ ¬ (32 ≤ j ∧ j < 37)) : endS nz nw s j = s j := by
  unfold endS
  rw [up_ne (by omega), up_ne (by omega), setOld_ne (by omega)]
theorem VI_end {s nw : Nat → Int} {nz : Int} (h : VI s nz nw) (h2 : s 2 ≤ s 4) : VI (endS nz nw s) nz nw ∧ endS nz nw s 2 = s 2 + 1 := by
  have e2 : endS nz nw s 2 = s 2 + 1 := by
    unfold endS
    rw [up_at rfl, setOld_ne (by omega)]
  have hh := h
  obtain ⟨h1, hb, h3⟩ := h
  have b2 := h1 2
  have b4 := hh
  refine ⟨⟨fun j => ?_, hb, ?_⟩, e2⟩
  · by_cases q : j = 2
    · subst q
      rw [e2]
      omega
    · unfold endS
      rw [up_ne q]
      unfold up setOld
      split
      · omega
      · split
        · omega
        · split
          · exact hb _
          · exact h1 j
  · rw [show endS nz nw s 0 = s 0 from endS_ne (by omega), show endS nz nw s 3 = s 3 from endS_ne (by omega), show endS nz nw s 4 = s 4 from endS_ne (by omega), show endS nz nw s 6 = s 6 from endS_ne (by omega), show endS nz nw s 7 = s 7 from endS_ne (by omega), show endS nz nw s 1 = nz from (by unfold endS; rw [up_ne (by omega), up_ne (by omega)]; rfl)]
    omega
theorem VI_4 {s nw : Nat → Int} {nz : Int} (h : VI s nz nw) (h2 : s 4 < s 3) : VI (up s 4 (s 4 + 1)) nz nw := by
  obtain ⟨h1, hb, h3⟩ := h
  refine ⟨fun j => ?_, hb, ?_⟩
  · unfold up
    split
    · omega
    · exact h1 j
  · rw [show up s 4 (s 4 + 1) 0 = s 0 from up_ne (by omega), show up s 4 (s 4 + 1) 1 = s 1 from up_ne (by omega), show up s 4 (s 4 + 1) 3 = s 3 from up_ne (by omega), show up s 4 (s 4 + 1) 6 = s 6 from up_ne (by omega), show up s 4 (s 4 + 1) 7 = s 7 from up_ne (by omega), show up s 4 (s 4 + 1) 4 = s 4 + 1 from up_at rfl]
    omega
theorem sf_step {el : Nat → Int} {j : Nat} : (fun i => if i < j + 1 then ((i : Nat) : Int) else el i) = up (fun i => if i < j then ((i : Nat) : Int) else el i) j (j : Int) := by
  funext i
  unfold up
  by_cases h : i = j
  · subst h
    rw [if_pos (by omega), if_pos rfl]
  · rw [if_neg h]
    show (if i < j + 1 then (i : Int) else el i) = (if i < j then (i : Int) else el i)
    by_cases h2 : i < j
    · rw [if_pos (by omega), if_pos h2]
    · rw [if_neg (by omega), if_neg h2]
theorem ag_inv1 {X s s1 s2 nw : Nat → Int} {nz : Int} (hV : VI s nz nw) (h2 : s 2 ≤ s 4) (hag : X = agS nz nw (s 3 - s 4).toNat s) (hlt : s 4 < s 3) (hs : nz / 2 + 1 ≤ sm (fun i => b2i (((0 ≤ (nw i) ∧ (nw i) < s 0) ∧ (s 4) < s (20 + (nw i).toNat)) ∨ (((0) : Int) ≠ 0 ∧ ((0 ≤ (nw i) ∧ (nw i) < s 0) ∧ s (8 + (nw i).toNat) = 1)))) nz.toNat ∧ (¬ (s 5 ≠ -9 ∧ (s 4) ≤ s 5) ∨ s 1 / 2 + 1 ≤ sm (fun i => b2i (((0 ≤ (s (32 + i)) ∧ (s (32 + i)) < s 0) ∧ (s 4) < s (20 + (s (32 + i)).toNat)) ∨ (((0) : Int) ≠ 0 ∧ ((0 ≤ (s (32 + i)) ∧ (s (32 + i)) < s 0) ∧ s (8 + (s (32 + i)).toNat) = 1)))) (s 1).toNat)) (he : s 4 = s 5) (e1 : s1 = endS nz nw s) (e2 : s2 = up s1 4 (s1 4 + 1)) : (VI s2 nz nw ∧ s2 2 ≤ s2 4 ∧ X = agS nz nw (s2 3 - s2 4).toNat s2) ∧ (s2 3 - s2 4).toNat < (s 3 - s 4).toNat := by
  subst e2
  subst e1
  obtain ⟨k1, k2⟩ := VI_end hV h2
  have k3 : endS nz nw s 4 = s 4 := endS_ne (by omega)
  have k4 : endS nz nw s 3 = s 3 := endS_ne (by omega)
  have k5 := VI_4 k1 (by omega)
  have k6 : up (endS nz nw s) 4 (endS nz nw s 4 + 1) 3 = s 3 := by rw [up_ne (by omega)]; exact k4
  have k7 : up (endS nz nw s) 4 (endS nz nw s 4 + 1) 4 = s 4 + 1 := by rw [up_at rfl, k3]
  refine ⟨⟨k5, ?_, ?_⟩, ?_⟩
  · rw [k7, up_ne (by omega), k2]
    omega
  · rw [hag, show (s 3 - s 4).toNat = (up (endS nz nw s) 4 (endS nz nw s 4 + 1) 3 - up (endS nz nw s) 4 (endS nz nw s 4 + 1) 4).toNat + 1 from by rw [k6, k7]; omega]
    simp only [agS]
    rw [if_pos ⟨hlt, hs⟩, show endIf nz nw s = endS nz nw s from if_pos he]
  · rw [k6, k7]
    omega
theorem ag_inv2 {X s s2 nw : Nat → Int} {nz : Int} (hV : VI s nz nw) (h2 : s 2 ≤ s 4) (hag : X = agS nz nw (s 3 - s 4).toNat s) (hlt : s 4 < s 3) (hs : nz / 2 + 1 ≤ sm (fun i => b2i (((0 ≤ (nw i) ∧ (nw i) < s 0) ∧ (s 4) < s (20 + (nw i).toNat)) ∨ (((0) : Int) ≠ 0 ∧ ((0 ≤ (nw i) ∧ (nw i) < s 0) ∧ s (8 + (nw i).toNat) = 1)))) nz.toNat ∧ (¬ (s 5 ≠ -9 ∧ (s 4) ≤ s 5) ∨ s 1 / 2 + 1 ≤ sm (fun i => b2i (((0 ≤ (s (32 + i)) ∧ (s (32 + i)) < s 0) ∧ (s 4) < s (20 + (s (32 + i)).toNat)) ∨ (((0) : Int) ≠ 0 ∧ ((0 ≤ (s (32 + i)) ∧ (s (32 + i)) < s 0) ∧ s (8 + (s (32 + i)).toNat) = 1)))) (s 1).toNat)) (he : s 4 ≠ s 5) (e2 : s2 = up s 4 (s 4 + 1)) : (VI s2 nz nw ∧ s2 2 ≤ s2 4 ∧ X = agS nz nw (s2 3 - s2 4).toNat s2) ∧ (s2 3 - s2 4).toNat < (s 3 - s 4).toNat := by
  subst e2
  have k5 := VI_4 hV hlt
  have k6 : up s 4 (s 4 + 1) 3 = s 3 := up_ne (by omega)
  have k7 : up s 4 (s 4 + 1) 4 = s 4 + 1 := up_at rfl
  refine ⟨⟨k5, ?_, ?_⟩, ?_⟩
  · rw [k7, up_ne (by omega)]
    omega
  · rw [hag, show (s 3 - s 4).toNat = (up s 4 (s 4 + 1) 3 - up s 4 (s 4 + 1) 4).toNat + 1 from by rw [k6, k7]; omega]
    simp only [agS]
    rw [if_pos ⟨hlt, hs⟩, show endIf nz nw s = s from if_neg he]
  · rw [k6, k7]
    omega
theorem ag_stop {s nw : Nat → Int} {nz : Int} (h : ¬ (s 4 < s 3 ∧ (nz / 2 + 1 ≤ sm (fun i => b2i (((0 ≤ (nw i) ∧ (nw i) < s 0) ∧ (s 4) < s (20 + (nw i).toNat)) ∨ (((0) : Int) ≠ 0 ∧ ((0 ≤ (nw i) ∧ (nw i) < s 0) ∧ s (8 + (nw i).toNat) = 1)))) nz.toNat ∧ (¬ (s 5 ≠ -9 ∧ (s 4) ≤ s 5) ∨ s 1 / 2 + 1 ≤ sm (fun i => b2i (((0 ≤ (s (32 + i)) ∧ (s (32 + i)) < s 0) ∧ (s 4) < s (20 + (s (32 + i)).toNat)) ∨ (((0) : Int) ≠ 0 ∧ ((0 ≤ (s (32 + i)) ∧ (s (32 + i)) < s 0) ∧ s (8 + (s (32 + i)).toNat) = 1)))) (s 1).toNat)))) : ∀ n, agS nz nw n s = s
  | 0 => rfl
  | n + 1 => by
    simp only [agS]
    rw [if_neg h]
set_option maxHeartbeats 4000000 in
set_option maxRecDepth 100000 in
theorem kX0_seatFirst (l : Launch) (D : va_G) (cI cV : ClassId) (o e_ : Nat) (z : Int) (el : Nat → Int) (x : Int) (hz : 0 ≤ z ∧ z ≤ 5) (h_x : 1 ≤ x ∧ x ≤ 5) : MM l yX0_seatFirst wsX0_seatFirst 1 60 [.ref (o), .int (iI (x))] (couw cI o e_ z el) (couw cI o e_ x (fun i => if i < x.toNat then (i : Int) else el i)) D cI cV (none) := by
  refine MM.of (cc := cX0_seatFirst) (maxL := 3) (ret := none) (by decide) rfl (Nat.le_of_ble_eq_true rfl) ?_
  intro p e s0 m below meth c ls hx hb hr hts hown hlocks hml hW hK hl
  have hWk := hW
  have hown : s0.vm.findClass RX0 = some m.cls := hown
  have hin : ∀ w ∈ u_ws RX0 TX0 2, w ∈ wsX0_seatFirst := by decide +kernel
  have hl : lv_has ls 3 [(0, .ref (o)), (1, .int (iI (x)))] := hl
  refine lv_aload_n hx hb dX0_seatFirst_0 rfl (lv_at hl 0 rfl) ?_
  refine lv_iload_n hx hb dX0_seatFirst_1 rfl (lv_at hl 1 rfl) ?_
  refine j_c hx hb dX0_seatFirst_2 ?_
  refine j_mmin hx hb (hml.trans hl.1.symm) hown (hts (.methodLink RX0 25 Lib.Math.min.name) (by decide +kernel)) (hts (.static Lib.Math.min.name) (by decide +kernel)) (hts (.initialized "java/lang/Math") (by decide +kernel)) (hts (.code Lib.Math.min.name Lib.Math.min.code 2 (some .int)) (by decide +kernel)) (Nat.le_of_ble_eq_true rfl) (Nat.le_of_ble_eq_true rfl) (Nat.zero_le _) (Nat.zero_le _) (by omega) (by omega) dX0_seatFirst_3 ?_
  refine Cp0 hx hb hts hin hown hK hW (by decide +kernel) dX0_seatFirst_6 (fun H locs hW => ?_)
  refine j_c hx hb dX0_seatFirst_9 ?_
  refine lv_istore_n (lv' := [(2, .int (iI (0))), (0, .ref (o)), (1, .int (iI (x)))]) hx hb dX0_seatFirst_10 rfl hl (by decide) rfl (fun ls hl => ?_)
  have LP11 : ∀ (fu : Nat) (j : Nat) (x2 : Int), x2 = (j : Int) → ((j : Int) ≤ min x 5) → (min x 5).toNat - j < fu → ∀ (H : Heap) (locs : List Loc), Wd D (ad (couw cI o e_ z el)) (couw cI o e_ (min x 5) (fun i => if i < j then (i : Int) else el i)) s0.heap H locs → ∀ ls : Array Slot, lv_has ls 3 [(2, .int (iI (x2))), (0, .ref (o)), (1, .int (iI (x)))] → W p l e (headSpec wsX0_seatFirst (rmK 1 60)).room s0 m ([.ref (o), .int (iI (x))] : List Value).toArray below meth c H locs 0 0 (MQ below (mQ D (none) (couw cI o e_ x (fun i => if i < x.toNat then (i : Int) else el i)) (ad (couw cI o e_ z el))) ([.ref (o), .int (iI (x))] : List Value).toArray s0 0 0 (ad (couw cI o e_ z el))) (F0 m 11 ls []) := by
    intro fu
    induction fu with
    | zero =>
      intros
      omega
    | succ fu ih =>
      intro j x2 ex2 hinv hmeas H locs hW ls hl
      subst ex2
      refine lv_iload_n hx hb dX0_seatFirst_11 rfl (lv_at hl 0 rfl) ?_
      refine lv_aload_n hx hb dX0_seatFirst_12 rfl (lv_at hl 1 rfl) ?_
      refine Cg0 hx hb hts hin hown hK hW.1 (by decide +kernel) dX0_seatFirst_13 ?_
      refine j_ige (tgt := 32) hx hb (by omega) (by omega) dX0_seatFirst_16 (by decide) (fun c1 => ?_) (fun c1 => ?_)
      · exact m_vret hx hb hr hlocks hW (by rw [show j = x.toNat from by omega, show min x 5 = x from by omega]) dX0_seatFirst_32
      · refine lv_aload_n hx hb dX0_seatFirst_19 rfl (lv_at hl 1 rfl) ?_
        refine Cg1 hx hb hts hin hown hK hW.1 (by decide +kernel) dX0_seatFirst_20 ?_
        refine lv_iload_n hx hb dX0_seatFirst_23 rfl (lv_at hl 0 rfl) ?_
        refine lv_iload_n hx hb dX0_seatFirst_24 rfl (lv_at hl 0 rfl) ?_
        refine Cs hx hb hK hW (by omega) dX0_seatFirst_25 (fun H locs hW => ?_)
        rw [Int.toNat_natCast] at hW
        obtain ⟨el_1, eel_1⟩ : ∃ zz_, zz_ = up (fun i => if i < j then (i : Int) else el i) (j) ((j : Int)) := ⟨_, rfl⟩
        rw [← eel_1] at hW
        refine lv_iinc (v := iI ((j : Int) + 1)) (lv' := [(2, .int (iI ((j : Int) + 1))), (0, .ref (o)), (1, .int (iI (x)))]) hx hb dX0_seatFirst_26 hl (k := 0) rfl (iI_add _ _) (by decide) rfl (fun ls hl => ?_)
        refine lv_goto (tgt := 11) hx hb dX0_seatFirst_29 (by decide) ?_
        exact ih (j + 1) ((j : Int) + 1) (by first | rfl | omega | (simp only [sm, b2i]; (repeat' split) <;> first | rfl | omega | (exfalso; omega) | (exfalso; simp_all))) (by omega) (by omega) _ _ (by rw [sf_step, ← eel_1]; exact hW) ls (lv_sub hl [0, 1, 2] rfl)
  exact LP11 (_) 0 0 (by first | rfl | omega) (by omega) (by exact Nat.lt_succ_self _) _ _ (by rw [show (fun i => if i < 0 then ((i : Nat) : Int) else el i) = el from by funext i; simp]; exact hW) ls (lv_sub hl [0, 1, 2] rfl)
set_option maxHeartbeats 4000000 in
set_option maxRecDepth 100000 in
theorem kX4_endChange (l : Launch) (D : va_G) (cI cV : ClassId) (a : Nat → Nat) (s : Nat → Int) (nz : Int) (nw : Nat → Int)  (hV : VI s nz nw) : MM l yX4_endChange wsX4_endChange 2 81 [.ref (a 0)] (vilw cI a s nz nw) (vilw cI a (endS nz nw s) nz nw) D cI cV (none) := by
  refine MM.of (cc := cX4_endChange) (maxL := 1) (ret := none) (by decide) rfl (Nat.le_of_ble_eq_true rfl) ?_
  intro p e s0 m below meth c ls hx hb hr hts hown hlocks hml hW hK hl
  have hWk := hW
  have hown : s0.vm.findClass RX4 = some m.cls := hown
  have hin : ∀ w ∈ u_ws RX4 TX4 13, w ∈ wsX4_endChange := by decide +kernel
  have hl : lv_has ls 1 [(0, .ref (a 0))] := hl
  obtain ⟨hbs, hbn, h00, h01, h10, h11, hz0, hz1, h30, h31, h40, h41, h70, h71, h60, h61⟩ := id hV
  have hb5 := hbs 5
  have hb2 := hbs 2
  refine lv_aload_n hx hb dX4_endChange_0 rfl (lv_at hl 0 rfl) ?_
  refine Vg3 hx hb hts hin hown hK hW.1 (by decide +kernel) dX4_endChange_1 ?_
  refine lv_aload_n hx hb dX4_endChange_4 rfl (lv_at hl 0 rfl) ?_
  refine Vg4 hx hb hts hin hown hK hW.1 (by decide +kernel) dX4_endChange_5 ?_
  refine m_callP (v := none) (ci := 0) (n := 1) (As := [.ref (a 8)]) (rest := []) (st2 := []) (w2 := vilw cI a (setOld s nz nw) nz nw) (post := vilo cI a s ++ lotw cI a s) ⟨hx, hb, hml, hown, hts⟩ hK hW (kX0_copyFrom l D cI cV (a 6) (a 7) (s 1) (fun i => s (32 + i)) (a 8) (a 9) nz nw) vil_pa vil_pa' rfl rfl rfl gX4_endChange_X0_copyFrom rfl (by decide +kernel) ⟨Nat.le_of_ble_eq_true rfl, Nat.le_of_ble_eq_true rfl⟩ rfl hl.1 (Nat.le_of_ble_eq_true rfl) dX4_endChange_8 ⟨Nat.zero_le _, Nat.zero_le _⟩ rfl rfl (fun H locs hW => ?_)
  obtain ⟨s_1, es_1⟩ : ∃ zz_, zz_ = setOld s nz nw := ⟨_, rfl⟩
  rw [← es_1] at hW
  refine lv_aload_n hx hb dX4_endChange_11 rfl (lv_at hl 0 rfl) ?_
  refine j_bi hx hb dX4_endChange_12 rfl ?_
  refine Vp6 hx hb hts hin hown hK hW (by decide +kernel) dX4_endChange_14 (fun H locs hW => ?_)
  obtain ⟨s_2, es_2⟩ : ∃ zz_, zz_ = up s_1 (5) ((-9)) := ⟨_, rfl⟩
  rw [← es_2] at hW
  refine lv_aload_n hx hb dX4_endChange_17 rfl (lv_at hl 0 rfl) ?_
  refine lv_dup hx hb dX4_endChange_18 rfl ?_
  refine Vg5 hx hb hts hin hown hK hW.1 (by decide +kernel) dX4_endChange_19 ?_
  rw [show s_2 2 = s_1 2 from by rw [es_2, up_ne (by omega)]]
  refine j_c hx hb dX4_endChange_22 ?_
  refine j_add hx hb dX4_endChange_23 ?_
  refine Vp5 hx hb hts hin hown hK hW (by decide +kernel) dX4_endChange_24 (fun H locs hW => ?_)
  obtain ⟨s_3, es_3⟩ : ∃ zz_, zz_ = up s_2 (2) ((s_1 2) + 1) := ⟨_, rfl⟩
  rw [← es_3] at hW
  exact m_vret hx hb hr hlocks hW (by first | rfl | (subst es_3; subst es_2; subst es_1; rfl) | (exfalso; omega)) dX4_endChange_27
set_option maxHeartbeats 4000000 in
set_option maxRecDepth 100000 in
theorem kX4_agree (l : Launch) (D : va_G) (cI cV : ClassId) (a : Nat → Nat) (s : Nat → Int) (nz : Int) (nw : Nat → Int)  (hV : VI s nz nw) (h24 : s 2 ≤ s 4) : MM l yX4_agree wsX4_agree 4 101 [.ref (a 0)] (vilw cI a s nz nw) (vilw cI a (agS nz nw (s 3 - s 4).toNat s) nz nw) D cI cV (some (.int (iI ((agS nz nw (s 3 - s 4).toNat s) 4 - s 4)))) := by
  refine MM.of (cc := cX4_agree) (maxL := 2) (ret := (some .int)) (by decide) rfl (Nat.le_of_ble_eq_true rfl) ?_
  intro p e s0 m below meth c ls hx hb hr hts hown hlocks hml hW hK hl
  have hWk := hW
  have hown : s0.vm.findClass RX4 = some m.cls := hown
  have hin : ∀ w ∈ u_ws RX4 TX4 13, w ∈ wsX4_agree := by decide +kernel
  have hl : lv_has ls 2 [(0, .ref (a 0))] := hl
  obtain ⟨hbs, hbn, h00, h01, h10, h11, hz0, hz1, h30, h31, h40, h41, h70, h71, h60, h61⟩ := id hV
  have hb5 := hbs 5
  have hb2 := hbs 2
  refine lv_aload_n hx hb dX4_agree_0 rfl (lv_at hl 0 rfl) ?_
  refine Vg9 hx hb hts hin hown hK hW.1 (by decide +kernel) dX4_agree_1 ?_
  have r0_14 : bd (s 4) := hbs _
  refine lv_istore_n (lv' := [(1, .int (iI (s 4))), (0, .ref (a 0))]) hx hb dX4_agree_4 rfl hl (by decide) rfl (fun ls hl => ?_)
  have LP5 : ∀ (fu : Nat) (sj : Nat → Int), (VI sj nz nw ∧ sj 2 ≤ sj 4 ∧ agS nz nw (s 3 - s 4).toNat s = agS nz nw (sj 3 - sj 4).toNat sj) → (sj 3 - sj 4).toNat < fu → ∀ (H : Heap) (locs : List Loc), Wd D (ad (vilw cI a s nz nw)) (vilw cI a sj nz nw) s0.heap H locs → ∀ ls : Array Slot, lv_has ls 2 [(1, .int (iI (s 4))), (0, .ref (a 0))] → W p l e (headSpec wsX4_agree (rmK 4 101)).room s0 m ([.ref (a 0)] : List Value).toArray below meth c H locs 0 0 (MQ below (mQ D (some (.int (iI ((agS nz nw (s 3 - s 4).toNat s) 4 - s 4)))) (vilw cI a (agS nz nw (s 3 - s 4).toNat s) nz nw) (ad (vilw cI a s nz nw))) ([.ref (a 0)] : List Value).toArray s0 0 0 (ad (vilw cI a s nz nw))) (F0 m 5 ls []) := by
    intro fu
    induction fu with
    | zero =>
      intros
      omega
    | succ fu ih =>
      intro sj   hinv hmeas H locs hW ls hl
      have hV := hinv.1
      obtain ⟨hbs, hbn, h00, h01, h10, h11, hz0, hz1, h30, h31, h40, h41, h70, h71, h60, h61⟩ := id hV
      have hb5 := hbs 5
      refine lv_aload_n hx hb dX4_agree_5 rfl (lv_at hl 1 rfl) ?_
      refine Vg9 hx hb hts hin hown hK hW.1 (by decide +kernel) dX4_agree_6 ?_
      refine lv_aload_n hx hb dX4_agree_9 rfl (lv_at hl 1 rfl) ?_
      refine Vg8 hx hb hts hin hown hK hW.1 (by decide +kernel) dX4_agree_10 ?_
      refine j_ige (tgt := 56) hx hb (by omega) (by omega) dX4_agree_13 (by decide) (fun c1 => ?_) (fun c1 => ?_)
      · refine lv_aload_n hx hb dX4_agree_56 rfl (lv_at hl 1 rfl) ?_
        refine Vg9 hx hb hts hin hown hK hW.1 (by decide +kernel) dX4_agree_57 ?_
        refine lv_iload_n hx hb dX4_agree_60 rfl (lv_at hl 0 rfl) ?_
        refine j_sub hx hb dX4_agree_61 ?_
        exact m_iret hx hb hr hlocks hW (by rw [hinv.2.2, ag_stop (fun hh => by have h1 := hh.1; have h2 := hh.2; first | omega | exact absurd h2 (by assumption))]) (by rw [hinv.2.2, ag_stop (fun hh => by have h1 := hh.1; have h2 := hh.2; first | omega | exact absurd h2 (by assumption))]) dX4_agree_62
      · refine lv_aload_n hx hb dX4_agree_16 rfl (lv_at hl 1 rfl) ?_
        refine lv_aload_n hx hb dX4_agree_17 rfl (lv_at hl 1 rfl) ?_
        refine Vg9 hx hb hts hin hown hK hW.1 (by decide +kernel) dX4_agree_18 ?_
        refine j_c hx hb dX4_agree_21 ?_
        refine p_callV (v := .int (iI (b2i (nz / 2 + 1 ≤ sm (fun i => b2i (((0 ≤ (nw i) ∧ (nw i) < sj 0) ∧ ((sj 4)) < sj (20 + (nw i).toNat)) ∨ (((0) : Int) ≠ 0 ∧ ((0 ≤ (nw i) ∧ (nw i) < sj 0) ∧ sj (8 + (nw i).toNat) = 1)))) nz.toNat ∧ (¬ (sj 5 ≠ -9 ∧ ((sj 4)) ≤ sj 5) ∨ sj 1 / 2 + 1 ≤ sm (fun i => b2i (((0 ≤ (sj (32 + i)) ∧ (sj (32 + i)) < sj 0) ∧ ((sj 4)) < sj (20 + (sj (32 + i)).toNat)) ∨ (((0) : Int) ≠ 0 ∧ ((0 ≤ (sj (32 + i)) ∧ (sj (32 + i)) < sj 0) ∧ sj (8 + (sj (32 + i)).toNat) = 1)))) (sj 1).toNat))))) (ci := 4) (n := 2) (As := [.int (iI (sj 4)), .int (iI (0))]) (rest := []) ⟨hx, hb, hml, hown, hts⟩ hK (kX4_isSupported l D cI cV a sj nz nw (sj 4) 0 hV (by omega) (by first | decide | exact b2i_or | omega)) hW.1 rfl rfl gX4_agree_X4_isSupported rfl (by decide +kernel) ⟨Nat.le_of_ble_eq_true rfl, Nat.le_of_ble_eq_true rfl⟩ rfl hl.1 (Nat.le_of_ble_eq_true rfl) dX4_agree_22 ⟨Nat.zero_le _, Nat.zero_le _⟩ rfl ?_
        have f42 := sm_rg (f := (fun i => b2i (((0 ≤ (nw i) ∧ (nw i) < sj 0) ∧ ((sj 4)) < sj (20 + (nw i).toNat)) ∨ (((0) : Int) ≠ 0 ∧ ((0 ≤ (nw i) ∧ (nw i) < sj 0) ∧ sj (8 + (nw i).toNat) = 1))))) (fun k => b2i_rg) (nz.toNat)
        have f43 := sm_rg (f := (fun i => b2i (((0 ≤ (sj (32 + i)) ∧ (sj (32 + i)) < sj 0) ∧ ((sj 4)) < sj (20 + (sj (32 + i)).toNat)) ∨ (((0) : Int) ≠ 0 ∧ ((0 ≤ (sj (32 + i)) ∧ (sj (32 + i)) < sj 0) ∧ sj (8 + (sj (32 + i)).toNat) = 1))))) (fun k => b2i_rg) ((sj 1).toNat)
        refine j_beq (tgt := 56) hx hb dX4_agree_25 (by decide) (fun c2 => ?_) (fun c2 => ?_)
        · refine lv_aload_n hx hb dX4_agree_56 rfl (lv_at hl 1 rfl) ?_
          refine Vg9 hx hb hts hin hown hK hW.1 (by decide +kernel) dX4_agree_57 ?_
          refine lv_iload_n hx hb dX4_agree_60 rfl (lv_at hl 0 rfl) ?_
          refine j_sub hx hb dX4_agree_61 ?_
          exact m_iret hx hb hr hlocks hW (by rw [hinv.2.2, ag_stop (fun hh => by have h1 := hh.1; have h2 := hh.2; first | omega | exact absurd h2 (by assumption))]) (by rw [hinv.2.2, ag_stop (fun hh => by have h1 := hh.1; have h2 := hh.2; first | omega | exact absurd h2 (by assumption))]) dX4_agree_62
        · refine lv_aload_n hx hb dX4_agree_28 rfl (lv_at hl 1 rfl) ?_
          refine Vg9 hx hb hts hin hown hK hW.1 (by decide +kernel) dX4_agree_29 ?_
          refine lv_aload_n hx hb dX4_agree_32 rfl (lv_at hl 1 rfl) ?_
          refine Vg6 hx hb hts hin hown hK hW.1 (by decide +kernel) dX4_agree_33 ?_
          refine j_ine (tgt := 43) hx hb (by omega) (by omega) dX4_agree_36 (by decide) (fun c3 => ?_) (fun c3 => ?_)
          · refine lv_aload_n hx hb dX4_agree_43 rfl (lv_at hl 1 rfl) ?_
            refine lv_dup hx hb dX4_agree_44 rfl ?_
            refine Vg9 hx hb hts hin hown hK hW.1 (by decide +kernel) dX4_agree_45 ?_
            refine j_c hx hb dX4_agree_48 ?_
            refine j_add hx hb dX4_agree_49 ?_
            refine Vp9 hx hb hts hin hown hK hW (by decide +kernel) dX4_agree_50 (fun H locs hW => ?_)
            obtain ⟨s_1, es_1⟩ : ∃ zz_, zz_ = up sj (4) ((sj 4) + 1) := ⟨_, rfl⟩
            rw [← es_1] at hW
            refine lv_goto (tgt := 5) hx hb dX4_agree_53 (by decide) ?_
            have hN := ag_inv2 hinv.1 hinv.2.1 hinv.2.2 (by assumption) (by assumption) (by assumption) es_1
            exact ih s_1   (by exact hN.1) (by have := hN.2; omega) _ _ (hW) ls (lv_sub hl [0, 1] rfl)
          · refine lv_aload_n hx hb dX4_agree_39 rfl (lv_at hl 1 rfl) ?_
            refine m_callV (v := none) (ci := 4) (n := 0) (As := []) (rest := []) (st2 := []) (w2 := vilw cI a (endS nz nw sj) nz nw) (pre := []) (post := []) ⟨hx, hb, hml, hown, hts⟩ hK hW (kX4_endChange l D cI cV a sj nz nw hV) (by rw [List.nil_append, List.append_nil]) (by rw [List.nil_append, List.append_nil]) rfl rfl rfl gX4_agree_X4_endChange rfl (by decide +kernel) ⟨Nat.le_of_ble_eq_true rfl, Nat.le_of_ble_eq_true rfl⟩ rfl hl.1 (Nat.le_of_ble_eq_true rfl) dX4_agree_40 ⟨Nat.zero_le _, Nat.zero_le _⟩ rfl rfl (fun H locs hW => ?_)
            obtain ⟨s_2, es_2⟩ : ∃ zz_, zz_ = endS nz nw sj := ⟨_, rfl⟩
            rw [← es_2] at hW
            refine lv_aload_n hx hb dX4_agree_43 rfl (lv_at hl 1 rfl) ?_
            refine lv_dup hx hb dX4_agree_44 rfl ?_
            refine Vg9 hx hb hts hin hown hK hW.1 (by decide +kernel) dX4_agree_45 ?_
            refine j_c hx hb dX4_agree_48 ?_
            refine j_add hx hb dX4_agree_49 ?_
            refine Vp9 hx hb hts hin hown hK hW (by decide +kernel) dX4_agree_50 (fun H locs hW => ?_)
            obtain ⟨s_3, es_3⟩ : ∃ zz_, zz_ = up s_2 (4) ((s_2 4) + 1) := ⟨_, rfl⟩
            rw [← es_3] at hW
            refine lv_goto (tgt := 5) hx hb dX4_agree_53 (by decide) ?_
            have hN := ag_inv1 hinv.1 hinv.2.1 hinv.2.2 (by assumption) (by assumption) (by assumption) es_2 es_3
            exact ih s_3   (by exact hN.1) (by have := hN.2; omega) _ _ (hW) ls (lv_sub hl [0, 1] rfl)
  exact LP5 (_) s   (by exact ⟨hV, h24, rfl⟩) (by exact Nat.lt_succ_self _) _ _ (hW) ls (lv_sub hl [0, 1] rfl)
set_option maxHeartbeats 4000000 in
set_option maxRecDepth 100000 in
theorem kX4_setFirstCouncil (l : Launch) (D : va_G) (cI cV : ClassId) (a : Nat → Nat) (s : Nat → Int) (nz : Int) (nw : Nat → Int) (x : Int) (hV : VI s nz nw) (r_x : rg x) : MM l yX4_setFirstCouncil wsX4_setFirstCouncil 2 82 [.ref (a 0), .int (iI (x))] (vilw cI a s nz nw) (vilw cI a (if x < 1 ∨ 5 < x then (s) else (if s 1 ≠ 0 ∨ s 0 < x then (s) else (setOld s x (fun i => if i < x.toNat then (i : Int) else s (32 + i))))) (if x < 1 ∨ 5 < x then (nz) else (if s 1 ≠ 0 ∨ s 0 < x then (nz) else (x))) (if x < 1 ∨ 5 < x then (nw) else (if s 1 ≠ 0 ∨ s 0 < x then (nw) else (fun i => (setOld s x (fun i => if i < x.toNat then (i : Int) else s (32 + i))) (32 + i))))) D cI cV (some (.int (iI (if x < 1 ∨ 5 < x then (-1) else (if s 1 ≠ 0 ∨ s 0 < x then (-2) else (x)))))) := by
  refine MM.of (cc := cX4_setFirstCouncil) (maxL := 2) (ret := (some .int)) (by decide) rfl (Nat.le_of_ble_eq_true rfl) ?_
  intro p e s0 m below meth c ls hx hb hr hts hown hlocks hml hW hK hl
  have hWk := hW
  have hown : s0.vm.findClass RX4 = some m.cls := hown
  have hin : ∀ w ∈ u_ws RX4 TX4 13, w ∈ wsX4_setFirstCouncil := by decide +kernel
  have hl : lv_has ls 2 [(0, .ref (a 0)), (1, .int (iI (x)))] := hl
  obtain ⟨hbs, hbn, h00, h01, h10, h11, hz0, hz1, h30, h31, h40, h41, h70, h71, h60, h61⟩ := id hV
  have hb5 := hbs 5
  have hb2 := hbs 2
  refine lv_iload_n hx hb dX4_setFirstCouncil_0 rfl (lv_at hl 1 rfl) ?_
  refine j_c hx hb dX4_setFirstCouncil_1 ?_
  refine j_ilt (tgt := 10) hx hb (by omega) (by omega) dX4_setFirstCouncil_2 (by decide) (fun c1 => ?_) (fun c1 => ?_)
  · refine j_c hx hb dX4_setFirstCouncil_10 ?_
    exact m_iret hx hb hr hlocks hW (by (by_cases q0 : x < 1 ∨ 5 < x <;> first | (simp only [if_pos q0]; first | done | (first | rfl | ( rfl) | (exfalso; omega))) | (simp only [if_neg q0]; first | done | (by_cases q1 : s 1 ≠ 0 ∨ s 0 < x <;> first | (simp only [if_pos q1]; first | done | (first | rfl | ( rfl) | (exfalso; omega))) | (simp only [if_neg q1]; first | done | (first | rfl | ( rfl) | (exfalso; omega))))))) (by (by_cases q0 : x < 1 ∨ 5 < x <;> first | (rw [if_pos q0]; first | done | (first | omega | rfl | (exfalso; omega))) | (rw [if_neg q0]; first | done | (by_cases q1 : s 1 ≠ 0 ∨ s 0 < x <;> first | (rw [if_pos q1]; first | done | (first | omega | rfl | (exfalso; omega))) | (rw [if_neg q1]; first | done | (first | omega | rfl | (exfalso; omega))))))) dX4_setFirstCouncil_11
  · refine lv_iload_n hx hb dX4_setFirstCouncil_5 rfl (lv_at hl 1 rfl) ?_
    refine j_c hx hb dX4_setFirstCouncil_6 ?_
    refine j_ile (tgt := 12) hx hb (by omega) (by omega) dX4_setFirstCouncil_7 (by decide) (fun c2 => ?_) (fun c2 => ?_)
    · refine lv_aload_n hx hb dX4_setFirstCouncil_12 rfl (lv_at hl 0 rfl) ?_
      refine Vg3 hx hb hts hin hown hK hW.1 (by decide +kernel) dX4_setFirstCouncil_13 ?_
      refine p_callV (v := .int (iI (b2i ((s 1) = 0)))) (ci := 0) (n := 0) (As := []) (rest := []) ⟨hx, hb, hml, hown, hts⟩ hK (kX0_isEmpty l D cI cV (a 6) (a 7) (s 1) (fun i => s (32 + i)) (by omega)) (vil_old hW.1) rfl rfl gX4_setFirstCouncil_X0_isEmpty rfl (by decide +kernel) ⟨Nat.le_of_ble_eq_true rfl, Nat.le_of_ble_eq_true rfl⟩ rfl hl.1 (Nat.le_of_ble_eq_true rfl) dX4_setFirstCouncil_16 ⟨Nat.zero_le _, Nat.zero_le _⟩ rfl ?_
      refine j_beq (tgt := 30) hx hb dX4_setFirstCouncil_19 (by decide) (fun c3 => ?_) (fun c3 => ?_)
      · refine j_bi hx hb dX4_setFirstCouncil_30 rfl ?_
        exact m_iret hx hb hr hlocks hW (by (by_cases q0 : x < 1 ∨ 5 < x <;> first | (simp only [if_pos q0]; first | done | (first | rfl | ( rfl) | (exfalso; omega))) | (simp only [if_neg q0]; first | done | (by_cases q1 : s 1 ≠ 0 ∨ s 0 < x <;> first | (simp only [if_pos q1]; first | done | (first | rfl | ( rfl) | (exfalso; omega))) | (simp only [if_neg q1]; first | done | (first | rfl | ( rfl) | (exfalso; omega))))))) (by (by_cases q0 : x < 1 ∨ 5 < x <;> first | (rw [if_pos q0]; first | done | (first | omega | rfl | (exfalso; omega))) | (rw [if_neg q0]; first | done | (by_cases q1 : s 1 ≠ 0 ∨ s 0 < x <;> first | (rw [if_pos q1]; first | done | (first | omega | rfl | (exfalso; omega))) | (rw [if_neg q1]; first | done | (first | omega | rfl | (exfalso; omega))))))) dX4_setFirstCouncil_32
      · refine lv_iload_n hx hb dX4_setFirstCouncil_22 rfl (lv_at hl 1 rfl) ?_
        refine lv_aload_n hx hb dX4_setFirstCouncil_23 rfl (lv_at hl 0 rfl) ?_
        refine Vg0 hx hb hts hin hown hK hW.1 (by decide +kernel) dX4_setFirstCouncil_24 ?_
        have r3_29 : bd (s 0) := hbs _
        refine j_ile (tgt := 33) hx hb (by omega) (by omega) dX4_setFirstCouncil_27 (by decide) (fun c4 => ?_) (fun c4 => ?_)
        · refine lv_aload_n hx hb dX4_setFirstCouncil_33 rfl (lv_at hl 0 rfl) ?_
          refine Vg3 hx hb hts hin hown hK hW.1 (by decide +kernel) dX4_setFirstCouncil_34 ?_
          refine lv_iload_n hx hb dX4_setFirstCouncil_37 rfl (lv_at hl 1 rfl) ?_
          refine m_callV (v := none) (ci := 0) (n := 1) (As := [.int (iI (x))]) (rest := []) (st2 := []) (w2 := vilw cI a (setOld s x (fun i => if i < x.toNat then (i : Int) else (fun i => s (32 + i)) i)) nz nw) (pre := vilo cI a s) (post := (couw cI (a 8) (a 9) nz nw ++ lotw cI a s)) ⟨hx, hb, hml, hown, hts⟩ hK hW (kX0_seatFirst l D cI cV (a 6) (a 7) (s 1) (fun i => s (32 + i)) x (by omega) (by omega)) rfl vil_setOld.symm rfl rfl rfl gX4_setFirstCouncil_X0_seatFirst rfl (by decide +kernel) ⟨Nat.le_of_ble_eq_true rfl, Nat.le_of_ble_eq_true rfl⟩ rfl hl.1 (Nat.le_of_ble_eq_true rfl) dX4_setFirstCouncil_38 ⟨Nat.zero_le _, Nat.zero_le _⟩ rfl rfl (fun H locs hW => ?_)
          obtain ⟨s_1, es_1⟩ : ∃ zz_, zz_ = setOld s x (fun i => if i < x.toNat then (i : Int) else (fun i => s (32 + i)) i) := ⟨_, rfl⟩
          rw [← es_1] at hW
          refine lv_aload_n hx hb dX4_setFirstCouncil_41 rfl (lv_at hl 0 rfl) ?_
          refine Vg4 hx hb hts hin hown hK hW.1 (by decide +kernel) dX4_setFirstCouncil_42 ?_
          refine lv_aload_n hx hb dX4_setFirstCouncil_45 rfl (lv_at hl 0 rfl) ?_
          refine Vg3 hx hb hts hin hown hK hW.1 (by decide +kernel) dX4_setFirstCouncil_46 ?_
          refine m_callP (v := none) (ci := 0) (n := 1) (As := [.ref (a 6)]) (rest := []) (st2 := []) (w2 := vilw cI a s_1 (s_1 1) (fun i => s_1 (32 + i))) (post := vilo cI a s_1 ++ lotw cI a s_1) ⟨hx, hb, hml, hown, hts⟩ hK hW (kX0_copyFrom l D cI cV (a 8) (a 9) nz nw (a 6) (a 7) (s_1 1) (fun i => s_1 (32 + i))) vil_pb vil_pb.symm rfl rfl rfl gX4_setFirstCouncil_X0_copyFrom rfl (by decide +kernel) ⟨Nat.le_of_ble_eq_true rfl, Nat.le_of_ble_eq_true rfl⟩ rfl hl.1 (Nat.le_of_ble_eq_true rfl) dX4_setFirstCouncil_49 ⟨Nat.zero_le _, Nat.zero_le _⟩ rfl rfl (fun H locs hW => ?_)
          refine lv_iload_n hx hb dX4_setFirstCouncil_52 rfl (lv_at hl 1 rfl) ?_
          exact m_iret hx hb hr hlocks hW (by (by_cases q0 : x < 1 ∨ 5 < x <;> first | (simp only [if_pos q0]; first | done | (first | rfl | (subst es_1; rfl) | (exfalso; omega))) | (simp only [if_neg q0]; first | done | (by_cases q1 : s 1 ≠ 0 ∨ s 0 < x <;> first | (simp only [if_pos q1]; first | done | (first | rfl | (subst es_1; rfl) | (exfalso; omega))) | (simp only [if_neg q1]; first | done | (first | rfl | (subst es_1; rfl) | (exfalso; omega))))))) (by (by_cases q0 : x < 1 ∨ 5 < x <;> first | (rw [if_pos q0]; first | done | (first | omega | rfl | (exfalso; omega))) | (rw [if_neg q0]; first | done | (by_cases q1 : s 1 ≠ 0 ∨ s 0 < x <;> first | (rw [if_pos q1]; first | done | (first | omega | rfl | (exfalso; omega))) | (rw [if_neg q1]; first | done | (first | omega | rfl | (exfalso; omega))))))) dX4_setFirstCouncil_53
        · refine j_bi hx hb dX4_setFirstCouncil_30 rfl ?_
          exact m_iret hx hb hr hlocks hW (by (by_cases q0 : x < 1 ∨ 5 < x <;> first | (simp only [if_pos q0]; first | done | (first | rfl | ( rfl) | (exfalso; omega))) | (simp only [if_neg q0]; first | done | (by_cases q1 : s 1 ≠ 0 ∨ s 0 < x <;> first | (simp only [if_pos q1]; first | done | (first | rfl | ( rfl) | (exfalso; omega))) | (simp only [if_neg q1]; first | done | (first | rfl | ( rfl) | (exfalso; omega))))))) (by (by_cases q0 : x < 1 ∨ 5 < x <;> first | (rw [if_pos q0]; first | done | (first | omega | rfl | (exfalso; omega))) | (rw [if_neg q0]; first | done | (by_cases q1 : s 1 ≠ 0 ∨ s 0 < x <;> first | (rw [if_pos q1]; first | done | (first | omega | rfl | (exfalso; omega))) | (rw [if_neg q1]; first | done | (first | omega | rfl | (exfalso; omega))))))) dX4_setFirstCouncil_32
    · refine j_c hx hb dX4_setFirstCouncil_10 ?_
      exact m_iret hx hb hr hlocks hW (by (by_cases q0 : x < 1 ∨ 5 < x <;> first | (simp only [if_pos q0]; first | done | (first | rfl | ( rfl) | (exfalso; omega))) | (simp only [if_neg q0]; first | done | (by_cases q1 : s 1 ≠ 0 ∨ s 0 < x <;> first | (simp only [if_pos q1]; first | done | (first | rfl | ( rfl) | (exfalso; omega))) | (simp only [if_neg q1]; first | done | (first | rfl | ( rfl) | (exfalso; omega))))))) (by (by_cases q0 : x < 1 ∨ 5 < x <;> first | (rw [if_pos q0]; first | done | (first | omega | rfl | (exfalso; omega))) | (rw [if_neg q0]; first | done | (by_cases q1 : s 1 ≠ 0 ∨ s 0 < x <;> first | (rw [if_pos q1]; first | done | (first | omega | rfl | (exfalso; omega))) | (rw [if_neg q1]; first | done | (first | omega | rfl | (exfalso; omega))))))) dX4_setFirstCouncil_11
