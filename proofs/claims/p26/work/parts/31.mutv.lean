theorem VI_up {s : Nat → Int} {nz : Int} {nw : Nat → Int} {k : Nat} {x : Int} (h : VI s nz nw) (hk : k ≠ 0 ∧ k ≠ 1 ∧ k ≠ 3 ∧ k ≠ 4 ∧ k ≠ 6 ∧ k ≠ 7) (hx : bd x) : VI (up s k x) nz nw := by
  obtain ⟨h1, h2, h3⟩ := h
  refine ⟨fun j => ?_, h2, ?_⟩
  · unfold up
    split
    · exact hx
    · exact h1 j
  · rw [up_ne (by omega), up_ne (by omega), up_ne (by omega), up_ne (by omega), up_ne (by omega), up_ne (by omega)]
    exact h3
def comeS (s : Nat → Int) : Nat → Int := up (up (up s (8 + (s 0).toNat) 1) (20 + (s 0).toNat) 0) 0 (s 0 + 1)
def addS (s : Nat → Int) (x y : Int) : Nat → Int := up (up (up (up (up s (42 + 3 * (s 3).toNat) y) (43 + 3 * (s 3).toNat) (s 2)) (44 + 3 * (s 3).toNat) x) 3 (s 3 + 1)) (20 + x.toNat) (s 3 + 1)
def wrS (s : Nat → Int) (x y z : Int) : Nat → Int := up (up (up (up (up (up (up s (222 + 5 * (s 7).toNat) (s 6)) (223 + 5 * (s 7).toNat) x) (225 + 5 * (s 7).toNat) y) (224 + 5 * (s 7).toNat) y) (226 + 5 * (s 7).toNat) z) 7 (s 7 + 1)) 6 ((s 6 * 25173 + 13849) % 65536)
theorem lotOnly_up {s t : Nat → Int} {k : Nat} {x : Int} (h : lotOnly s t) (hk : k = 6 ∨ k = 7 ∨ 222 ≤ k) : lotOnly s (up t k x) := fun j hj => by rw [up_ne (by omega)]; exact h j hj
theorem lotOnly_wr {s : Nat → Int} {x y z : Int} : lotOnly s (wrS s x y z) := by
  unfold wrS
  refine lotOnly_up (lotOnly_up (lotOnly_up (lotOnly_up (lotOnly_up (lotOnly_up (lotOnly_up (fun j _ => rfl) ?_) ?_) ?_) ?_) ?_) ?_) ?_ <;> omega
set_option maxHeartbeats 4000000 in
set_option maxRecDepth 100000 in
theorem kX0_place (l : Launch) (D : va_G) (cI cV : ClassId) (o e_ : Nat) (z : Int) (el : Nat → Int) (x : Int) (v : Int) (hz : 0 ≤ z ∧ z ≤ 5) (hxz : 0 ≤ x ∧ x < z) : MM l yX0_place wsX0_place 1 21 [.ref (o), .int (iI (x)), .int (iI (v))] (couw cI o e_ z el) (couw cI o e_ z (up el x.toNat v)) D cI cV (none) := by
  refine MM.of (cc := cX0_place) (maxL := 3) (ret := none) (by decide) rfl (Nat.le_of_ble_eq_true rfl) ?_
  intro p e s0 m below meth c ls hx hb hr hts hown hlocks hml hW hK hl
  have hWk := hW
  have hown : s0.vm.findClass RX0 = some m.cls := hown
  have hin : ∀ w ∈ u_ws RX0 TX0 2, w ∈ wsX0_place := by decide +kernel
  have hl : lv_has ls 3 [(0, .ref (o)), (1, .int (iI (x))), (2, .int (iI (v)))] := hl
  refine lv_aload_n hx hb dX0_place_0 rfl (lv_at hl 0 rfl) ?_
  refine lv_iload_n hx hb dX0_place_1 rfl (lv_at hl 1 rfl) ?_
  refine p_callV (v := .int (iI (b2i (0 ≤ x ∧ x < z)))) (ci := 0) (n := 1) (As := [.int (iI (x))]) (rest := []) ⟨hx, hb, hml, hown, hts⟩ hK (kX0_hasSeat l D cI cV o e_ z el x (by omega) (by omega)) hW.1 rfl rfl gX0_place_X0_hasSeat rfl (by decide +kernel) ⟨Nat.le_of_ble_eq_true rfl, Nat.le_of_ble_eq_true rfl⟩ rfl hl.1 (Nat.le_of_ble_eq_true rfl) dX0_place_2 ⟨Nat.zero_le _, Nat.zero_le _⟩ rfl ?_
  refine j_beq (tgt := 15) hx hb dX0_place_5 (by decide) (fun c1 => ?_) (fun c1 => ?_)
  · exact m_vret hx hb hr hlocks hW (by first | rfl | ( rfl) | (exfalso; omega)) dX0_place_15
  · refine lv_aload_n hx hb dX0_place_8 rfl (lv_at hl 0 rfl) ?_
    refine Cg1 hx hb hts hin hown hK hW.1 (by decide +kernel) dX0_place_9 ?_
    refine lv_iload_n hx hb dX0_place_12 rfl (lv_at hl 1 rfl) ?_
    refine lv_iload_n hx hb dX0_place_13 rfl (lv_at hl 2 rfl) ?_
    refine Cs hx hb hK hW (by omega) dX0_place_14 (fun H locs hW => ?_)
    obtain ⟨el_1, eel_1⟩ : ∃ zz_, zz_ = up el (x.toNat) (v) := ⟨_, rfl⟩
    rw [← eel_1] at hW
    exact m_vret hx hb hr hlocks hW (by first | rfl | (subst eel_1; rfl) | (exfalso; omega)) dX0_place_15
set_option maxHeartbeats 4000000 in
set_option maxRecDepth 100000 in
theorem kX2_setState (l : Launch) (D : va_G) (cI cV : ClassId) (a : Nat → Nat) (s : Nat → Int) (x : Int)  : MM l yX2_setState wsX2_setState 0 0 [.ref (a 10), .int (iI (x))] (lotw cI a s) (lotw cI a (up s 6 x)) D cI cV (some (.int (iI (s 6)))) := by
  refine MM.of (cc := cX2_setState) (maxL := 3) (ret := (some .int)) (by decide) rfl (Nat.le_of_ble_eq_true rfl) ?_
  intro p e s0 m below meth c ls hx hb hr hts hown hlocks hml hW hK hl
  have hWk := hW
  have hown : s0.vm.findClass RX2 = some m.cls := hown
  have hin : ∀ w ∈ u_ws RX2 TX2 7, w ∈ wsX2_setState := by decide +kernel
  have hl : lv_has ls 3 [(0, .ref (a 10)), (1, .int (iI (x)))] := hl
  refine lv_aload_n hx hb dX2_setState_0 rfl (lv_at hl 0 rfl) ?_
  refine Lg0 hx hb hts hin hown hK hW.1 (by decide +kernel) dX2_setState_1 ?_
  refine lv_istore_n (lv' := [(2, .int (iI (s 6))), (0, .ref (a 10)), (1, .int (iI (x)))]) hx hb dX2_setState_4 rfl hl (by decide) rfl (fun ls hl => ?_)
  refine lv_aload_n hx hb dX2_setState_5 rfl (lv_at hl 1 rfl) ?_
  refine lv_iload_n hx hb dX2_setState_6 rfl (lv_at hl 2 rfl) ?_
  refine Lp0 hx hb hts hin hown hK hW (by decide +kernel) dX2_setState_7 (fun H locs hW => ?_)
  obtain ⟨s_1, es_1⟩ : ∃ zz_, zz_ = up s (6) (x) := ⟨_, rfl⟩
  rw [← es_1] at hW
  refine lv_iload_n hx hb dX2_setState_10 rfl (lv_at hl 0 rfl) ?_
  exact m_iret hx hb hr hlocks hW (by first | rfl | (subst es_1; rfl) | (exfalso; omega)) (by first | rfl | omega | exact (b2i_t (by omega)).symm | exact (b2i_f (by omega)).symm | (simp only [b2i]; (repeat' split) <;> first | rfl | omega | (exfalso; omega))) dX2_setState_11
set_option maxHeartbeats 4000000 in
set_option maxRecDepth 100000 in
theorem kX2_write (l : Launch) (D : va_G) (cI cV : ClassId) (a : Nat → Nat) (s : Nat → Int) (x : Int) (y : Int) (z : Int) (h07 : 0 ≤ s 7 ∧ s 7 < 60) (h06 : 0 ≤ s 6 ∧ s 6 < 65536) : MM l yX2_write wsX2_write 1 20 [.ref (a 10), .int (iI (x)), .int (iI (y)), .int (iI (z))] (lotw cI a s) (lotw cI a (wrS s x y z)) D cI cV (none) := by
  refine MM.of (cc := cX2_write) (maxL := 4) (ret := none) (by decide) rfl (Nat.le_of_ble_eq_true rfl) ?_
  intro p e s0 m below meth c ls hx hb hr hts hown hlocks hml hW hK hl
  have hWk := hW
  have hown : s0.vm.findClass RX2 = some m.cls := hown
  have hin : ∀ w ∈ u_ws RX2 TX2 7, w ∈ wsX2_write := by decide +kernel
  have hl : lv_has ls 4 [(0, .ref (a 10)), (1, .int (iI (x))), (2, .int (iI (y))), (3, .int (iI (z)))] := hl
  refine lv_aload_n hx hb dX2_write_0 rfl (lv_at hl 0 rfl) ?_
  refine Lg1 hx hb hts hin hown hK hW.1 (by decide +kernel) dX2_write_1 ?_
  refine j_bi hx hb dX2_write_4 rfl ?_
  refine j_ilt (tgt := 10) hx hb (by omega) (by omega) dX2_write_6 (by decide) (fun c1 => ?_) (fun c1 => ?_)
  · refine lv_aload_n hx hb dX2_write_10 rfl (lv_at hl 0 rfl) ?_
    refine Lg2 hx hb hts hin hown hK hW.1 (by decide +kernel) dX2_write_11 ?_
    refine lv_aload_n hx hb dX2_write_14 rfl (lv_at hl 0 rfl) ?_
    refine Lg1 hx hb hts hin hown hK hW.1 (by decide +kernel) dX2_write_15 ?_
    refine lv_aload_n hx hb dX2_write_18 rfl (lv_at hl 0 rfl) ?_
    refine Lg0 hx hb hts hin hown hK hW.1 (by decide +kernel) dX2_write_19 ?_
    refine Ls0 hx hb hK hW (by omega) dX2_write_22 (fun H locs hW => ?_)
    rw [show (s 7 : Int).toNat = ((s 7).toNat) from by omega] at hW
    obtain ⟨s_1, es_1⟩ : ∃ zz_, zz_ = up s (222 + 5 * ((s 7).toNat)) (s 6) := ⟨_, rfl⟩
    rw [← es_1] at hW
    refine lv_aload_n hx hb dX2_write_23 rfl (lv_at hl 0 rfl) ?_
    refine Lg3 hx hb hts hin hown hK hW.1 (by decide +kernel) dX2_write_24 ?_
    refine lv_aload_n hx hb dX2_write_27 rfl (lv_at hl 0 rfl) ?_
    refine Lg1 hx hb hts hin hown hK hW.1 (by decide +kernel) dX2_write_28 ?_
    rw [show s_1 7 = s 7 from by rw [es_1, up_ne (by omega)]]
    refine lv_iload_n hx hb dX2_write_31 rfl (lv_at hl 1 rfl) ?_
    refine Ls1 hx hb hK hW (by omega) dX2_write_32 (fun H locs hW => ?_)
    rw [show (s 7 : Int).toNat = ((s 7).toNat) from by omega] at hW
    obtain ⟨s_2, es_2⟩ : ∃ zz_, zz_ = up s_1 (223 + 5 * ((s 7).toNat)) (x) := ⟨_, rfl⟩
    rw [← es_2] at hW
    refine lv_aload_n hx hb dX2_write_33 rfl (lv_at hl 0 rfl) ?_
    refine Lg4 hx hb hts hin hown hK hW.1 (by decide +kernel) dX2_write_34 ?_
    refine lv_aload_n hx hb dX2_write_37 rfl (lv_at hl 0 rfl) ?_
    refine Lg1 hx hb hts hin hown hK hW.1 (by decide +kernel) dX2_write_38 ?_
    rw [show s_2 7 = s 7 from by rw [es_2, up_ne (by omega), es_1, up_ne (by omega)]]
    refine lv_iload_n hx hb dX2_write_41 rfl (lv_at hl 2 rfl) ?_
    refine Ls2 hx hb hK hW (by omega) dX2_write_42 (fun H locs hW => ?_)
    rw [show (s 7 : Int).toNat = ((s 7).toNat) from by omega] at hW
    obtain ⟨s_3, es_3⟩ : ∃ zz_, zz_ = up s_2 (225 + 5 * ((s 7).toNat)) (y) := ⟨_, rfl⟩
    rw [← es_3] at hW
    refine lv_aload_n hx hb dX2_write_43 rfl (lv_at hl 0 rfl) ?_
    refine Lg5 hx hb hts hin hown hK hW.1 (by decide +kernel) dX2_write_44 ?_
    refine lv_aload_n hx hb dX2_write_47 rfl (lv_at hl 0 rfl) ?_
    refine Lg1 hx hb hts hin hown hK hW.1 (by decide +kernel) dX2_write_48 ?_
    rw [show s_3 7 = s 7 from by rw [es_3, up_ne (by omega), es_2, up_ne (by omega), es_1, up_ne (by omega)]]
    refine lv_iload_n hx hb dX2_write_51 rfl (lv_at hl 2 rfl) ?_
    refine Ls3 hx hb hK hW (by omega) dX2_write_52 (fun H locs hW => ?_)
    rw [show (s 7 : Int).toNat = ((s 7).toNat) from by omega] at hW
    obtain ⟨s_4, es_4⟩ : ∃ zz_, zz_ = up s_3 (224 + 5 * ((s 7).toNat)) (y) := ⟨_, rfl⟩
    rw [← es_4] at hW
    refine lv_aload_n hx hb dX2_write_53 rfl (lv_at hl 0 rfl) ?_
    refine Lg6 hx hb hts hin hown hK hW.1 (by decide +kernel) dX2_write_54 ?_
    refine lv_aload_n hx hb dX2_write_57 rfl (lv_at hl 0 rfl) ?_
    refine Lg1 hx hb hts hin hown hK hW.1 (by decide +kernel) dX2_write_58 ?_
    rw [show s_4 7 = s 7 from by rw [es_4, up_ne (by omega), es_3, up_ne (by omega), es_2, up_ne (by omega), es_1, up_ne (by omega)]]
    refine lv_iload_n hx hb dX2_write_61 rfl (lv_at hl 3 rfl) ?_
    refine Ls4 hx hb hK hW (by omega) dX2_write_62 (fun H locs hW => ?_)
    rw [show (s 7 : Int).toNat = ((s 7).toNat) from by omega] at hW
    obtain ⟨s_5, es_5⟩ : ∃ zz_, zz_ = up s_4 (226 + 5 * ((s 7).toNat)) (z) := ⟨_, rfl⟩
    rw [← es_5] at hW
    refine lv_aload_n hx hb dX2_write_63 rfl (lv_at hl 0 rfl) ?_
    refine lv_dup hx hb dX2_write_64 rfl ?_
    refine Lg1 hx hb hts hin hown hK hW.1 (by decide +kernel) dX2_write_65 ?_
    rw [show s_5 7 = s 7 from by rw [es_5, up_ne (by omega), es_4, up_ne (by omega), es_3, up_ne (by omega), es_2, up_ne (by omega), es_1, up_ne (by omega)]]
    refine j_c hx hb dX2_write_68 ?_
    refine j_add hx hb dX2_write_69 ?_
    refine Lp1 hx hb hts hin hown hK hW (by decide +kernel) dX2_write_70 (fun H locs hW => ?_)
    obtain ⟨s_6, es_6⟩ : ∃ zz_, zz_ = up s_5 (7) ((s 7) + 1) := ⟨_, rfl⟩
    rw [← es_6] at hW
    refine lv_aload_n hx hb dX2_write_73 rfl (lv_at hl 0 rfl) ?_
    refine lv_aload_n hx hb dX2_write_74 rfl (lv_at hl 0 rfl) ?_
    refine Lg0 hx hb hts hin hown hK hW.1 (by decide +kernel) dX2_write_75 ?_
    rw [show s_6 6 = s 6 from by rw [es_6, up_ne (by omega), es_5, up_ne (by omega), es_4, up_ne (by omega), es_3, up_ne (by omega), es_2, up_ne (by omega), es_1, up_ne (by omega)]]
    refine p_callS (v := .int (iI (((s 6) * 25173 + 13849) % 65536))) (n := 1) (w := []) (As := [.int (iI (s 6))]) (rest := [.ref (a 10)]) ⟨hx, hb, hml, hown, hts⟩ hK (kX2_after l D cI cV (s 6) (by omega)) (fun k q h => by simp at h) gX2_write_X2_after rfl (by decide +kernel) ⟨Nat.le_of_ble_eq_true rfl, Nat.le_of_ble_eq_true rfl⟩ rfl hl.1 (Nat.le_of_ble_eq_true rfl) dX2_write_78 ⟨Nat.zero_le _, Nat.zero_le _⟩ rfl ?_
    refine Lp0 hx hb hts hin hown hK hW (by decide +kernel) dX2_write_81 (fun H locs hW => ?_)
    obtain ⟨s_7, es_7⟩ : ∃ zz_, zz_ = up s_6 (6) (((s 6) * 25173 + 13849) % 65536) := ⟨_, rfl⟩
    rw [← es_7] at hW
    exact m_vret hx hb hr hlocks hW (by first | rfl | (subst es_7; subst es_6; subst es_5; subst es_4; subst es_3; subst es_2; subst es_1; rfl) | (exfalso; omega)) dX2_write_84
  · exact m_vret hx hb hr hlocks hW (by first | rfl | ( rfl) | (exfalso; omega)) dX2_write_9
set_option maxHeartbeats 4000000 in
set_option maxRecDepth 100000 in
theorem kX2_forgeLast (l : Launch) (D : va_G) (cI cV : ClassId) (a : Nat → Nat) (s : Nat → Int) (x : Int) (h07 : 0 < s 7 ∧ s 7 ≤ 60) : MM l yX2_forgeLast wsX2_forgeLast 0 0 [.ref (a 10), .int (iI (x))] (lotw cI a s) (lotw cI a (up s (224 + 5 * (s 7 - 1).toNat) x)) D cI cV (none) := by
  refine MM.of (cc := cX2_forgeLast) (maxL := 2) (ret := none) (by decide) rfl (Nat.le_of_ble_eq_true rfl) ?_
  intro p e s0 m below meth c ls hx hb hr hts hown hlocks hml hW hK hl
  have hWk := hW
  have hown : s0.vm.findClass RX2 = some m.cls := hown
  have hin : ∀ w ∈ u_ws RX2 TX2 7, w ∈ wsX2_forgeLast := by decide +kernel
  have hl : lv_has ls 2 [(0, .ref (a 10)), (1, .int (iI (x)))] := hl
  refine lv_aload_n hx hb dX2_forgeLast_0 rfl (lv_at hl 0 rfl) ?_
  refine Lg1 hx hb hts hin hown hK hW.1 (by decide +kernel) dX2_forgeLast_1 ?_
  refine j_zle (tgt := 19) hx hb (by omega) dX2_forgeLast_4 (by decide) (fun c1 => ?_) (fun c1 => ?_)
  · exact m_vret hx hb hr hlocks hW (by first | rfl | ( rfl) | (exfalso; omega)) dX2_forgeLast_19
  · refine lv_aload_n hx hb dX2_forgeLast_7 rfl (lv_at hl 0 rfl) ?_
    refine Lg5 hx hb hts hin hown hK hW.1 (by decide +kernel) dX2_forgeLast_8 ?_
    refine lv_aload_n hx hb dX2_forgeLast_11 rfl (lv_at hl 0 rfl) ?_
    refine Lg1 hx hb hts hin hown hK hW.1 (by decide +kernel) dX2_forgeLast_12 ?_
    refine j_c hx hb dX2_forgeLast_15 ?_
    refine j_sub hx hb dX2_forgeLast_16 ?_
    refine lv_iload_n hx hb dX2_forgeLast_17 rfl (lv_at hl 1 rfl) ?_
    refine Ls3 hx hb hK hW (by omega) dX2_forgeLast_18 (fun H locs hW => ?_)
    obtain ⟨s_1, es_1⟩ : ∃ zz_, zz_ = up s (224 + 5 * (((s 7) - 1 : Int).toNat)) (x) := ⟨_, rfl⟩
    rw [← es_1] at hW
    exact m_vret hx hb hr hlocks hW (by first | rfl | (subst es_1; rfl) | (exfalso; omega)) dX2_forgeLast_19
set_option maxHeartbeats 4000000 in
set_option maxRecDepth 100000 in
theorem kX4_letCome (l : Launch) (D : va_G) (cI cV : ClassId) (a : Nat → Nat) (s : Nat → Int) (nz : Int) (nw : Nat → Int)  (hV : VI s nz nw) : MM l yX4_letCome wsX4_letCome 0 0 [.ref (a 0)] (vilw cI a s nz nw) (vilw cI a (if 12 ≤ s 0 then (s) else (comeS s)) nz nw) D cI cV (some (.int (iI (if 12 ≤ s 0 then (-3) else (s 0))))) := by
  refine MM.of (cc := cX4_letCome) (maxL := 1) (ret := (some .int)) (by decide) rfl (Nat.le_of_ble_eq_true rfl) ?_
  intro p e s0 m below meth c ls hx hb hr hts hown hlocks hml hW hK hl
  have hWk := hW
  have hown : s0.vm.findClass RX4 = some m.cls := hown
  have hin : ∀ w ∈ u_ws RX4 TX4 13, w ∈ wsX4_letCome := by decide +kernel
  have hl : lv_has ls 1 [(0, .ref (a 0))] := hl
  obtain ⟨hbs, hbn, h00, h01, h10, h11, hz0, hz1, h30, h31, h40, h41, h70, h71, h60, h61⟩ := id hV
  have hb5 := hbs 5
  have hb2 := hbs 2
  refine lv_aload_n hx hb dX4_letCome_0 rfl (lv_at hl 0 rfl) ?_
  refine Vg0 hx hb hts hin hown hK hW.1 (by decide +kernel) dX4_letCome_1 ?_
  have r0_14 : bd (s 0) := hbs _
  refine j_bi hx hb dX4_letCome_4 rfl ?_
  refine j_ilt (tgt := 12) hx hb (by omega) (by omega) dX4_letCome_6 (by decide) (fun c1 => ?_) (fun c1 => ?_)
  · refine lv_aload_n hx hb dX4_letCome_12 rfl (lv_at hl 0 rfl) ?_
    refine Vg1 hx hb hts hin hown hK hW.1 (by decide +kernel) dX4_letCome_13 ?_
    refine lv_aload_n hx hb dX4_letCome_16 rfl (lv_at hl 0 rfl) ?_
    refine Vg0 hx hb hts hin hown hK hW.1 (by decide +kernel) dX4_letCome_17 ?_
    have r1_21 : bd (s 0) := hbs _
    refine j_c hx hb dX4_letCome_20 ?_
    refine Vs0 hx hb hK hW (by omega) dX4_letCome_21 (fun H locs hW => ?_)
    rw [show (s 0 : Int).toNat = ((s 0).toNat) from by omega] at hW
    obtain ⟨s_1, es_1⟩ : ∃ zz_, zz_ = up s (8 + ((s 0).toNat)) (1) := ⟨_, rfl⟩
    rw [← es_1] at hW
    refine lv_aload_n hx hb dX4_letCome_22 rfl (lv_at hl 0 rfl) ?_
    refine Vg2 hx hb hts hin hown hK hW.1 (by decide +kernel) dX4_letCome_23 ?_
    refine lv_aload_n hx hb dX4_letCome_26 rfl (lv_at hl 0 rfl) ?_
    refine Vg0 hx hb hts hin hown hK hW.1 (by decide +kernel) dX4_letCome_27 ?_
    rw [show s_1 0 = s 0 from by rw [es_1, up_ne (by omega)]]
    have r1_32 : bd (s 0) := hbs _
    refine j_c hx hb dX4_letCome_30 ?_
    refine Vs1 hx hb hK hW (by omega) dX4_letCome_31 (fun H locs hW => ?_)
    rw [show (s 0 : Int).toNat = ((s 0).toNat) from by omega] at hW
    obtain ⟨s_2, es_2⟩ : ∃ zz_, zz_ = up s_1 (20 + ((s 0).toNat)) (0) := ⟨_, rfl⟩
    rw [← es_2] at hW
    refine lv_aload_n hx hb dX4_letCome_32 rfl (lv_at hl 0 rfl) ?_
    refine lv_dup hx hb dX4_letCome_33 rfl ?_
    refine Vg0 hx hb hts hin hown hK hW.1 (by decide +kernel) dX4_letCome_34 ?_
    rw [show s_2 0 = s 0 from by rw [es_2, up_ne (by omega), es_1, up_ne (by omega)]]
    have r1_42 : bd (s 0) := hbs _
    refine j_c hx hb dX4_letCome_37 ?_
    refine j_add hx hb dX4_letCome_38 ?_
    refine Vp0 hx hb hts hin hown hK hW (by decide +kernel) dX4_letCome_39 (fun H locs hW => ?_)
    obtain ⟨s_3, es_3⟩ : ∃ zz_, zz_ = up s_2 (0) ((s 0) + 1) := ⟨_, rfl⟩
    rw [← es_3] at hW
    refine lv_aload_n hx hb dX4_letCome_42 rfl (lv_at hl 0 rfl) ?_
    refine Vg0 hx hb hts hin hown hK hW.1 (by decide +kernel) dX4_letCome_43 ?_
    rw [show s_3 0 = (s 0) + 1 from by rw [es_3, up_at rfl]]
    refine j_c hx hb dX4_letCome_46 ?_
    refine j_sub hx hb dX4_letCome_47 ?_
    exact m_iret hx hb hr hlocks hW (by (by_cases q0 : 12 ≤ s 0 <;> first | (simp only [if_pos q0]; first | done | (first | rfl | (subst es_3; subst es_2; subst es_1; rfl) | (exfalso; omega))) | (simp only [if_neg q0]; first | done | (first | rfl | (subst es_3; subst es_2; subst es_1; rfl) | (exfalso; omega))))) (by (by_cases q0 : 12 ≤ s 0 <;> first | (rw [if_pos q0]; first | done | (first | omega | rfl | (exfalso; omega))) | (rw [if_neg q0]; first | done | (first | omega | rfl | (exfalso; omega))))) dX4_letCome_48
  · refine j_bi hx hb dX4_letCome_9 rfl ?_
    exact m_iret hx hb hr hlocks hW (by (by_cases q0 : 12 ≤ s 0 <;> first | (simp only [if_pos q0]; first | done | (first | rfl | ( rfl) | (exfalso; omega))) | (simp only [if_neg q0]; first | done | (first | rfl | ( rfl) | (exfalso; omega))))) (by (by_cases q0 : 12 ≤ s 0 <;> first | (rw [if_pos q0]; first | done | (first | omega | rfl | (exfalso; omega))) | (rw [if_neg q0]; first | done | (first | omega | rfl | (exfalso; omega))))) dX4_letCome_11
set_option maxHeartbeats 4000000 in
set_option maxRecDepth 100000 in
theorem kX4_letAttend (l : Launch) (D : va_G) (cI cV : ClassId) (a : Nat → Nat) (s : Nat → Int) (nz : Int) (nw : Nat → Int) (x : Int) (y : Int) (hV : VI s nz nw) (r_x : rg x) (r_y : rg y) : MM l yX4_letAttend wsX4_letAttend 1 22 [.ref (a 0), .int (iI (x)), .int (iI (y))] (vilw cI a s nz nw) (vilw cI a (if ¬ (0 ≤ x ∧ x < s 0) ∨ y < 0 ∨ 1 < y then (s) else (if s (8 + x.toNat) = y then (s) else (up s (8 + x.toNat) y))) nz nw) D cI cV (some (.int (iI (if ¬ (0 ≤ x ∧ x < s 0) ∨ y < 0 ∨ 1 < y then (-1) else (if s (8 + x.toNat) = y then (-2) else (sm (fun i => (up s (8 + x.toNat) y) (8 + i)) ((up s (8 + x.toNat) y) 0).toNat)))))) := by
  refine MM.of (cc := cX4_letAttend) (maxL := 3) (ret := (some .int)) (by decide) rfl (Nat.le_of_ble_eq_true rfl) ?_
  intro p e s0 m below meth c ls hx hb hr hts hown hlocks hml hW hK hl
  have hWk := hW
  have hown : s0.vm.findClass RX4 = some m.cls := hown
  have hin : ∀ w ∈ u_ws RX4 TX4 13, w ∈ wsX4_letAttend := by decide +kernel
  have hl : lv_has ls 3 [(0, .ref (a 0)), (1, .int (iI (x))), (2, .int (iI (y)))] := hl
  obtain ⟨hbs, hbn, h00, h01, h10, h11, hz0, hz1, h30, h31, h40, h41, h70, h71, h60, h61⟩ := id hV
  have hb5 := hbs 5
  have hb2 := hbs 2
  refine lv_aload_n hx hb dX4_letAttend_0 rfl (lv_at hl 0 rfl) ?_
  refine lv_iload_n hx hb dX4_letAttend_1 rfl (lv_at hl 1 rfl) ?_
  refine p_callV (v := .int (iI (b2i (0 ≤ (x) ∧ (x) < s 0)))) (ci := 4) (n := 1) (As := [.int (iI (x))]) (rest := []) ⟨hx, hb, hml, hown, hts⟩ hK (kX4_isVillager l D cI cV a s nz nw x hV (by omega)) hW.1 rfl rfl gX4_letAttend_X4_isVillager rfl (by decide +kernel) ⟨Nat.le_of_ble_eq_true rfl, Nat.le_of_ble_eq_true rfl⟩ rfl hl.1 (Nat.le_of_ble_eq_true rfl) dX4_letAttend_2 ⟨Nat.zero_le _, Nat.zero_le _⟩ rfl ?_
  refine j_beq (tgt := 17) hx hb dX4_letAttend_5 (by decide) (fun c1 => ?_) (fun c1 => ?_)
  · refine j_c hx hb dX4_letAttend_17 ?_
    exact m_iret hx hb hr hlocks hW (by (by_cases q0 : ¬ (0 ≤ x ∧ x < s 0) ∨ y < 0 ∨ 1 < y <;> first | (simp only [if_pos q0]; first | done | (first | rfl | ( rfl) | (exfalso; omega))) | (simp only [if_neg q0]; first | done | (by_cases q1 : s (8 + x.toNat) = y <;> first | (simp only [if_pos q1]; first | done | (first | rfl | ( rfl) | (exfalso; omega))) | (simp only [if_neg q1]; first | done | (first | rfl | ( rfl) | (exfalso; omega))))))) (by (by_cases q0 : ¬ (0 ≤ x ∧ x < s 0) ∨ y < 0 ∨ 1 < y <;> first | (rw [if_pos q0]; first | done | (first | omega | ( rfl) | (exfalso; omega))) | (rw [if_neg q0]; first | done | (by_cases q1 : s (8 + x.toNat) = y <;> first | (rw [if_pos q1]; first | done | (first | omega | ( rfl) | (exfalso; omega))) | (rw [if_neg q1]; first | done | (first | omega | ( rfl) | (exfalso; omega))))))) dX4_letAttend_18
  · refine lv_iload_n hx hb dX4_letAttend_8 rfl (lv_at hl 2 rfl) ?_
    refine j_zlt (tgt := 17) hx hb (by omega) dX4_letAttend_9 (by decide) (fun c2 => ?_) (fun c2 => ?_)
    · refine j_c hx hb dX4_letAttend_17 ?_
      exact m_iret hx hb hr hlocks hW (by (by_cases q0 : ¬ (0 ≤ x ∧ x < s 0) ∨ y < 0 ∨ 1 < y <;> first | (simp only [if_pos q0]; first | done | (first | rfl | ( rfl) | (exfalso; omega))) | (simp only [if_neg q0]; first | done | (by_cases q1 : s (8 + x.toNat) = y <;> first | (simp only [if_pos q1]; first | done | (first | rfl | ( rfl) | (exfalso; omega))) | (simp only [if_neg q1]; first | done | (first | rfl | ( rfl) | (exfalso; omega))))))) (by (by_cases q0 : ¬ (0 ≤ x ∧ x < s 0) ∨ y < 0 ∨ 1 < y <;> first | (rw [if_pos q0]; first | done | (first | omega | ( rfl) | (exfalso; omega))) | (rw [if_neg q0]; first | done | (by_cases q1 : s (8 + x.toNat) = y <;> first | (rw [if_pos q1]; first | done | (first | omega | ( rfl) | (exfalso; omega))) | (rw [if_neg q1]; first | done | (first | omega | ( rfl) | (exfalso; omega))))))) dX4_letAttend_18
    · refine lv_iload_n hx hb dX4_letAttend_12 rfl (lv_at hl 2 rfl) ?_
      refine j_c hx hb dX4_letAttend_13 ?_
      refine j_ile (tgt := 19) hx hb (by omega) (by omega) dX4_letAttend_14 (by decide) (fun c3 => ?_) (fun c3 => ?_)
      · refine lv_aload_n hx hb dX4_letAttend_19 rfl (lv_at hl 0 rfl) ?_
        refine Vg1 hx hb hts hin hown hK hW.1 (by decide +kernel) dX4_letAttend_20 ?_
        refine lv_iload_n hx hb dX4_letAttend_23 rfl (lv_at hl 1 rfl) ?_
        refine Va0 hx hb hK hW.1 (by omega) dX4_letAttend_24 ?_
        have r3_29 : bd (s (8 + x.toNat)) := hbs _
        refine lv_iload_n hx hb dX4_letAttend_25 rfl (lv_at hl 2 rfl) ?_
        refine j_ine (tgt := 32) hx hb (by omega) (by omega) dX4_letAttend_26 (by decide) (fun c4 => ?_) (fun c4 => ?_)
        · refine lv_aload_n hx hb dX4_letAttend_32 rfl (lv_at hl 0 rfl) ?_
          refine Vg1 hx hb hts hin hown hK hW.1 (by decide +kernel) dX4_letAttend_33 ?_
          refine lv_iload_n hx hb dX4_letAttend_36 rfl (lv_at hl 1 rfl) ?_
          refine lv_iload_n hx hb dX4_letAttend_37 rfl (lv_at hl 2 rfl) ?_
          refine Vs0 hx hb hK hW (by omega) dX4_letAttend_38 (fun H locs hW => ?_)
          obtain ⟨s_1, es_1⟩ : ∃ zz_, zz_ = up s (8 + x.toNat) (y) := ⟨_, rfl⟩
          rw [← es_1] at hW
          have hV : VI s_1 nz nw := by rw [es_1]; exact VI_up hV (by omega) (by omega)
          refine lv_aload_n hx hb dX4_letAttend_39 rfl (lv_at hl 0 rfl) ?_
          refine p_callV (v := .int (iI (sm (fun i => s_1 (8 + i)) (s_1 0).toNat))) (ci := 4) (n := 0) (As := []) (rest := []) ⟨hx, hb, hml, hown, hts⟩ hK (kX4_presentVillagers l D cI cV a s_1 nz nw hV) hW.1 rfl rfl gX4_letAttend_X4_presentVillagers rfl (by decide +kernel) ⟨Nat.le_of_ble_eq_true rfl, Nat.le_of_ble_eq_true rfl⟩ rfl hl.1 (Nat.le_of_ble_eq_true rfl) dX4_letAttend_40 ⟨Nat.zero_le _, Nat.zero_le _⟩ rfl ?_
          exact m_iret hx hb hr hlocks hW (by (by_cases q0 : ¬ (0 ≤ x ∧ x < s 0) ∨ y < 0 ∨ 1 < y <;> first | (simp only [if_pos q0]; first | done | (first | rfl | (subst es_1; rfl) | (exfalso; omega))) | (simp only [if_neg q0]; first | done | (by_cases q1 : s (8 + x.toNat) = y <;> first | (simp only [if_pos q1]; first | done | (first | rfl | (subst es_1; rfl) | (exfalso; omega))) | (simp only [if_neg q1]; first | done | (first | rfl | (subst es_1; rfl) | (exfalso; omega))))))) (by (by_cases q0 : ¬ (0 ≤ x ∧ x < s 0) ∨ y < 0 ∨ 1 < y <;> first | (rw [if_pos q0]; first | done | (first | omega | (subst es_1; rfl) | (exfalso; omega))) | (rw [if_neg q0]; first | done | (by_cases q1 : s (8 + x.toNat) = y <;> first | (rw [if_pos q1]; first | done | (first | omega | (subst es_1; rfl) | (exfalso; omega))) | (rw [if_neg q1]; first | done | (first | omega | (subst es_1; rfl) | (exfalso; omega))))))) dX4_letAttend_43
        · refine j_bi hx hb dX4_letAttend_29 rfl ?_
          exact m_iret hx hb hr hlocks hW (by (by_cases q0 : ¬ (0 ≤ x ∧ x < s 0) ∨ y < 0 ∨ 1 < y <;> first | (simp only [if_pos q0]; first | done | (first | rfl | ( rfl) | (exfalso; omega))) | (simp only [if_neg q0]; first | done | (by_cases q1 : s (8 + x.toNat) = y <;> first | (simp only [if_pos q1]; first | done | (first | rfl | ( rfl) | (exfalso; omega))) | (simp only [if_neg q1]; first | done | (first | rfl | ( rfl) | (exfalso; omega))))))) (by (by_cases q0 : ¬ (0 ≤ x ∧ x < s 0) ∨ y < 0 ∨ 1 < y <;> first | (rw [if_pos q0]; first | done | (first | omega | ( rfl) | (exfalso; omega))) | (rw [if_neg q0]; first | done | (by_cases q1 : s (8 + x.toNat) = y <;> first | (rw [if_pos q1]; first | done | (first | omega | ( rfl) | (exfalso; omega))) | (rw [if_neg q1]; first | done | (first | omega | ( rfl) | (exfalso; omega))))))) dX4_letAttend_31
      · refine j_c hx hb dX4_letAttend_17 ?_
        exact m_iret hx hb hr hlocks hW (by (by_cases q0 : ¬ (0 ≤ x ∧ x < s 0) ∨ y < 0 ∨ 1 < y <;> first | (simp only [if_pos q0]; first | done | (first | rfl | ( rfl) | (exfalso; omega))) | (simp only [if_neg q0]; first | done | (by_cases q1 : s (8 + x.toNat) = y <;> first | (simp only [if_pos q1]; first | done | (first | rfl | ( rfl) | (exfalso; omega))) | (simp only [if_neg q1]; first | done | (first | rfl | ( rfl) | (exfalso; omega))))))) (by (by_cases q0 : ¬ (0 ≤ x ∧ x < s 0) ∨ y < 0 ∨ 1 < y <;> first | (rw [if_pos q0]; first | done | (first | omega | ( rfl) | (exfalso; omega))) | (rw [if_neg q0]; first | done | (by_cases q1 : s (8 + x.toNat) = y <;> first | (rw [if_pos q1]; first | done | (first | omega | ( rfl) | (exfalso; omega))) | (rw [if_neg q1]; first | done | (first | omega | ( rfl) | (exfalso; omega))))))) dX4_letAttend_18
set_option maxHeartbeats 4000000 in
set_option maxRecDepth 100000 in
theorem kX4_setLotState (l : Launch) (D : va_G) (cI cV : ClassId) (a : Nat → Nat) (s : Nat → Int) (nz : Int) (nw : Nat → Int) (x : Int) (hV : VI s nz nw) (r_x : rg x) : MM l yX4_setLotState wsX4_setLotState 1 22 [.ref (a 0), .int (iI (x))] (vilw cI a s nz nw) (vilw cI a (if x < 0 ∨ 65535 < x then (s) else (up s 6 x)) nz nw) D cI cV (some (.int (iI (if x < 0 ∨ 65535 < x then (-1) else (s 6))))) := by
  refine MM.of (cc := cX4_setLotState) (maxL := 2) (ret := (some .int)) (by decide) rfl (Nat.le_of_ble_eq_true rfl) ?_
  intro p e s0 m below meth c ls hx hb hr hts hown hlocks hml hW hK hl
  have hWk := hW
  have hown : s0.vm.findClass RX4 = some m.cls := hown
  have hin : ∀ w ∈ u_ws RX4 TX4 13, w ∈ wsX4_setLotState := by decide +kernel
  have hl : lv_has ls 2 [(0, .ref (a 0)), (1, .int (iI (x)))] := hl
  obtain ⟨hbs, hbn, h00, h01, h10, h11, hz0, hz1, h30, h31, h40, h41, h70, h71, h60, h61⟩ := id hV
  have hb5 := hbs 5
  have hb2 := hbs 2
  refine lv_iload_n hx hb dX4_setLotState_0 rfl (lv_at hl 1 rfl) ?_
  refine j_zlt (tgt := 10) hx hb (by omega) dX4_setLotState_1 (by decide) (fun c1 => ?_) (fun c1 => ?_)
  · refine j_c hx hb dX4_setLotState_10 ?_
    exact m_iret hx hb hr hlocks hW (by (by_cases q0 : x < 0 ∨ 65535 < x <;> first | (simp only [if_pos q0]; first | done | (first | rfl | ( rfl) | (exfalso; omega))) | (simp only [if_neg q0]; first | done | (first | rfl | ( rfl) | (exfalso; omega))))) (by (by_cases q0 : x < 0 ∨ 65535 < x <;> first | (rw [if_pos q0]; first | done | (first | omega | rfl | (exfalso; omega))) | (rw [if_neg q0]; first | done | (first | omega | rfl | (exfalso; omega))))) dX4_setLotState_11
  · refine lv_iload_n hx hb dX4_setLotState_4 rfl (lv_at hl 1 rfl) ?_
    refine j_ldc (n := 65536) hx hb hown (hts (.constant RX4 89 65536) (by decide +kernel)) rfl dX4_setLotState_5 ?_
    refine j_ilt (tgt := 12) hx hb (by omega) (by omega) dX4_setLotState_7 (by decide) (fun c2 => ?_) (fun c2 => ?_)
    · refine lv_aload_n hx hb dX4_setLotState_12 rfl (lv_at hl 0 rfl) ?_
      refine Vg7 hx hb hts hin hown hK hW.1 (by decide +kernel) dX4_setLotState_13 ?_
      refine lv_iload_n hx hb dX4_setLotState_16 rfl (lv_at hl 1 rfl) ?_
      refine m_callV (v := some (.int (iI (s 6)))) (ci := 2) (n := 1) (As := [.int (iI (x))]) (rest := []) (st2 := [.int (iI (s 6))]) (w2 := vilw cI a (up s 6 x) nz nw) (pre := vilo cI a s ++ (couw cI (a 6) (a 7) (s 1) (fun i => s (32 + i)) ++ couw cI (a 8) (a 9) nz nw)) (post := []) ⟨hx, hb, hml, hown, hts⟩ hK hW (kX2_setState l D cI cV a s x) (by rw [List.append_nil, List.append_assoc, List.append_assoc]; rfl) (by rw [List.append_nil, List.append_assoc, List.append_assoc]; exact (vil_setLot (lotOnly_up (fun _ _ => rfl) (by omega))).symm) rfl rfl rfl gX4_setLotState_X2_setState rfl (by decide +kernel) ⟨Nat.le_of_ble_eq_true rfl, Nat.le_of_ble_eq_true rfl⟩ rfl hl.1 (Nat.le_of_ble_eq_true rfl) dX4_setLotState_17 ⟨Nat.zero_le _, Nat.zero_le _⟩ rfl rfl (fun H locs hW => ?_)
      obtain ⟨s_1, es_1⟩ : ∃ zz_, zz_ = up s 6 x := ⟨_, rfl⟩
      rw [← es_1] at hW
      exact m_iret hx hb hr hlocks hW (by (by_cases q0 : x < 0 ∨ 65535 < x <;> first | (simp only [if_pos q0]; first | done | (first | rfl | (subst es_1; rfl) | (exfalso; omega))) | (simp only [if_neg q0]; first | done | (first | rfl | (subst es_1; rfl) | (exfalso; omega))))) (by (by_cases q0 : x < 0 ∨ 65535 < x <;> first | (rw [if_pos q0]; first | done | (first | omega | rfl | (exfalso; omega))) | (rw [if_neg q0]; first | done | (first | omega | rfl | (exfalso; omega))))) dX4_setLotState_20
    · refine j_c hx hb dX4_setLotState_10 ?_
      exact m_iret hx hb hr hlocks hW (by (by_cases q0 : x < 0 ∨ 65535 < x <;> first | (simp only [if_pos q0]; first | done | (first | rfl | ( rfl) | (exfalso; omega))) | (simp only [if_neg q0]; first | done | (first | rfl | ( rfl) | (exfalso; omega))))) (by (by_cases q0 : x < 0 ∨ 65535 < x <;> first | (rw [if_pos q0]; first | done | (first | omega | rfl | (exfalso; omega))) | (rw [if_neg q0]; first | done | (first | omega | rfl | (exfalso; omega))))) dX4_setLotState_11
set_option maxHeartbeats 4000000 in
set_option maxRecDepth 100000 in
theorem kX4_addEntry (l : Launch) (D : va_G) (cI cV : ClassId) (a : Nat → Nat) (s : Nat → Int) (nz : Int) (nw : Nat → Int) (x : Int) (y : Int) (hV : VI s nz nw) (h_x : 0 ≤ x ∧ x < 12) (h_3 : s 3 < 60) : MM l yX4_addEntry wsX4_addEntry 0 0 [.ref (a 0), .int (iI (x)), .int (iI (y))] (vilw cI a s nz nw) (vilw cI a (addS s x y) nz nw) D cI cV (none) := by
  refine MM.of (cc := cX4_addEntry) (maxL := 3) (ret := none) (by decide) rfl (Nat.le_of_ble_eq_true rfl) ?_
  intro p e s0 m below meth c ls hx hb hr hts hown hlocks hml hW hK hl
  have hWk := hW
  have hown : s0.vm.findClass RX4 = some m.cls := hown
  have hin : ∀ w ∈ u_ws RX4 TX4 13, w ∈ wsX4_addEntry := by decide +kernel
  have hl : lv_has ls 3 [(0, .ref (a 0)), (1, .int (iI (x))), (2, .int (iI (y)))] := hl
  obtain ⟨hbs, hbn, h00, h01, h10, h11, hz0, hz1, h30, h31, h40, h41, h70, h71, h60, h61⟩ := id hV
  have hb5 := hbs 5
  have hb2 := hbs 2
  refine lv_aload_n hx hb dX4_addEntry_0 rfl (lv_at hl 0 rfl) ?_
  refine Vg10 hx hb hts hin hown hK hW.1 (by decide +kernel) dX4_addEntry_1 ?_
  refine lv_aload_n hx hb dX4_addEntry_4 rfl (lv_at hl 0 rfl) ?_
  refine Vg8 hx hb hts hin hown hK hW.1 (by decide +kernel) dX4_addEntry_5 ?_
  have r0_16 : bd (s 3) := hbs _
  refine lv_iload_n hx hb dX4_addEntry_8 rfl (lv_at hl 2 rfl) ?_
  refine Vs2 hx hb hK hW (by omega) dX4_addEntry_9 (fun H locs hW => ?_)
  rw [show (s 3 : Int).toNat = ((s 3).toNat) from by omega] at hW
  obtain ⟨s_1, es_1⟩ : ∃ zz_, zz_ = up s (42 + 3 * ((s 3).toNat)) (y) := ⟨_, rfl⟩
  rw [← es_1] at hW
  refine lv_aload_n hx hb dX4_addEntry_10 rfl (lv_at hl 0 rfl) ?_
  refine Vg11 hx hb hts hin hown hK hW.1 (by decide +kernel) dX4_addEntry_11 ?_
  refine lv_aload_n hx hb dX4_addEntry_14 rfl (lv_at hl 0 rfl) ?_
  refine Vg8 hx hb hts hin hown hK hW.1 (by decide +kernel) dX4_addEntry_15 ?_
  rw [show s_1 3 = s 3 from by rw [es_1, up_ne (by omega)]]
  have r0_27 : bd (s 3) := hbs _
  refine lv_aload_n hx hb dX4_addEntry_18 rfl (lv_at hl 0 rfl) ?_
  refine Vg5 hx hb hts hin hown hK hW.1 (by decide +kernel) dX4_addEntry_19 ?_
  rw [show s_1 2 = s 2 from by rw [es_1, up_ne (by omega)]]
  have r0_31 : bd (s 2) := hbs _
  refine Vs3 hx hb hK hW (by omega) dX4_addEntry_22 (fun H locs hW => ?_)
  rw [show (s 3 : Int).toNat = ((s 3).toNat) from by omega] at hW
  obtain ⟨s_2, es_2⟩ : ∃ zz_, zz_ = up s_1 (43 + 3 * ((s 3).toNat)) (s 2) := ⟨_, rfl⟩
  rw [← es_2] at hW
  refine lv_aload_n hx hb dX4_addEntry_23 rfl (lv_at hl 0 rfl) ?_
  refine Vg12 hx hb hts hin hown hK hW.1 (by decide +kernel) dX4_addEntry_24 ?_
  refine lv_aload_n hx hb dX4_addEntry_27 rfl (lv_at hl 0 rfl) ?_
  refine Vg8 hx hb hts hin hown hK hW.1 (by decide +kernel) dX4_addEntry_28 ?_
  rw [show s_2 3 = s 3 from by rw [es_2, up_ne (by omega), es_1, up_ne (by omega)]]
  have r0_41 : bd (s 3) := hbs _
  refine lv_iload_n hx hb dX4_addEntry_31 rfl (lv_at hl 1 rfl) ?_
  refine Vs4 hx hb hK hW (by omega) dX4_addEntry_32 (fun H locs hW => ?_)
  rw [show (s 3 : Int).toNat = ((s 3).toNat) from by omega] at hW
  obtain ⟨s_3, es_3⟩ : ∃ zz_, zz_ = up s_2 (44 + 3 * ((s 3).toNat)) (x) := ⟨_, rfl⟩
  rw [← es_3] at hW
  refine lv_aload_n hx hb dX4_addEntry_33 rfl (lv_at hl 0 rfl) ?_
  refine lv_dup hx hb dX4_addEntry_34 rfl ?_
  refine Vg8 hx hb hts hin hown hK hW.1 (by decide +kernel) dX4_addEntry_35 ?_
  rw [show s_3 3 = s 3 from by rw [es_3, up_ne (by omega), es_2, up_ne (by omega), es_1, up_ne (by omega)]]
  have r0_51 : bd (s 3) := hbs _
  refine j_c hx hb dX4_addEntry_38 ?_
  refine j_add hx hb dX4_addEntry_39 ?_
  refine Vp8 hx hb hts hin hown hK hW (by decide +kernel) dX4_addEntry_40 (fun H locs hW => ?_)
  obtain ⟨s_4, es_4⟩ : ∃ zz_, zz_ = up s_3 (3) ((s 3) + 1) := ⟨_, rfl⟩
  rw [← es_4] at hW
  refine lv_aload_n hx hb dX4_addEntry_43 rfl (lv_at hl 0 rfl) ?_
  refine Vg2 hx hb hts hin hown hK hW.1 (by decide +kernel) dX4_addEntry_44 ?_
  refine lv_iload_n hx hb dX4_addEntry_47 rfl (lv_at hl 1 rfl) ?_
  refine lv_aload_n hx hb dX4_addEntry_48 rfl (lv_at hl 0 rfl) ?_
  refine Vg8 hx hb hts hin hown hK hW.1 (by decide +kernel) dX4_addEntry_49 ?_
  rw [show s_4 3 = (s 3) + 1 from by rw [es_4, up_at rfl]]
  refine Vs1 hx hb hK hW (by omega) dX4_addEntry_52 (fun H locs hW => ?_)
  obtain ⟨s_5, es_5⟩ : ∃ zz_, zz_ = up s_4 (20 + x.toNat) ((s 3) + 1) := ⟨_, rfl⟩
  rw [← es_5] at hW
  exact m_vret hx hb hr hlocks hW (by first | rfl | (subst es_5; subst es_4; subst es_3; subst es_2; subst es_1; rfl) | (exfalso; omega)) dX4_addEntry_53
