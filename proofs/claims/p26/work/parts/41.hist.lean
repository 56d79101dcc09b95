set_option maxHeartbeats 4000000 in
set_option maxRecDepth 100000 in
theorem kX1_length (l : Launch) (D : va_G) (cI cV : ClassId) (o r : Nat) (rows : Nat → Nat) (fr n : Int)   : PM l yX1_length wsX1_length 0 0 [.ref (o)] (hisw cV o r rows fr n) D cI cV (some (.int (iI (n)))) := by
  refine PM.of (cc := cX1_length) (maxL := 1) (ret := (some .int)) (by decide) rfl (Nat.le_of_ble_eq_true rfl) ?_
  intro p e s0 m below meth c ls hx hb hr hts hown hlocks hml hP hK hl
  have hown : s0.vm.findClass RX1 = some m.cls := hown
  have hin : ∀ w ∈ u_ws RX1 TX1 3, w ∈ wsX1_length := by decide +kernel
  have hl : lv_has ls 1 [(0, .ref (o))] := hl
  refine lv_aload_n hx hb dX1_length_0 rfl (lv_at hl 0 rfl) ?_
  refine Hg2 hx hb hts hin hown hK hP (by decide +kernel) dX1_length_1 ?_
  exact p_iret hx hb hr hlocks (by first | rfl | omega | exact (b2i_t (by omega)).symm | exact (b2i_f (by omega)).symm | (simp only [b2i]; (repeat' split) <;> first | rfl | omega | (exfalso; omega))) dX1_length_4
set_option maxHeartbeats 4000000 in
set_option maxRecDepth 100000 in
theorem kX1_keep (l : Launch) (D : va_G) (cI cV : ClassId) (o r : Nat) (rows : Nat → Nat) (fr n : Int)  (hfr : 0 ≤ fr ∧ fr < 6) (hhn : 0 ≤ n ∧ n ≤ 5) : MM l yX1_keep wsX1_keep 1 60 [.ref (o)] (hisw cV o r rows fr n) (hisw cV o r rows ((fr + 1) % 6) (min (n + 1) 5)) D cI cV (none) := by
  refine MM.of (cc := cX1_keep) (maxL := 1) (ret := none) (by decide) rfl (Nat.le_of_ble_eq_true rfl) ?_
  intro p e s0 m below meth c ls hx hb hr hts hown hlocks hml hW hK hl
  have hWk := hW
  have hown : s0.vm.findClass RX1 = some m.cls := hown
  have hin : ∀ w ∈ u_ws RX1 TX1 3, w ∈ wsX1_keep := by decide +kernel
  have hl : lv_has ls 1 [(0, .ref (o))] := hl
  refine lv_aload_n hx hb dX1_keep_0 rfl (lv_at hl 0 rfl) ?_
  refine lv_aload_n hx hb dX1_keep_1 rfl (lv_at hl 0 rfl) ?_
  refine Hg1 hx hb hts hin hown hK hW.1 (by decide +kernel) dX1_keep_2 ?_
  refine j_c hx hb dX1_keep_5 ?_
  refine j_add hx hb dX1_keep_6 ?_
  refine j_bi hx hb dX1_keep_7 rfl ?_
  refine j_rem hx hb (by omega) (by omega) dX1_keep_9 ?_
  refine Hp1 hx hb hts hin hown hK hW (by decide +kernel) dX1_keep_10 (fun H locs hW => ?_)
  refine lv_aload_n hx hb dX1_keep_13 rfl (lv_at hl 0 rfl) ?_
  refine lv_aload_n hx hb dX1_keep_14 rfl (lv_at hl 0 rfl) ?_
  refine Hg2 hx hb hts hin hown hK hW.1 (by decide +kernel) dX1_keep_15 ?_
  refine j_c hx hb dX1_keep_18 ?_
  refine j_add hx hb dX1_keep_19 ?_
  refine j_c hx hb dX1_keep_20 ?_
  refine j_mmin hx hb (hml.trans hl.1.symm) hown (hts (.methodLink RX1 29 Lib.Math.min.name) (by decide +kernel)) (hts (.static Lib.Math.min.name) (by decide +kernel)) (hts (.initialized "java/lang/Math") (by decide +kernel)) (hts (.code Lib.Math.min.name Lib.Math.min.code 2 (some .int)) (by decide +kernel)) (Nat.le_of_ble_eq_true rfl) (Nat.le_of_ble_eq_true rfl) (Nat.zero_le _) (Nat.zero_le _) (by omega) (by omega) dX1_keep_21 ?_
  refine Hp2 hx hb hts hin hown hK hW (by decide +kernel) dX1_keep_24 (fun H locs hW => ?_)
  exact m_vret hx hb hr hlocks hW (by first | rfl | ( rfl) | (exfalso; omega)) dX1_keep_27
set_option maxHeartbeats 4000000 in
set_option maxRecDepth 100000 in
theorem kX1_note (l : Launch) (D : va_G) (cI cV : ClassId) (o r : Nat) (ra : Nat → Nat → Nat) (fr n : Int) (a : Nat → Nat) (s : Nat → Int) (nz : Int) (nw : Nat → Int) (rS : Nat → Nat → Int) (rZ : Nat → Int) (rN : Nat → Nat → Int)  (hfr : 0 ≤ fr ∧ fr < 6) : MM l yX1_note wsX1_note 3 102 [.ref (o), .ref (a 0)] (hvw cI cV o r ra fr n a s nz nw rS rZ rN) (hvw cI cV o r ra fr n a s nz nw (nt fr.toNat s rS) (nt fr.toNat nz rZ) (nt fr.toNat nw rN)) D cI cV (none) := by
  refine MM.of (cc := cX1_note) (maxL := 2) (ret := none) (by decide) rfl (Nat.le_of_ble_eq_true rfl) ?_
  intro p e s0 m below meth c ls hx hb hr hts hown hlocks hml hW hK hl
  have hWk := hW
  have hown : s0.vm.findClass RX1 = some m.cls := hown
  have hin : ∀ w ∈ u_ws RX1 TX1 3, w ∈ wsX1_note := by decide +kernel
  have hl : lv_has ls 2 [(0, .ref (o)), (1, .ref (a 0))] := hl
  refine lv_aload_n hx hb dX1_note_0 rfl (lv_at hl 0 rfl) ?_
  refine Qg0 hx hb hts hin hown hK hW.1 (by decide +kernel) dX1_note_1 ?_
  refine lv_aload_n hx hb dX1_note_4 rfl (lv_at hl 0 rfl) ?_
  refine Qg1 hx hb hts hin hown hK hW.1 (by decide +kernel) dX1_note_5 ?_
  refine Qa hx hb hK hW.1 (by omega) dX1_note_8 ?_
  refine lv_aload_n hx hb dX1_note_9 rfl (lv_at hl 1 rfl) ?_
  refine m_callP (v := none) (ci := 4) (n := 1) (As := [.ref (a 0)]) (rest := []) (st2 := []) (w2 := hvw cI cV o r ra fr n a s nz nw (nt fr.toNat s rS) (nt fr.toNat nz rZ) (nt fr.toNat nw rN)) (post := hisw cV o r (fun k => ra k 0) fr n ++ restw (fun k => vilw cI (ra k) (rS k) (rZ k) (rN k)) fr.toNat) ⟨hx, hb, hml, hown, hts⟩ hK hW (kX4_copyFrom0 l D cI cV (ra fr.toNat) a (rS fr.toNat) (rZ fr.toNat) (rN fr.toNat) s nz nw) (hv_note1 (by omega)) (hv_note2 (by omega)) rfl rfl rfl gX1_note_X4_copyFrom rfl (by decide +kernel) ⟨Nat.le_of_ble_eq_true rfl, Nat.le_of_ble_eq_true rfl⟩ rfl hl.1 (Nat.le_of_ble_eq_true rfl) dX1_note_10 ⟨Nat.zero_le _, Nat.zero_le _⟩ rfl rfl (fun H locs hW => ?_)
  exact m_vret hx hb hr hlocks hW (by first | rfl | ( rfl) | (exfalso; omega)) dX1_note_13
