set_option maxHeartbeats 4000000 in
set_option maxRecDepth 100000 in
theorem kX3_length (l : Launch) (D : va_G) (cI cV : ClassId) (o ch : Nat) (t : Nat → Int) (n pl le vr nr : Int)   : PM l yX3_length wsX3_length 0 0 [.ref (o)] (txtw cI o ch t n pl le vr nr) D cI cV (some (.int (iI (n)))) := by
  refine PM.of (cc := cX3_length) (maxL := 1) (ret := (some .int)) (by decide) rfl (Nat.le_of_ble_eq_true rfl) ?_
  intro p e s0 m below meth c ls hx hb hr hts hown hlocks hml hP hK hl
  have hown : s0.vm.findClass RX3 = some m.cls := hown
  have hin : ∀ w ∈ u_ws RX3 TX3 6, w ∈ wsX3_length := by decide +kernel
  have hl : lv_has ls 1 [(0, .ref (o))] := hl
  refine lv_aload_n hx hb dX3_length_0 rfl (lv_at hl 0 rfl) ?_
  refine Tg1 hx hb hts hin hown hK hP (by decide +kernel) dX3_length_1 ?_
  exact p_iret hx hb hr hlocks (by first | rfl | omega | exact (b2i_t (by omega)).symm | exact (b2i_f (by omega)).symm | (simp only [b2i]; (repeat' split) <;> first | rfl | omega | (exfalso; omega))) dX3_length_4
