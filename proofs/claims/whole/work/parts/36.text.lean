def nxt (t : Nat → Int) (n pl : Int) : Int := if 0 ≤ pl ∧ pl < n then t pl.toNat else -9
theorem nxt_bd {t : Nat → Int} {n pl : Int} (h : ∀ k, bd (t k)) : bd (nxt t n pl) := by
  unfold nxt
  split
  · exact h _
  · omega
def rdL (t : Nat → Int) (n : Int) : Nat → Int → Int → Int × Int
  | 0, v, q => (v, q)
  | k + 1, v, q => if v ≠ 0 ∧ 48 ≤ nxt t n q ∧ nxt t n q ≤ 57 then rdL t n k (v * 10 + nxt t n q - 48) (q + 1) else (v, q)
def rdN (t : Nat → Int) (n pl : Int) : Int × Int := if 48 ≤ nxt t n pl ∧ nxt t n pl ≤ 57 then rdL t n 2 (nxt t n pl - 48) (pl + 1) else (-9, pl)
theorem rdL_stop {t : Nat → Int} {n v q : Int} (h : ¬ (v ≠ 0 ∧ 48 ≤ nxt t n q ∧ nxt t n q ≤ 57)) : ∀ k, rdL t n k v q = (v, q)
  | 0 => rfl
  | k + 1 => by
    simp only [rdL]
    rw [if_neg h]
theorem rdL_go {t : Nat → Int} {n v q : Int} (h : v ≠ 0 ∧ 48 ≤ nxt t n q ∧ nxt t n q ≤ 57) (k : Nat) : rdL t n (k + 1) v q = rdL t n k (v * 10 + nxt t n q - 48) (q + 1) := by
  simp only [rdL]
  rw [if_pos h]
theorem rdN_rg {t : Nat → Int} {n pl : Int} : ((rdN t n pl).1 = -9 ∨ 0 ≤ (rdN t n pl).1 ∧ (rdN t n pl).1 ≤ 999) ∧ pl ≤ (rdN t n pl).2 ∧ (rdN t n pl).2 ≤ pl + 3 := by
  unfold rdN
  split
  · rename_i h
    simp only [rdL]
    split
    · rename_i h2
      split
      · dsimp only
        omega
      · dsimp only
        omega
    · dsimp only
      omega
  · dsimp only
    omega
set_option maxHeartbeats 4000000 in
set_option maxRecDepth 100000 in
theorem kX3_length (l : Launch) (D : va_G) (cI cV : ClassId) (o ch : Nat) (t : Nat → Int) (n pl le vr nr : Int)   : PM l yX3_length wsX3_length 0 0 [.ref (o)] (txtw cI o ch t n pl le vr nr) D cI cV (some (.int (iI (n)))) := by
  refine PM.of (cc := cX3_length) (maxL := 1) (ret := (some .int)) (by decide) rfl (Nat.le_of_ble_eq_true rfl) ?_
  intro p e s0 m below meth c ls hx hb hr hts hown hlocks hml hP hK hl
  have hown : s0.vm.findClass RX3 = some m.cls := hown
  have hin : ∀ w ∈ u_ws RX3 TX3 6, w ∈ wsX3_length := by decide +kernel
  have hl : lv_has ls 1 [(0, .ref (o))] := hl
  refine lv_aload_n hx hb dX3_length_0 rfl (lv_at hl 0 rfl) ?_
  refine Tg1 hx hb hts hin hown hK hP (by decide +kernel) dX3_length_1 ?_
  exact p_iret hx hb hr hlocks (by first | rfl | omega | exact (b2i_t (by omega)).symm | exact (b2i_f (by omega)).symm | (simp only [b2i]; (repeat' split) <;> first | rfl | omega | (exfalso; omega))) dX3_length_4
set_option maxHeartbeats 4000000 in
set_option maxRecDepth 100000 in
theorem kX3_place (l : Launch) (D : va_G) (cI cV : ClassId) (o ch : Nat) (t : Nat → Int) (n pl le vr nr : Int)   : PM l yX3_place wsX3_place 0 0 [.ref (o)] (txtw cI o ch t n pl le vr nr) D cI cV (some (.int (iI (pl)))) := by
  refine PM.of (cc := cX3_place) (maxL := 1) (ret := (some .int)) (by decide) rfl (Nat.le_of_ble_eq_true rfl) ?_
  intro p e s0 m below meth c ls hx hb hr hts hown hlocks hml hP hK hl
  have hown : s0.vm.findClass RX3 = some m.cls := hown
  have hin : ∀ w ∈ u_ws RX3 TX3 6, w ∈ wsX3_place := by decide +kernel
  have hl : lv_has ls 1 [(0, .ref (o))] := hl
  refine lv_aload_n hx hb dX3_place_0 rfl (lv_at hl 0 rfl) ?_
  refine Tg2 hx hb hts hin hown hK hP (by decide +kernel) dX3_place_1 ?_
  exact p_iret hx hb hr hlocks (by first | rfl | omega | exact (b2i_t (by omega)).symm | exact (b2i_f (by omega)).symm | (simp only [b2i]; (repeat' split) <;> first | rfl | omega | (exfalso; omega))) dX3_place_4
set_option maxHeartbeats 4000000 in
set_option maxRecDepth 100000 in
theorem kX3_letter (l : Launch) (D : va_G) (cI cV : ClassId) (o ch : Nat) (t : Nat → Int) (n pl le vr nr : Int)   : PM l yX3_letter wsX3_letter 0 0 [.ref (o)] (txtw cI o ch t n pl le vr nr) D cI cV (some (.int (iI (le)))) := by
  refine PM.of (cc := cX3_letter) (maxL := 1) (ret := (some .int)) (by decide) rfl (Nat.le_of_ble_eq_true rfl) ?_
  intro p e s0 m below meth c ls hx hb hr hts hown hlocks hml hP hK hl
  have hown : s0.vm.findClass RX3 = some m.cls := hown
  have hin : ∀ w ∈ u_ws RX3 TX3 6, w ∈ wsX3_letter := by decide +kernel
  have hl : lv_has ls 1 [(0, .ref (o))] := hl
  refine lv_aload_n hx hb dX3_letter_0 rfl (lv_at hl 0 rfl) ?_
  refine Tg3 hx hb hts hin hown hK hP (by decide +kernel) dX3_letter_1 ?_
  exact p_iret hx hb hr hlocks (by first | rfl | omega | exact (b2i_t (by omega)).symm | exact (b2i_f (by omega)).symm | (simp only [b2i]; (repeat' split) <;> first | rfl | omega | (exfalso; omega))) dX3_letter_4
set_option maxHeartbeats 4000000 in
set_option maxRecDepth 100000 in
theorem kX3_villagerRead (l : Launch) (D : va_G) (cI cV : ClassId) (o ch : Nat) (t : Nat → Int) (n pl le vr nr : Int)   : PM l yX3_villagerRead wsX3_villagerRead 0 0 [.ref (o)] (txtw cI o ch t n pl le vr nr) D cI cV (some (.int (iI (vr)))) := by
  refine PM.of (cc := cX3_villagerRead) (maxL := 1) (ret := (some .int)) (by decide) rfl (Nat.le_of_ble_eq_true rfl) ?_
  intro p e s0 m below meth c ls hx hb hr hts hown hlocks hml hP hK hl
  have hown : s0.vm.findClass RX3 = some m.cls := hown
  have hin : ∀ w ∈ u_ws RX3 TX3 6, w ∈ wsX3_villagerRead := by decide +kernel
  have hl : lv_has ls 1 [(0, .ref (o))] := hl
  refine lv_aload_n hx hb dX3_villagerRead_0 rfl (lv_at hl 0 rfl) ?_
  refine Tg4 hx hb hts hin hown hK hP (by decide +kernel) dX3_villagerRead_1 ?_
  exact p_iret hx hb hr hlocks (by first | rfl | omega | exact (b2i_t (by omega)).symm | exact (b2i_f (by omega)).symm | (simp only [b2i]; (repeat' split) <;> first | rfl | omega | (exfalso; omega))) dX3_villagerRead_4
set_option maxHeartbeats 4000000 in
set_option maxRecDepth 100000 in
theorem kX3_numberRead (l : Launch) (D : va_G) (cI cV : ClassId) (o ch : Nat) (t : Nat → Int) (n pl le vr nr : Int)   : PM l yX3_numberRead wsX3_numberRead 0 0 [.ref (o)] (txtw cI o ch t n pl le vr nr) D cI cV (some (.int (iI (nr)))) := by
  refine PM.of (cc := cX3_numberRead) (maxL := 1) (ret := (some .int)) (by decide) rfl (Nat.le_of_ble_eq_true rfl) ?_
  intro p e s0 m below meth c ls hx hb hr hts hown hlocks hml hP hK hl
  have hown : s0.vm.findClass RX3 = some m.cls := hown
  have hin : ∀ w ∈ u_ws RX3 TX3 6, w ∈ wsX3_numberRead := by decide +kernel
  have hl : lv_has ls 1 [(0, .ref (o))] := hl
  refine lv_aload_n hx hb dX3_numberRead_0 rfl (lv_at hl 0 rfl) ?_
  refine Tg5 hx hb hts hin hown hK hP (by decide +kernel) dX3_numberRead_1 ?_
  exact p_iret hx hb hr hlocks (by first | rfl | omega | exact (b2i_t (by omega)).symm | exact (b2i_f (by omega)).symm | (simp only [b2i]; (repeat' split) <;> first | rfl | omega | (exfalso; omega))) dX3_numberRead_4
set_option maxHeartbeats 4000000 in
set_option maxRecDepth 100000 in
theorem kX3_isRead (l : Launch) (D : va_G) (cI cV : ClassId) (o ch : Nat) (t : Nat → Int) (n pl le vr nr : Int)  (hbt : ∀ k, bd (t k)) (hn : 0 ≤ n ∧ n ≤ 60) (hpl : bd pl) : PM l yX3_isRead wsX3_isRead 0 0 [.ref (o)] (txtw cI o ch t n pl le vr nr) D cI cV (some (.int (iI (b2i (n ≤ pl))))) := by
  refine PM.of (cc := cX3_isRead) (maxL := 1) (ret := (some .boolean)) (by decide) rfl (Nat.le_of_ble_eq_true rfl) ?_
  intro p e s0 m below meth c ls hx hb hr hts hown hlocks hml hP hK hl
  have hown : s0.vm.findClass RX3 = some m.cls := hown
  have hin : ∀ w ∈ u_ws RX3 TX3 6, w ∈ wsX3_isRead := by decide +kernel
  have hl : lv_has ls 1 [(0, .ref (o))] := hl
  refine lv_aload_n hx hb dX3_isRead_0 rfl (lv_at hl 0 rfl) ?_
  refine Tg2 hx hb hts hin hown hK hP (by decide +kernel) dX3_isRead_1 ?_
  refine lv_aload_n hx hb dX3_isRead_4 rfl (lv_at hl 0 rfl) ?_
  refine Tg1 hx hb hts hin hown hK hP (by decide +kernel) dX3_isRead_5 ?_
  refine j_ilt (tgt := 15) hx hb (by omega) (by omega) dX3_isRead_8 (by decide) (fun c1 => ?_) (fun c1 => ?_)
  · refine j_c hx hb dX3_isRead_15 ?_
    exact p_zret hx hb hr hlocks (by first | decide | exact b2i_or) (by first | rfl | omega | exact (b2i_t (by omega)).symm | exact (b2i_f (by omega)).symm | (simp only [b2i]; (repeat' split) <;> first | rfl | omega | (exfalso; omega))) dX3_isRead_16
  · refine j_c hx hb dX3_isRead_11 ?_
    refine lv_goto (tgt := 16) hx hb dX3_isRead_12 (by decide) ?_
    exact p_zret hx hb hr hlocks (by first | decide | exact b2i_or) (by first | rfl | omega | exact (b2i_t (by omega)).symm | exact (b2i_f (by omega)).symm | (simp only [b2i]; (repeat' split) <;> first | rfl | omega | (exfalso; omega))) dX3_isRead_16
set_option maxHeartbeats 4000000 in
set_option maxRecDepth 100000 in
theorem kX3_next (l : Launch) (D : va_G) (cI cV : ClassId) (o ch : Nat) (t : Nat → Int) (n pl le vr nr : Int)  (hbt : ∀ k, bd (t k)) (hn : 0 ≤ n ∧ n ≤ 60) (hpl : bd pl) : PM l yX3_next wsX3_next 0 0 [.ref (o)] (txtw cI o ch t n pl le vr nr) D cI cV (some (.int (iI (nxt t n pl)))) := by
  refine PM.of (cc := cX3_next) (maxL := 1) (ret := (some .int)) (by decide) rfl (Nat.le_of_ble_eq_true rfl) ?_
  intro p e s0 m below meth c ls hx hb hr hts hown hlocks hml hP hK hl
  have hown : s0.vm.findClass RX3 = some m.cls := hown
  have hin : ∀ w ∈ u_ws RX3 TX3 6, w ∈ wsX3_next := by decide +kernel
  have hl : lv_has ls 1 [(0, .ref (o))] := hl
  refine lv_aload_n hx hb dX3_next_0 rfl (lv_at hl 0 rfl) ?_
  refine Tg2 hx hb hts hin hown hK hP (by decide +kernel) dX3_next_1 ?_
  refine j_zlt (tgt := 30) hx hb (by omega) dX3_next_4 (by decide) (fun c1 => ?_) (fun c1 => ?_)
  · refine j_bi hx hb dX3_next_30 rfl ?_
    exact p_iret hx hb hr hlocks (by unfold nxt; first | (rw [if_pos (by omega)]; done) | (rw [if_neg (by omega)]; done)) dX3_next_32
  · refine lv_aload_n hx hb dX3_next_7 rfl (lv_at hl 0 rfl) ?_
    refine Tg2 hx hb hts hin hown hK hP (by decide +kernel) dX3_next_8 ?_
    refine lv_aload_n hx hb dX3_next_11 rfl (lv_at hl 0 rfl) ?_
    refine Tg1 hx hb hts hin hown hK hP (by decide +kernel) dX3_next_12 ?_
    refine j_ige (tgt := 30) hx hb (by omega) (by omega) dX3_next_15 (by decide) (fun c2 => ?_) (fun c2 => ?_)
    · refine j_bi hx hb dX3_next_30 rfl ?_
      exact p_iret hx hb hr hlocks (by unfold nxt; first | (rw [if_pos (by omega)]; done) | (rw [if_neg (by omega)]; done)) dX3_next_32
    · refine lv_aload_n hx hb dX3_next_18 rfl (lv_at hl 0 rfl) ?_
      refine Tg0 hx hb hts hin hown hK hP (by decide +kernel) dX3_next_19 ?_
      refine lv_aload_n hx hb dX3_next_22 rfl (lv_at hl 0 rfl) ?_
      refine Tg2 hx hb hts hin hown hK hP (by decide +kernel) dX3_next_23 ?_
      refine Ta hx hb hK hP (by omega) dX3_next_26 ?_
      have r2_25 : bd (t pl.toNat) := hbt _
      refine lv_goto (tgt := 32) hx hb dX3_next_27 (by decide) ?_
      exact p_iret hx hb hr hlocks (by unfold nxt; first | (rw [if_pos (by omega)]; done) | (rw [if_neg (by omega)]; done)) dX3_next_32
set_option maxHeartbeats 4000000 in
set_option maxRecDepth 100000 in
theorem kX3_isDigit (l : Launch) (D : va_G) (cI cV : ClassId)  (x : Int) (r_x : rg x) : PM l yX3_isDigit wsX3_isDigit 0 0 [.int (iI (x))] (([] : va_W)) D cI cV (some (.int (iI (b2i (48 ≤ x ∧ x ≤ 57))))) := by
  refine PM.of (cc := cX3_isDigit) (maxL := 1) (ret := (some .boolean)) (by decide) rfl (Nat.le_of_ble_eq_true rfl) ?_
  intro p e s0 m below meth c ls hx hb hr hts hown hlocks hml hP hK hl
  have hown : s0.vm.findClass RX3 = some m.cls := hown
  have hl : lv_has ls 1 [(0, .int (iI (x)))] := hl
  refine lv_iload_n hx hb dX3_isDigit_0 rfl (lv_at hl 0 rfl) ?_
  refine j_bi hx hb dX3_isDigit_1 rfl ?_
  refine j_ilt (tgt := 16) hx hb (by omega) (by omega) dX3_isDigit_3 (by decide) (fun c1 => ?_) (fun c1 => ?_)
  · refine j_c hx hb dX3_isDigit_16 ?_
    exact p_zret hx hb hr hlocks (by first | decide | exact b2i_or) (by first | rfl | omega | exact (b2i_t (by omega)).symm | exact (b2i_f (by omega)).symm | (simp only [b2i]; (repeat' split) <;> first | rfl | omega | (exfalso; omega))) dX3_isDigit_17
  · refine lv_iload_n hx hb dX3_isDigit_6 rfl (lv_at hl 0 rfl) ?_
    refine j_bi hx hb dX3_isDigit_7 rfl ?_
    refine j_igt (tgt := 16) hx hb (by omega) (by omega) dX3_isDigit_9 (by decide) (fun c2 => ?_) (fun c2 => ?_)
    · refine j_c hx hb dX3_isDigit_16 ?_
      exact p_zret hx hb hr hlocks (by first | decide | exact b2i_or) (by first | rfl | omega | exact (b2i_t (by omega)).symm | exact (b2i_f (by omega)).symm | (simp only [b2i]; (repeat' split) <;> first | rfl | omega | (exfalso; omega))) dX3_isDigit_17
    · refine j_c hx hb dX3_isDigit_12 ?_
      refine lv_goto (tgt := 17) hx hb dX3_isDigit_13 (by decide) ?_
      exact p_zret hx hb hr hlocks (by first | decide | exact b2i_or) (by first | rfl | omega | exact (b2i_t (by omega)).symm | exact (b2i_f (by omega)).symm | (simp only [b2i]; (repeat' split) <;> first | rfl | omega | (exfalso; omega))) dX3_isDigit_17
set_option maxHeartbeats 4000000 in
set_option maxRecDepth 100000 in
theorem kX3_add (l : Launch) (D : va_G) (cI cV : ClassId) (o ch : Nat) (t : Nat → Int) (n pl le vr nr : Int) (x : Int) (hbt : ∀ k, bd (t k)) (hn : 0 ≤ n ∧ n ≤ 60) (r_x : rg x) : MM l yX3_add wsX3_add 0 0 [.ref (o), .int (iI (x))] (txtw cI o ch t n pl le vr nr) (txtw cI o ch (if x < 1 ∨ 255 < x then (t) else (if 60 ≤ n then (t) else (up t n.toNat x))) (if x < 1 ∨ 255 < x then (n) else (if 60 ≤ n then (n) else (n + 1))) pl le vr nr) D cI cV (some (.int (iI (if x < 1 ∨ 255 < x then (-1) else (if 60 ≤ n then (-3) else (n + 1)))))) := by
  refine MM.of (cc := cX3_add) (maxL := 2) (ret := (some .int)) (by decide) rfl (Nat.le_of_ble_eq_true rfl) ?_
  intro p e s0 m below meth c ls hx hb hr hts hown hlocks hml hW hK hl
  have hWk := hW
  have hown : s0.vm.findClass RX3 = some m.cls := hown
  have hin : ∀ w ∈ u_ws RX3 TX3 6, w ∈ wsX3_add := by decide +kernel
  have hl : lv_has ls 2 [(0, .ref (o)), (1, .int (iI (x)))] := hl
  refine lv_iload_n hx hb dX3_add_0 rfl (lv_at hl 1 rfl) ?_
  refine j_c hx hb dX3_add_1 ?_
  refine j_ilt (tgt := 12) hx hb (by omega) (by omega) dX3_add_2 (by decide) (fun c1 => ?_) (fun c1 => ?_)
  · refine j_c hx hb dX3_add_12 ?_
    exact m_iret hx hb hr hlocks hW (by (by_cases q0 : x < 1 ∨ 255 < x <;> first | (simp only [if_pos q0]; first | done | (first | rfl | ( rfl) | (exfalso; omega))) | (simp only [if_neg q0]; first | done | (by_cases q1 : 60 ≤ n <;> first | (simp only [if_pos q1]; first | done | (first | rfl | ( rfl) | (exfalso; omega))) | (simp only [if_neg q1]; first | done | (first | rfl | ( rfl) | (exfalso; omega))))))) (by (by_cases q0 : x < 1 ∨ 255 < x <;> first | (rw [if_pos q0]; first | done | (first | omega | rfl | (exfalso; omega))) | (rw [if_neg q0]; first | done | (by_cases q1 : 60 ≤ n <;> first | (rw [if_pos q1]; first | done | (first | omega | rfl | (exfalso; omega))) | (rw [if_neg q1]; first | done | (first | omega | rfl | (exfalso; omega))))))) dX3_add_13
  · refine lv_iload_n hx hb dX3_add_5 rfl (lv_at hl 1 rfl) ?_
    refine j_si hx hb dX3_add_6 rfl ?_
    refine j_ile (tgt := 14) hx hb (by omega) (by omega) dX3_add_9 (by decide) (fun c2 => ?_) (fun c2 => ?_)
    · refine lv_aload_n hx hb dX3_add_14 rfl (lv_at hl 0 rfl) ?_
      refine Tg1 hx hb hts hin hown hK hW.1 (by decide +kernel) dX3_add_15 ?_
      refine j_bi hx hb dX3_add_18 rfl ?_
      refine j_ilt (tgt := 26) hx hb (by omega) (by omega) dX3_add_20 (by decide) (fun c3 => ?_) (fun c3 => ?_)
      · refine lv_aload_n hx hb dX3_add_26 rfl (lv_at hl 0 rfl) ?_
        refine Tg0 hx hb hts hin hown hK hW.1 (by decide +kernel) dX3_add_27 ?_
        refine lv_aload_n hx hb dX3_add_30 rfl (lv_at hl 0 rfl) ?_
        refine Tg1 hx hb hts hin hown hK hW.1 (by decide +kernel) dX3_add_31 ?_
        refine lv_iload_n hx hb dX3_add_34 rfl (lv_at hl 1 rfl) ?_
        refine Tw hx hb hK hW (by omega) dX3_add_35 (fun H locs hW => ?_)
        obtain ⟨t_1, et_1⟩ : ∃ zz_, zz_ = up t (n.toNat) (x) := ⟨_, rfl⟩
        rw [← et_1] at hW
        refine lv_aload_n hx hb dX3_add_36 rfl (lv_at hl 0 rfl) ?_
        refine lv_dup hx hb dX3_add_37 rfl ?_
        refine Tg1 hx hb hts hin hown hK hW.1 (by decide +kernel) dX3_add_38 ?_
        refine j_c hx hb dX3_add_41 ?_
        refine j_add hx hb dX3_add_42 ?_
        refine Tp1 hx hb hts hin hown hK hW (by decide +kernel) dX3_add_43 (fun H locs hW => ?_)
        refine lv_aload_n hx hb dX3_add_46 rfl (lv_at hl 0 rfl) ?_
        refine Tg1 hx hb hts hin hown hK hW.1 (by decide +kernel) dX3_add_47 ?_
        exact m_iret hx hb hr hlocks hW (by (by_cases q0 : x < 1 ∨ 255 < x <;> first | (simp only [if_pos q0]; first | done | (first | rfl | (subst et_1; rfl) | (exfalso; omega))) | (simp only [if_neg q0]; first | done | (by_cases q1 : 60 ≤ n <;> first | (simp only [if_pos q1]; first | done | (first | rfl | (subst et_1; rfl) | (exfalso; omega))) | (simp only [if_neg q1]; first | done | (first | rfl | (subst et_1; rfl) | (exfalso; omega))))))) (by (by_cases q0 : x < 1 ∨ 255 < x <;> first | (rw [if_pos q0]; first | done | (first | omega | rfl | (exfalso; omega))) | (rw [if_neg q0]; first | done | (by_cases q1 : 60 ≤ n <;> first | (rw [if_pos q1]; first | done | (first | omega | rfl | (exfalso; omega))) | (rw [if_neg q1]; first | done | (first | omega | rfl | (exfalso; omega))))))) dX3_add_50
      · refine j_bi hx hb dX3_add_23 rfl ?_
        exact m_iret hx hb hr hlocks hW (by (by_cases q0 : x < 1 ∨ 255 < x <;> first | (simp only [if_pos q0]; first | done | (first | rfl | ( rfl) | (exfalso; omega))) | (simp only [if_neg q0]; first | done | (by_cases q1 : 60 ≤ n <;> first | (simp only [if_pos q1]; first | done | (first | rfl | ( rfl) | (exfalso; omega))) | (simp only [if_neg q1]; first | done | (first | rfl | ( rfl) | (exfalso; omega))))))) (by (by_cases q0 : x < 1 ∨ 255 < x <;> first | (rw [if_pos q0]; first | done | (first | omega | rfl | (exfalso; omega))) | (rw [if_neg q0]; first | done | (by_cases q1 : 60 ≤ n <;> first | (rw [if_pos q1]; first | done | (first | omega | rfl | (exfalso; omega))) | (rw [if_neg q1]; first | done | (first | omega | rfl | (exfalso; omega))))))) dX3_add_25
    · refine j_c hx hb dX3_add_12 ?_
      exact m_iret hx hb hr hlocks hW (by (by_cases q0 : x < 1 ∨ 255 < x <;> first | (simp only [if_pos q0]; first | done | (first | rfl | ( rfl) | (exfalso; omega))) | (simp only [if_neg q0]; first | done | (by_cases q1 : 60 ≤ n <;> first | (simp only [if_pos q1]; first | done | (first | rfl | ( rfl) | (exfalso; omega))) | (simp only [if_neg q1]; first | done | (first | rfl | ( rfl) | (exfalso; omega))))))) (by (by_cases q0 : x < 1 ∨ 255 < x <;> first | (rw [if_pos q0]; first | done | (first | omega | rfl | (exfalso; omega))) | (rw [if_neg q0]; first | done | (by_cases q1 : 60 ≤ n <;> first | (rw [if_pos q1]; first | done | (first | omega | rfl | (exfalso; omega))) | (rw [if_neg q1]; first | done | (first | omega | rfl | (exfalso; omega))))))) dX3_add_13
set_option maxHeartbeats 4000000 in
set_option maxRecDepth 100000 in
theorem kX3_clear (l : Launch) (D : va_G) (cI cV : ClassId) (o ch : Nat) (t : Nat → Int) (n pl le vr nr : Int)  (hbt : ∀ k, bd (t k)) (hn : 0 ≤ n ∧ n ≤ 60) : MM l yX3_clear wsX3_clear 0 0 [.ref (o)] (txtw cI o ch t n pl le vr nr) (txtw cI o ch t 0 pl le vr nr) D cI cV (some (.int (iI (n)))) := by
  refine MM.of (cc := cX3_clear) (maxL := 2) (ret := (some .int)) (by decide) rfl (Nat.le_of_ble_eq_true rfl) ?_
  intro p e s0 m below meth c ls hx hb hr hts hown hlocks hml hW hK hl
  have hWk := hW
  have hown : s0.vm.findClass RX3 = some m.cls := hown
  have hin : ∀ w ∈ u_ws RX3 TX3 6, w ∈ wsX3_clear := by decide +kernel
  have hl : lv_has ls 2 [(0, .ref (o))] := hl
  refine lv_aload_n hx hb dX3_clear_0 rfl (lv_at hl 0 rfl) ?_
  refine Tg1 hx hb hts hin hown hK hW.1 (by decide +kernel) dX3_clear_1 ?_
  refine lv_istore_n (lv' := [(1, .int (iI (n))), (0, .ref (o))]) hx hb dX3_clear_4 rfl hl (by decide) rfl (fun ls hl => ?_)
  refine lv_aload_n hx hb dX3_clear_5 rfl (lv_at hl 1 rfl) ?_
  refine j_c hx hb dX3_clear_6 ?_
  refine Tp1 hx hb hts hin hown hK hW (by decide +kernel) dX3_clear_7 (fun H locs hW => ?_)
  refine lv_iload_n hx hb dX3_clear_10 rfl (lv_at hl 0 rfl) ?_
  exact m_iret hx hb hr hlocks hW (by first | rfl | ( rfl) | (exfalso; omega)) (by first | rfl | omega | exact (b2i_t (by omega)).symm | exact (b2i_f (by omega)).symm | (simp only [b2i]; (repeat' split) <;> first | rfl | omega | (exfalso; omega))) dX3_clear_11
set_option maxHeartbeats 4000000 in
set_option maxRecDepth 100000 in
theorem kX3_rewind (l : Launch) (D : va_G) (cI cV : ClassId) (o ch : Nat) (t : Nat → Int) (n pl le vr nr : Int)  (hbt : ∀ k, bd (t k)) (hn : 0 ≤ n ∧ n ≤ 60) : MM l yX3_rewind wsX3_rewind 0 0 [.ref (o)] (txtw cI o ch t n pl le vr nr) (txtw cI o ch t n 0 le vr nr) D cI cV (none) := by
  refine MM.of (cc := cX3_rewind) (maxL := 1) (ret := none) (by decide) rfl (Nat.le_of_ble_eq_true rfl) ?_
  intro p e s0 m below meth c ls hx hb hr hts hown hlocks hml hW hK hl
  have hWk := hW
  have hown : s0.vm.findClass RX3 = some m.cls := hown
  have hin : ∀ w ∈ u_ws RX3 TX3 6, w ∈ wsX3_rewind := by decide +kernel
  have hl : lv_has ls 1 [(0, .ref (o))] := hl
  refine lv_aload_n hx hb dX3_rewind_0 rfl (lv_at hl 0 rfl) ?_
  refine j_c hx hb dX3_rewind_1 ?_
  refine Tp2 hx hb hts hin hown hK hW (by decide +kernel) dX3_rewind_2 (fun H locs hW => ?_)
  exact m_vret hx hb hr hlocks hW (by first | rfl | ( rfl) | (exfalso; omega)) dX3_rewind_5
set_option maxHeartbeats 4000000 in
set_option maxRecDepth 100000 in
theorem kX3_readSign (l : Launch) (D : va_G) (cI cV : ClassId) (o ch : Nat) (t : Nat → Int) (n pl le vr nr : Int) (x : Int) (hbt : ∀ k, bd (t k)) (hn : 0 ≤ n ∧ n ≤ 60) (r_x : rg x) (hpl : bd pl) : MM l yX3_readSign wsX3_readSign 1 20 [.ref (o), .int (iI (x))] (txtw cI o ch t n pl le vr nr) (txtw cI o ch t n (if nxt t n pl ≠ x then (pl) else (pl + 1)) le vr nr) D cI cV (some (.int (iI (b2i (nxt t n pl = x))))) := by
  refine MM.of (cc := cX3_readSign) (maxL := 2) (ret := (some .boolean)) (by decide) rfl (Nat.le_of_ble_eq_true rfl) ?_
  intro p e s0 m below meth c ls hx hb hr hts hown hlocks hml hW hK hl
  have hWk := hW
  have hown : s0.vm.findClass RX3 = some m.cls := hown
  have hin : ∀ w ∈ u_ws RX3 TX3 6, w ∈ wsX3_readSign := by decide +kernel
  have hl : lv_has ls 2 [(0, .ref (o)), (1, .int (iI (x)))] := hl
  refine lv_aload_n hx hb dX3_readSign_0 rfl (lv_at hl 0 rfl) ?_
  refine p_callV (v := .int (iI (nxt t n pl))) (ci := 3) (n := 0) (As := []) (rest := []) ⟨hx, hb, hml, hown, hts⟩ hK (kX3_next l D cI cV o ch t n pl le vr nr hbt (by omega) (by omega)) hW.1 rfl rfl gX3_readSign_X3_next rfl (by decide +kernel) ⟨Nat.le_of_ble_eq_true rfl, Nat.le_of_ble_eq_true rfl⟩ rfl hl.1 (Nat.le_of_ble_eq_true rfl) dX3_readSign_1 ⟨Nat.zero_le _, Nat.zero_le _⟩ rfl ?_
  have fn := nxt_bd (n := n) (pl := pl) hbt
  refine lv_iload_n hx hb dX3_readSign_4 rfl (lv_at hl 1 rfl) ?_
  refine j_ieq (tgt := 10) hx hb (by omega) (by omega) dX3_readSign_5 (by decide) (fun c1 => ?_) (fun c1 => ?_)
  · refine lv_aload_n hx hb dX3_readSign_10 rfl (lv_at hl 0 rfl) ?_
    refine lv_dup hx hb dX3_readSign_11 rfl ?_
    refine Tg2 hx hb hts hin hown hK hW.1 (by decide +kernel) dX3_readSign_12 ?_
    refine j_c hx hb dX3_readSign_15 ?_
    refine j_add hx hb dX3_readSign_16 ?_
    refine Tp2 hx hb hts hin hown hK hW (by decide +kernel) dX3_readSign_17 (fun H locs hW => ?_)
    refine j_c hx hb dX3_readSign_20 ?_
    exact m_zret hx hb hr hlocks hW (by (by_cases q0 : nxt t n pl ≠ x <;> first | (simp only [if_pos q0]; first | done | (first | rfl | ( rfl) | (exfalso; omega))) | (simp only [if_neg q0]; first | done | (first | rfl | ( rfl) | (exfalso; omega))))) (by first | decide | exact b2i_or) (by first | rfl | omega | exact (b2i_t (by omega)).symm | exact (b2i_f (by omega)).symm | (simp only [b2i]; (repeat' split) <;> first | rfl | omega | (exfalso; omega))) dX3_readSign_21
  · refine j_c hx hb dX3_readSign_8 ?_
    exact m_zret hx hb hr hlocks hW (by (by_cases q0 : nxt t n pl ≠ x <;> first | (simp only [if_pos q0]; first | done | (first | rfl | ( rfl) | (exfalso; omega))) | (simp only [if_neg q0]; first | done | (first | rfl | ( rfl) | (exfalso; omega))))) (by first | decide | exact b2i_or) (by first | rfl | omega | exact (b2i_t (by omega)).symm | exact (b2i_f (by omega)).symm | (simp only [b2i]; (repeat' split) <;> first | rfl | omega | (exfalso; omega))) dX3_readSign_9
set_option maxHeartbeats 4000000 in
set_option maxRecDepth 100000 in
theorem kX3_readNumber (l : Launch) (D : va_G) (cI cV : ClassId) (o ch : Nat) (t : Nat → Int) (n pl le vr nr : Int)  (hbt : ∀ k, bd (t k)) (hn : 0 ≤ n ∧ n ≤ 60) (hpl : 0 ≤ pl ∧ pl ≤ 1000) : MM l yX3_readNumber wsX3_readNumber 1 20 [.ref (o)] (txtw cI o ch t n pl le vr nr) (txtw cI o ch t n ((rdN t n pl).2) le vr nr) D cI cV (some (.int (iI ((rdN t n pl).1)))) := by
  refine MM.of (cc := cX3_readNumber) (maxL := 3) (ret := (some .int)) (by decide) rfl (Nat.le_of_ble_eq_true rfl) ?_
  intro p e s0 m below meth c ls hx hb hr hts hown hlocks hml hW hK hl
  have hWk := hW
  have hown : s0.vm.findClass RX3 = some m.cls := hown
  have hin : ∀ w ∈ u_ws RX3 TX3 6, w ∈ wsX3_readNumber := by decide +kernel
  have hl : lv_has ls 3 [(0, .ref (o))] := hl
  refine lv_aload_n hx hb dX3_readNumber_0 rfl (lv_at hl 0 rfl) ?_
  refine p_callV (v := .int (iI (nxt t n pl))) (ci := 3) (n := 0) (As := []) (rest := []) ⟨hx, hb, hml, hown, hts⟩ hK (kX3_next l D cI cV o ch t n pl le vr nr hbt (by omega) (by omega)) hW.1 rfl rfl gX3_readNumber_X3_next rfl (by decide +kernel) ⟨Nat.le_of_ble_eq_true rfl, Nat.le_of_ble_eq_true rfl⟩ rfl hl.1 (Nat.le_of_ble_eq_true rfl) dX3_readNumber_1 ⟨Nat.zero_le _, Nat.zero_le _⟩ rfl ?_
  have fn := nxt_bd (n := n) (pl := pl) hbt
  refine p_callS (v := .int (iI (b2i (48 ≤ (nxt t n pl) ∧ (nxt t n pl) ≤ 57)))) (n := 1) (w := []) (As := [.int (iI (nxt t n pl))]) (rest := []) ⟨hx, hb, hml, hown, hts⟩ hK (kX3_isDigit l D cI cV (nxt t n pl) (by omega)) (fun k q h => by simp at h) gX3_readNumber_X3_isDigit rfl (by decide +kernel) ⟨Nat.le_of_ble_eq_true rfl, Nat.le_of_ble_eq_true rfl⟩ rfl hl.1 (Nat.le_of_ble_eq_true rfl) dX3_readNumber_4 ⟨Nat.zero_le _, Nat.zero_le _⟩ rfl ?_
  refine j_bne (tgt := 13) hx hb dX3_readNumber_7 (by decide) (fun c1 => ?_) (fun c1 => ?_)
  · refine lv_aload_n hx hb dX3_readNumber_13 rfl (lv_at hl 0 rfl) ?_
    refine p_callV (v := .int (iI (nxt t n pl))) (ci := 3) (n := 0) (As := []) (rest := []) ⟨hx, hb, hml, hown, hts⟩ hK (kX3_next l D cI cV o ch t n pl le vr nr hbt (by omega) (by omega)) hW.1 rfl rfl gX3_readNumber_X3_next rfl (by decide +kernel) ⟨Nat.le_of_ble_eq_true rfl, Nat.le_of_ble_eq_true rfl⟩ rfl hl.1 (Nat.le_of_ble_eq_true rfl) dX3_readNumber_14 ⟨Nat.zero_le _, Nat.zero_le _⟩ rfl ?_
    have fn := nxt_bd (n := n) (pl := pl) hbt
    refine j_bi hx hb dX3_readNumber_17 rfl ?_
    refine j_sub hx hb dX3_readNumber_19 ?_
    refine lv_istore_n (lv' := [(1, .int (iI ((nxt t n pl) - 48))), (0, .ref (o))]) hx hb dX3_readNumber_20 rfl hl (by decide) rfl (fun ls hl => ?_)
    refine lv_aload_n hx hb dX3_readNumber_21 rfl (lv_at hl 1 rfl) ?_
    refine lv_dup hx hb dX3_readNumber_22 rfl ?_
    refine Tg2 hx hb hts hin hown hK hW.1 (by decide +kernel) dX3_readNumber_23 ?_
    refine j_c hx hb dX3_readNumber_26 ?_
    refine j_add hx hb dX3_readNumber_27 ?_
    refine Tp2 hx hb hts hin hown hK hW (by decide +kernel) dX3_readNumber_28 (fun H locs hW => ?_)
    refine j_c hx hb dX3_readNumber_31 ?_
    refine lv_istore_n (lv' := [(2, .int (iI (1))), (1, .int (iI ((nxt t n pl) - 48))), (0, .ref (o))]) hx hb dX3_readNumber_32 rfl hl (by decide) rfl (fun ls hl => ?_)
    have LP33 : ∀ (fu : Nat) (j : Nat) (v : Int) (q : Int) (x2 : Int), x2 = (j : Int) → ((1 ≤ j ∧ j ≤ 3) ∧ (0 ≤ v ∧ v ≤ 999 ∧ (j = 1 → v ≤ 9) ∧ (j = 2 → v ≤ 99)) ∧ (pl ≤ q ∧ q ≤ pl + j) ∧ rdN t n pl = rdL t n (3 - j) v q) → 3 - j < fu → ∀ (H : Heap) (locs : List Loc), Wd D (ad (txtw cI o ch t n pl le vr nr)) (txtw cI o ch t n q le vr nr) s0.heap H locs → ∀ ls : Array Slot, lv_has ls 3 [(2, .int (iI (x2))), (1, .int (iI (v))), (0, .ref (o))] → W p l e (headSpec wsX3_readNumber (rmK 1 20)).room s0 m ([.ref (o)] : List Value).toArray below meth c H locs 0 0 (MQ below (mQ D (some (.int (iI ((rdN t n pl).1)))) (txtw cI o ch t n ((rdN t n pl).2) le vr nr) (ad (txtw cI o ch t n pl le vr nr))) ([.ref (o)] : List Value).toArray s0 0 0 (ad (txtw cI o ch t n pl le vr nr))) (F0 m 33 ls []) := by
      intro fu
      induction fu with
      | zero =>
        intros
        omega
      | succ fu ih =>
        intro j v q x2 ex2 hinv hmeas H locs hW ls hl
        subst ex2
        refine lv_iload_n hx hb dX3_readNumber_33 rfl (lv_at hl 0 rfl) ?_
        refine j_c hx hb dX3_readNumber_34 ?_
        refine j_ige (tgt := 81) hx hb (by omega) (by omega) dX3_readNumber_35 (by decide) (fun c2 => ?_) (fun c2 => ?_)
        · refine lv_iload_n hx hb dX3_readNumber_81 rfl (lv_at hl 1 rfl) ?_
          exact m_iret hx hb hr hlocks hW (by first | (unfold rdN; rw [if_neg (by omega)]; done) | (rw [hinv.2.2.2, show 3 - j = 0 from by omega]; rfl) | (rw [hinv.2.2.2, rdL_stop (by omega)]; done) | (rw [hinv.2.2.2, rdL_stop (by omega)]; rfl)) (by first | (rw [hinv.2.2.2, show 3 - j = 0 from by omega]; done) | (rw [hinv.2.2.2, show 3 - j = 0 from by omega]; rfl) | rw [hinv.2.2.2, rdL_stop (by omega)]) dX3_readNumber_82
        · refine lv_iload_n hx hb dX3_readNumber_38 rfl (lv_at hl 1 rfl) ?_
          refine j_zeq (tgt := 81) hx hb (by omega) dX3_readNumber_39 (by decide) (fun c3 => ?_) (fun c3 => ?_)
          · refine lv_iload_n hx hb dX3_readNumber_81 rfl (lv_at hl 1 rfl) ?_
            exact m_iret hx hb hr hlocks hW (by first | (unfold rdN; rw [if_neg (by omega)]; done) | (rw [hinv.2.2.2, show 3 - j = 0 from by omega]; rfl) | (rw [hinv.2.2.2, rdL_stop (by omega)]; done) | (rw [hinv.2.2.2, rdL_stop (by omega)]; rfl)) (by first | (rw [hinv.2.2.2, show 3 - j = 0 from by omega]; done) | (rw [hinv.2.2.2, show 3 - j = 0 from by omega]; rfl) | rw [hinv.2.2.2, rdL_stop (by omega)]) dX3_readNumber_82
          · refine lv_aload_n hx hb dX3_readNumber_42 rfl (lv_at hl 2 rfl) ?_
            refine p_callV (v := .int (iI (nxt t n q))) (ci := 3) (n := 0) (As := []) (rest := []) ⟨hx, hb, hml, hown, hts⟩ hK (kX3_next l D cI cV o ch t n q le vr nr hbt (by omega) (by omega)) hW.1 rfl rfl gX3_readNumber_X3_next rfl (by decide +kernel) ⟨Nat.le_of_ble_eq_true rfl, Nat.le_of_ble_eq_true rfl⟩ rfl hl.1 (Nat.le_of_ble_eq_true rfl) dX3_readNumber_43 ⟨Nat.zero_le _, Nat.zero_le _⟩ rfl ?_
            have fn := nxt_bd (n := n) (pl := q) hbt
            refine p_callS (v := .int (iI (b2i (48 ≤ (nxt t n q) ∧ (nxt t n q) ≤ 57)))) (n := 1) (w := []) (As := [.int (iI (nxt t n q))]) (rest := []) ⟨hx, hb, hml, hown, hts⟩ hK (kX3_isDigit l D cI cV (nxt t n q) (by omega)) (fun k q h => by simp at h) gX3_readNumber_X3_isDigit rfl (by decide +kernel) ⟨Nat.le_of_ble_eq_true rfl, Nat.le_of_ble_eq_true rfl⟩ rfl hl.1 (Nat.le_of_ble_eq_true rfl) dX3_readNumber_46 ⟨Nat.zero_le _, Nat.zero_le _⟩ rfl ?_
            refine j_beq (tgt := 81) hx hb dX3_readNumber_49 (by decide) (fun c4 => ?_) (fun c4 => ?_)
            · refine lv_iload_n hx hb dX3_readNumber_81 rfl (lv_at hl 1 rfl) ?_
              exact m_iret hx hb hr hlocks hW (by first | (unfold rdN; rw [if_neg (by omega)]; done) | (rw [hinv.2.2.2, show 3 - j = 0 from by omega]; rfl) | (rw [hinv.2.2.2, rdL_stop (by omega)]; done) | (rw [hinv.2.2.2, rdL_stop (by omega)]; rfl)) (by first | (rw [hinv.2.2.2, show 3 - j = 0 from by omega]; done) | (rw [hinv.2.2.2, show 3 - j = 0 from by omega]; rfl) | rw [hinv.2.2.2, rdL_stop (by omega)]) dX3_readNumber_82
            · refine lv_iload_n hx hb dX3_readNumber_52 rfl (lv_at hl 1 rfl) ?_
              refine j_bi hx hb dX3_readNumber_53 rfl ?_
              refine j_mul hx hb dX3_readNumber_55 ?_
              refine lv_aload_n hx hb dX3_readNumber_56 rfl (lv_at hl 2 rfl) ?_
              refine p_callV (v := .int (iI (nxt t n q))) (ci := 3) (n := 0) (As := []) (rest := [.int (iI (v * 10))]) ⟨hx, hb, hml, hown, hts⟩ hK (kX3_next l D cI cV o ch t n q le vr nr hbt (by omega) (by omega)) hW.1 rfl rfl gX3_readNumber_X3_next rfl (by decide +kernel) ⟨Nat.le_of_ble_eq_true rfl, Nat.le_of_ble_eq_true rfl⟩ rfl hl.1 (Nat.le_of_ble_eq_true rfl) dX3_readNumber_57 ⟨Nat.zero_le _, Nat.zero_le _⟩ rfl ?_
              have fn := nxt_bd (n := n) (pl := q) hbt
              refine j_add hx hb dX3_readNumber_60 ?_
              refine j_bi hx hb dX3_readNumber_61 rfl ?_
              refine j_sub hx hb dX3_readNumber_63 ?_
              refine lv_istore_n (lv' := [(1, .int (iI (((v * 10) + (nxt t n q)) - 48))), (2, .int (iI ((j : Int)))), (0, .ref (o))]) hx hb dX3_readNumber_64 rfl hl (by decide) rfl (fun ls hl => ?_)
              refine lv_aload_n hx hb dX3_readNumber_65 rfl (lv_at hl 2 rfl) ?_
              refine lv_dup hx hb dX3_readNumber_66 rfl ?_
              refine Tg2 hx hb hts hin hown hK hW.1 (by decide +kernel) dX3_readNumber_67 ?_
              refine j_c hx hb dX3_readNumber_70 ?_
              refine j_add hx hb dX3_readNumber_71 ?_
              refine Tp2 hx hb hts hin hown hK hW (by decide +kernel) dX3_readNumber_72 (fun H locs hW => ?_)
              refine lv_iinc (v := iI ((j : Int) + 1)) (lv' := [(2, .int (iI ((j : Int) + 1))), (1, .int (iI (((v * 10) + (nxt t n q)) - 48))), (0, .ref (o))]) hx hb dX3_readNumber_75 hl (k := 1) rfl (iI_add _ _) (by decide) rfl (fun ls hl => ?_)
              refine lv_goto (tgt := 33) hx hb dX3_readNumber_78 (by decide) ?_
              exact ih (j + 1) (((v * 10) + (nxt t n q)) - 48) (q + 1) ((j : Int) + 1) (by first | rfl | omega | (simp only [sm, b2i]; (repeat' split) <;> first | rfl | omega | (exfalso; omega) | (exfalso; simp_all))) (by exact ⟨by omega, by omega, by omega, by rw [hinv.2.2.2, show 3 - j = 3 - (j + 1) + 1 from by omega, rdL_go (by omega)]⟩) (by omega) _ _ (hW) ls (lv_sub hl [0, 1, 2] rfl)
    exact LP33 (_) 1 (nxt t n pl - 48) (pl + 1) 1 (by first | rfl | omega) (by exact ⟨by omega, by omega, by omega, by unfold rdN; rw [if_pos (by omega)]⟩) (by exact Nat.lt_succ_self _) _ _ (hW) ls (lv_sub hl [0, 1, 2] rfl)
  · refine j_bi hx hb dX3_readNumber_10 rfl ?_
    exact m_iret hx hb hr hlocks hW (by first | (unfold rdN; rw [if_neg (by omega)]; done) | (rw [hinv.2.2.2, show 3 - j = 0 from by omega]; rfl) | (rw [hinv.2.2.2, rdL_stop (by omega)]; done) | (rw [hinv.2.2.2, rdL_stop (by omega)]; rfl)) (by unfold rdN; rw [if_neg (by omega)]) dX3_readNumber_12
