theorem VI_nw {s nw : Nat → Int} {nz v : Int} {k : Nat} (h : VI s nz nw) (hv : bd v) : VI s nz (up nw k v) := ⟨h.1, fun j => by unfold up; split; exact hv; exact h.2.1 j, h.2.2⟩
theorem VI_ex {s t nw : Nat → Int} {nz : Int} (h : VI s nz nw) (hb : ∀ k, bd (t k)) (h0 : t 0 = s 0) (h1 : t 1 = s 1) (h3 : t 3 = s 3 ∨ t 3 = s 3 + 1 ∧ s 3 < 60) (h4 : t 4 = s 4) (h6 : 0 ≤ t 6 ∧ t 6 < 65536) (h7 : t 7 = s 7 ∨ t 7 = s 7 + 1 ∧ s 7 < 60) : VI t nz nw := by
  obtain ⟨-, hn, h⟩ := h
  exact ⟨hb, hn, by omega⟩
theorem bd_up {t : Nat → Int} {k : Nat} {x : Int} (h : ∀ j, bd (t j)) (hx : bd x) : ∀ j, bd (up t k x j) := fun j => by
  unfold up
  split
  · exact hx
  · exact h j
theorem wrS_ne {s : Nat → Int} {x y z : Int} {j : Nat} (h : j ≠ 6 ∧ j ≠ 7 ∧ j < 222) : wrS s x y z j = s j := lotOnly_wr j h
theorem wrS_7 {s : Nat → Int} {x y z : Int} : wrS s x y z 7 = s 7 + 1 := by unfold wrS; rw [up_ne (by omega), up_at rfl]
theorem wrS_6 {s : Nat → Int} {x y z : Int} : wrS s x y z 6 = (s 6 * 25173 + 13849) % 65536 := by unfold wrS; rw [up_at rfl]
theorem VI_wr {s nw : Nat → Int} {nz x y z : Int} (h : VI s nz nw) (h7 : s 7 < 60) (hx : bd x) (hy : bd y) (hz : bd z) : VI (wrS s x y z) nz nw := by
  have hb := h.1
  have h6 := h.2.2
  refine VI_ex h ?_ (wrS_ne (by omega)) (wrS_ne (by omega)) (Or.inl (wrS_ne (by omega))) (wrS_ne (by omega)) (by rw [wrS_6]; omega) (Or.inr ⟨wrS_7, h7⟩)
  unfold wrS
  have b7 := hb 7
  exact bd_up (bd_up (bd_up (bd_up (bd_up (bd_up (bd_up hb (hb 6)) hx) hy) hy) hz) (by omega)) (by omega)
theorem addS_ne {s : Nat → Int} {x y : Int} {j : Nat} (h : j ≠ 3 ∧ j < 20) : addS s x y j = s j := by
  unfold addS
  rw [up_ne (by omega), up_ne (by omega), up_ne (by omega), up_ne (by omega), up_ne (by omega)]
theorem addS_3 {s : Nat → Int} {x y : Int} : addS s x y 3 = s 3 + 1 := by
  unfold addS
  rw [up_ne (by omega), up_at rfl]
theorem VI_add {s nw : Nat → Int} {nz x y : Int} (h : VI s nz nw) (h3 : s 3 < 60) (hx : bd x) (hy : bd y) : VI (addS s x y) nz nw := by
  have hb := h.1
  have hq := h.2.2
  refine VI_ex h ?_ (addS_ne (by omega)) (addS_ne (by omega)) (Or.inr ⟨addS_3, h3⟩) (addS_ne (by omega)) (by rw [addS_ne (by omega)]; omega) (Or.inl (addS_ne (by omega)))
  unfold addS
  exact bd_up (bd_up (bd_up (bd_up (bd_up hb hy) (hb 2)) hx) (by omega)) (by omega)
theorem pick_rg {f : Nat → Int} {p : Int} : ∀ n, -9 ≤ pick f p n ∧ (pick f p n < n ∨ pick f p n = -9) ∧ (pick f p n = -9 ∨ 0 ≤ pick f p n)
  | 0 => ⟨by simp [pick], by simp [pick], by simp [pick]⟩
  | n + 1 => by
    have := pick_rg (f := f) (p := p) n
    simp only [pick]
    split
    · omega
    · split <;> omega
theorem drawn_rg {q c : Int} {f : Nat → Int} {p : Int} {n : Nat} (hq : q = if c ≤ 0 then -9 else pick f p n) : -9 ≤ q ∧ (q = -9 ∨ 0 ≤ q ∧ q < n) := by
  have := pick_rg (f := f) (p := p) n
  rw [hq]
  split <;> omega
set_option maxHeartbeats 4000000 in
set_option maxRecDepth 100000 in
theorem kX4_proposeEntry (l : Launch) (D : va_G) (cI cV : ClassId) (a : Nat → Nat) (s : Nat → Int) (nz : Int) (nw : Nat → Int) (x : Int) (y : Int) (hV : VI s nz nw) (r_x : rg x) (r_y : rg y) (h24 : s 2 ≤ s 4) : MM l yX4_proposeEntry wsX4_proposeEntry 5 122 [.ref (a 0), .int (iI (x)), .int (iI (y))] (vilw cI a s nz nw) (vilw cI a (if ¬ (0 ≤ x ∧ x < s 0) ∨ y < 0 ∨ 999 < y then (s) else (if ¬ (((seatF (fun i => s (32 + i)) (x) (s 1).toNat ≠ -9) ∨ (seatF nw (x) nz.toNat ≠ -9)) ∧ ((0 ≤ (x) ∧ (x) < s 0) ∧ s (8 + (x).toNat) = 1)) ∨ s (20 + x.toNat) < s 3 then (s) else (if 60 ≤ s 3 then (s) else (agS nz nw ((addS s x y) 3 - (addS s x y) 4).toNat (addS s x y))))) nz nw) D cI cV (some (.int (iI (if ¬ (0 ≤ x ∧ x < s 0) ∨ y < 0 ∨ 999 < y then (-1) else (if ¬ (((seatF (fun i => s (32 + i)) (x) (s 1).toNat ≠ -9) ∨ (seatF nw (x) nz.toNat ≠ -9)) ∧ ((0 ≤ (x) ∧ (x) < s 0) ∧ s (8 + (x).toNat) = 1)) ∨ s (20 + x.toNat) < s 3 then (-2) else (if 60 ≤ s 3 then (-3) else ((agS nz nw ((addS s x y) 3 - (addS s x y) 4).toNat (addS s x y)) 3 - 1))))))) := by
  refine MM.of (cc := cX4_proposeEntry) (maxL := 3) (ret := (some .int)) (by decide) rfl (Nat.le_of_ble_eq_true rfl) ?_
  intro p e s0 m below meth c ls hx hb hr hts hown hlocks hml hW hK hl
  have hWk := hW
  have hown : s0.vm.findClass RX4 = some m.cls := hown
  have hin : ∀ w ∈ u_ws RX4 TX4 13, w ∈ wsX4_proposeEntry := by decide +kernel
  have hl : lv_has ls 3 [(0, .ref (a 0)), (1, .int (iI (x))), (2, .int (iI (y)))] := hl
  obtain ⟨hbs, hbn, h00, h01, h10, h11, hz0, hz1, h30, h31, h40, h41, h70, h71, h60, h61⟩ := id hV
  have hb5 := hbs 5
  have hb2 := hbs 2
  refine lv_aload_n hx hb dX4_proposeEntry_0 rfl (lv_at hl 0 rfl) ?_
  refine lv_iload_n hx hb dX4_proposeEntry_1 rfl (lv_at hl 1 rfl) ?_
  refine p_callV (v := .int (iI (b2i (0 ≤ (x) ∧ (x) < s 0)))) (ci := 4) (n := 1) (As := [.int (iI (x))]) (rest := []) ⟨hx, hb, hml, hown, hts⟩ hK (kX4_isVillager l D cI cV a s nz nw x hV (by omega)) hW.1 rfl rfl gX4_proposeEntry_X4_isVillager rfl (by decide +kernel) ⟨Nat.le_of_ble_eq_true rfl, Nat.le_of_ble_eq_true rfl⟩ rfl hl.1 (Nat.le_of_ble_eq_true rfl) dX4_proposeEntry_2 ⟨Nat.zero_le _, Nat.zero_le _⟩ rfl ?_
  refine j_beq (tgt := 19) hx hb dX4_proposeEntry_5 (by decide) (fun c1 => ?_) (fun c1 => ?_)
  · refine j_c hx hb dX4_proposeEntry_19 ?_
    exact m_iret hx hb hr hlocks hW (by (by_cases q0 : ¬ (0 ≤ x ∧ x < s 0) ∨ y < 0 ∨ 999 < y <;> first | (simp only [if_pos q0]; first | done | (first | rfl | ( rfl) | (exfalso; omega))) | (simp only [if_neg q0]; first | done | (by_cases q1 : ¬ (((seatF (fun i => s (32 + i)) (x) (s 1).toNat ≠ -9) ∨ (seatF nw (x) nz.toNat ≠ -9)) ∧ ((0 ≤ (x) ∧ (x) < s 0) ∧ s (8 + (x).toNat) = 1)) ∨ s (20 + x.toNat) < s 3 <;> first | (simp only [if_pos q1]; first | done | (first | rfl | ( rfl) | (exfalso; omega))) | (simp only [if_neg q1]; first | done | (by_cases q2 : 60 ≤ s 3 <;> first | (simp only [if_pos q2]; first | done | (first | rfl | ( rfl) | (exfalso; omega))) | (simp only [if_neg q2]; first | done | (first | rfl | ( rfl) | (exfalso; omega))))))))) (by (by_cases q0 : ¬ (0 ≤ x ∧ x < s 0) ∨ y < 0 ∨ 999 < y <;> first | (rw [if_pos q0]; first | done | (first | omega | ( rfl) | (exfalso; omega))) | (rw [if_neg q0]; first | done | (by_cases q1 : ¬ (((seatF (fun i => s (32 + i)) (x) (s 1).toNat ≠ -9) ∨ (seatF nw (x) nz.toNat ≠ -9)) ∧ ((0 ≤ (x) ∧ (x) < s 0) ∧ s (8 + (x).toNat) = 1)) ∨ s (20 + x.toNat) < s 3 <;> first | (rw [if_pos q1]; first | done | (first | omega | ( rfl) | (exfalso; omega))) | (rw [if_neg q1]; first | done | (by_cases q2 : 60 ≤ s 3 <;> first | (rw [if_pos q2]; first | done | (first | omega | ( rfl) | (exfalso; omega))) | (rw [if_neg q2]; first | done | (first | omega | ( rfl) | (exfalso; omega))))))))) dX4_proposeEntry_20
  · refine lv_iload_n hx hb dX4_proposeEntry_8 rfl (lv_at hl 2 rfl) ?_
    refine j_zlt (tgt := 19) hx hb (by omega) dX4_proposeEntry_9 (by decide) (fun c2 => ?_) (fun c2 => ?_)
    · refine j_c hx hb dX4_proposeEntry_19 ?_
      exact m_iret hx hb hr hlocks hW (by (by_cases q0 : ¬ (0 ≤ x ∧ x < s 0) ∨ y < 0 ∨ 999 < y <;> first | (simp only [if_pos q0]; first | done | (first | rfl | ( rfl) | (exfalso; omega))) | (simp only [if_neg q0]; first | done | (by_cases q1 : ¬ (((seatF (fun i => s (32 + i)) (x) (s 1).toNat ≠ -9) ∨ (seatF nw (x) nz.toNat ≠ -9)) ∧ ((0 ≤ (x) ∧ (x) < s 0) ∧ s (8 + (x).toNat) = 1)) ∨ s (20 + x.toNat) < s 3 <;> first | (simp only [if_pos q1]; first | done | (first | rfl | ( rfl) | (exfalso; omega))) | (simp only [if_neg q1]; first | done | (by_cases q2 : 60 ≤ s 3 <;> first | (simp only [if_pos q2]; first | done | (first | rfl | ( rfl) | (exfalso; omega))) | (simp only [if_neg q2]; first | done | (first | rfl | ( rfl) | (exfalso; omega))))))))) (by (by_cases q0 : ¬ (0 ≤ x ∧ x < s 0) ∨ y < 0 ∨ 999 < y <;> first | (rw [if_pos q0]; first | done | (first | omega | ( rfl) | (exfalso; omega))) | (rw [if_neg q0]; first | done | (by_cases q1 : ¬ (((seatF (fun i => s (32 + i)) (x) (s 1).toNat ≠ -9) ∨ (seatF nw (x) nz.toNat ≠ -9)) ∧ ((0 ≤ (x) ∧ (x) < s 0) ∧ s (8 + (x).toNat) = 1)) ∨ s (20 + x.toNat) < s 3 <;> first | (rw [if_pos q1]; first | done | (first | omega | ( rfl) | (exfalso; omega))) | (rw [if_neg q1]; first | done | (by_cases q2 : 60 ≤ s 3 <;> first | (rw [if_pos q2]; first | done | (first | omega | ( rfl) | (exfalso; omega))) | (rw [if_neg q2]; first | done | (first | omega | ( rfl) | (exfalso; omega))))))))) dX4_proposeEntry_20
    · refine lv_iload_n hx hb dX4_proposeEntry_12 rfl (lv_at hl 2 rfl) ?_
      refine j_si hx hb dX4_proposeEntry_13 rfl ?_
      refine j_ile (tgt := 21) hx hb (by omega) (by omega) dX4_proposeEntry_16 (by decide) (fun c3 => ?_) (fun c3 => ?_)
      · refine lv_aload_n hx hb dX4_proposeEntry_21 rfl (lv_at hl 0 rfl) ?_
        refine lv_iload_n hx hb dX4_proposeEntry_22 rfl (lv_at hl 1 rfl) ?_
        refine p_callV (v := .int (iI (b2i (((seatF (fun i => s (32 + i)) (x) (s 1).toNat ≠ -9) ∨ (seatF nw (x) nz.toNat ≠ -9)) ∧ ((0 ≤ (x) ∧ (x) < s 0) ∧ s (8 + (x).toNat) = 1))))) (ci := 4) (n := 1) (As := [.int (iI (x))]) (rest := []) ⟨hx, hb, hml, hown, hts⟩ hK (kX4_mayAct l D cI cV a s nz nw x hV (by omega)) hW.1 rfl rfl gX4_proposeEntry_X4_mayAct rfl (by decide +kernel) ⟨Nat.le_of_ble_eq_true rfl, Nat.le_of_ble_eq_true rfl⟩ rfl hl.1 (Nat.le_of_ble_eq_true rfl) dX4_proposeEntry_23 ⟨Nat.zero_le _, Nat.zero_le _⟩ rfl ?_
        refine j_beq (tgt := 42) hx hb dX4_proposeEntry_26 (by decide) (fun c4 => ?_) (fun c4 => ?_)
        · refine j_bi hx hb dX4_proposeEntry_42 rfl ?_
          exact m_iret hx hb hr hlocks hW (by (by_cases q0 : ¬ (0 ≤ x ∧ x < s 0) ∨ y < 0 ∨ 999 < y <;> first | (simp only [if_pos q0]; first | done | (first | rfl | ( rfl) | (exfalso; omega))) | (simp only [if_neg q0]; first | done | (by_cases q1 : ¬ (((seatF (fun i => s (32 + i)) (x) (s 1).toNat ≠ -9) ∨ (seatF nw (x) nz.toNat ≠ -9)) ∧ ((0 ≤ (x) ∧ (x) < s 0) ∧ s (8 + (x).toNat) = 1)) ∨ s (20 + x.toNat) < s 3 <;> first | (simp only [if_pos q1]; first | done | (first | rfl | ( rfl) | (exfalso; omega))) | (simp only [if_neg q1]; first | done | (by_cases q2 : 60 ≤ s 3 <;> first | (simp only [if_pos q2]; first | done | (first | rfl | ( rfl) | (exfalso; omega))) | (simp only [if_neg q2]; first | done | (first | rfl | ( rfl) | (exfalso; omega))))))))) (by (by_cases q0 : ¬ (0 ≤ x ∧ x < s 0) ∨ y < 0 ∨ 999 < y <;> first | (rw [if_pos q0]; first | done | (first | omega | ( rfl) | (exfalso; omega))) | (rw [if_neg q0]; first | done | (by_cases q1 : ¬ (((seatF (fun i => s (32 + i)) (x) (s 1).toNat ≠ -9) ∨ (seatF nw (x) nz.toNat ≠ -9)) ∧ ((0 ≤ (x) ∧ (x) < s 0) ∧ s (8 + (x).toNat) = 1)) ∨ s (20 + x.toNat) < s 3 <;> first | (rw [if_pos q1]; first | done | (first | omega | ( rfl) | (exfalso; omega))) | (rw [if_neg q1]; first | done | (by_cases q2 : 60 ≤ s 3 <;> first | (rw [if_pos q2]; first | done | (first | omega | ( rfl) | (exfalso; omega))) | (rw [if_neg q2]; first | done | (first | omega | ( rfl) | (exfalso; omega))))))))) dX4_proposeEntry_44
        · refine lv_aload_n hx hb dX4_proposeEntry_29 rfl (lv_at hl 0 rfl) ?_
          refine Vg2 hx hb hts hin hown hK hW.1 (by decide +kernel) dX4_proposeEntry_30 ?_
          refine lv_iload_n hx hb dX4_proposeEntry_33 rfl (lv_at hl 1 rfl) ?_
          refine Va1 hx hb hK hW.1 (by omega) dX4_proposeEntry_34 ?_
          have r4_35 : bd (s (20 + x.toNat)) := hbs _
          refine lv_aload_n hx hb dX4_proposeEntry_35 rfl (lv_at hl 0 rfl) ?_
          refine Vg8 hx hb hts hin hown hK hW.1 (by decide +kernel) dX4_proposeEntry_36 ?_
          have r4_38 : bd (s 3) := hbs _
          refine j_ige (tgt := 45) hx hb (by omega) (by omega) dX4_proposeEntry_39 (by decide) (fun c5 => ?_) (fun c5 => ?_)
          · refine lv_aload_n hx hb dX4_proposeEntry_45 rfl (lv_at hl 0 rfl) ?_
            refine Vg8 hx hb hts hin hown hK hW.1 (by decide +kernel) dX4_proposeEntry_46 ?_
            have r5_42 : bd (s 3) := hbs _
            refine j_bi hx hb dX4_proposeEntry_49 rfl ?_
            refine j_ilt (tgt := 57) hx hb (by omega) (by omega) dX4_proposeEntry_51 (by decide) (fun c6 => ?_) (fun c6 => ?_)
            · refine lv_aload_n hx hb dX4_proposeEntry_57 rfl (lv_at hl 0 rfl) ?_
              refine lv_iload_n hx hb dX4_proposeEntry_58 rfl (lv_at hl 1 rfl) ?_
              refine lv_iload_n hx hb dX4_proposeEntry_59 rfl (lv_at hl 2 rfl) ?_
              refine m_callV (v := none) (ci := 4) (n := 2) (As := [.int (iI (x)), .int (iI (y))]) (rest := []) (st2 := []) (w2 := vilw cI a (addS s x y) nz nw) (pre := []) (post := []) ⟨hx, hb, hml, hown, hts⟩ hK hW (kX4_addEntry l D cI cV a s nz nw x y hV (by omega) (by omega)) (by rw [List.nil_append, List.append_nil]) (by rw [List.nil_append, List.append_nil]) rfl rfl rfl gX4_proposeEntry_X4_addEntry rfl (by decide +kernel) ⟨Nat.le_of_ble_eq_true rfl, Nat.le_of_ble_eq_true rfl⟩ rfl hl.1 (Nat.le_of_ble_eq_true rfl) dX4_proposeEntry_60 ⟨Nat.zero_le _, Nat.zero_le _⟩ rfl rfl (fun H locs hW => ?_)
              obtain ⟨s_1, es_1⟩ : ∃ zz_, zz_ = addS s x y := ⟨_, rfl⟩
              rw [← es_1] at hW
              have hV : VI s_1 nz nw := by rw [es_1]; exact VI_add hV (by omega) (by omega) (by omega)
              have h24 : s_1 2 ≤ s_1 4 := by rw [es_1, addS_ne (by omega), addS_ne (by omega)]; omega
              refine lv_aload_n hx hb dX4_proposeEntry_63 rfl (lv_at hl 0 rfl) ?_
              refine m_callV (v := some (.int (iI ((agS nz nw (s_1 3 - s_1 4).toNat s_1) 4 - s_1 4)))) (ci := 4) (n := 0) (As := []) (rest := []) (st2 := [.int (iI ((agS nz nw (s_1 3 - s_1 4).toNat s_1) 4 - s_1 4))]) (w2 := vilw cI a (agS nz nw (s_1 3 - s_1 4).toNat s_1) nz nw) (pre := []) (post := []) ⟨hx, hb, hml, hown, hts⟩ hK hW (kX4_agree l D cI cV a s_1 nz nw hV (by omega)) (by rw [List.nil_append, List.append_nil]) (by rw [List.nil_append, List.append_nil]) rfl rfl rfl gX4_proposeEntry_X4_agree rfl (by decide +kernel) ⟨Nat.le_of_ble_eq_true rfl, Nat.le_of_ble_eq_true rfl⟩ rfl hl.1 (Nat.le_of_ble_eq_true rfl) dX4_proposeEntry_64 ⟨Nat.zero_le _, Nat.zero_le _⟩ rfl rfl (fun H locs hW => ?_)
              obtain ⟨s_2, es_2⟩ : ∃ zz_, zz_ = agS nz nw (s_1 3 - s_1 4).toNat s_1 := ⟨_, rfl⟩
              rw [← es_2] at hW
              refine lv_pop hx hb dX4_proposeEntry_67 rfl ?_
              refine lv_aload_n hx hb dX4_proposeEntry_68 rfl (lv_at hl 0 rfl) ?_
              refine Vg8 hx hb hts hin hown hK hW.1 (by decide +kernel) dX4_proposeEntry_69 ?_
              refine j_c hx hb dX4_proposeEntry_72 ?_
              refine j_sub hx hb dX4_proposeEntry_73 ?_
              exact m_iret hx hb hr hlocks hW (by (by_cases q0 : ¬ (0 ≤ x ∧ x < s 0) ∨ y < 0 ∨ 999 < y <;> first | (simp only [if_pos q0]; first | done | (first | rfl | (subst es_2; subst es_1; rfl) | (exfalso; omega))) | (simp only [if_neg q0]; first | done | (by_cases q1 : ¬ (((seatF (fun i => s (32 + i)) (x) (s 1).toNat ≠ -9) ∨ (seatF nw (x) nz.toNat ≠ -9)) ∧ ((0 ≤ (x) ∧ (x) < s 0) ∧ s (8 + (x).toNat) = 1)) ∨ s (20 + x.toNat) < s 3 <;> first | (simp only [if_pos q1]; first | done | (first | rfl | (subst es_2; subst es_1; rfl) | (exfalso; omega))) | (simp only [if_neg q1]; first | done | (by_cases q2 : 60 ≤ s 3 <;> first | (simp only [if_pos q2]; first | done | (first | rfl | (subst es_2; subst es_1; rfl) | (exfalso; omega))) | (simp only [if_neg q2]; first | done | (first | rfl | (subst es_2; subst es_1; rfl) | (exfalso; omega))))))))) (by (by_cases q0 : ¬ (0 ≤ x ∧ x < s 0) ∨ y < 0 ∨ 999 < y <;> first | (rw [if_pos q0]; first | done | (first | omega | (subst es_2; subst es_1; rfl) | (exfalso; omega))) | (rw [if_neg q0]; first | done | (by_cases q1 : ¬ (((seatF (fun i => s (32 + i)) (x) (s 1).toNat ≠ -9) ∨ (seatF nw (x) nz.toNat ≠ -9)) ∧ ((0 ≤ (x) ∧ (x) < s 0) ∧ s (8 + (x).toNat) = 1)) ∨ s (20 + x.toNat) < s 3 <;> first | (rw [if_pos q1]; first | done | (first | omega | (subst es_2; subst es_1; rfl) | (exfalso; omega))) | (rw [if_neg q1]; first | done | (by_cases q2 : 60 ≤ s 3 <;> first | (rw [if_pos q2]; first | done | (first | omega | (subst es_2; subst es_1; rfl) | (exfalso; omega))) | (rw [if_neg q2]; first | done | (first | omega | (subst es_2; subst es_1; rfl) | (exfalso; omega))))))))) dX4_proposeEntry_74
            · refine j_bi hx hb dX4_proposeEntry_54 rfl ?_
              exact m_iret hx hb hr hlocks hW (by (by_cases q0 : ¬ (0 ≤ x ∧ x < s 0) ∨ y < 0 ∨ 999 < y <;> first | (simp only [if_pos q0]; first | done | (first | rfl | ( rfl) | (exfalso; omega))) | (simp only [if_neg q0]; first | done | (by_cases q1 : ¬ (((seatF (fun i => s (32 + i)) (x) (s 1).toNat ≠ -9) ∨ (seatF nw (x) nz.toNat ≠ -9)) ∧ ((0 ≤ (x) ∧ (x) < s 0) ∧ s (8 + (x).toNat) = 1)) ∨ s (20 + x.toNat) < s 3 <;> first | (simp only [if_pos q1]; first | done | (first | rfl | ( rfl) | (exfalso; omega))) | (simp only [if_neg q1]; first | done | (by_cases q2 : 60 ≤ s 3 <;> first | (simp only [if_pos q2]; first | done | (first | rfl | ( rfl) | (exfalso; omega))) | (simp only [if_neg q2]; first | done | (first | rfl | ( rfl) | (exfalso; omega))))))))) (by (by_cases q0 : ¬ (0 ≤ x ∧ x < s 0) ∨ y < 0 ∨ 999 < y <;> first | (rw [if_pos q0]; first | done | (first | omega | ( rfl) | (exfalso; omega))) | (rw [if_neg q0]; first | done | (by_cases q1 : ¬ (((seatF (fun i => s (32 + i)) (x) (s 1).toNat ≠ -9) ∨ (seatF nw (x) nz.toNat ≠ -9)) ∧ ((0 ≤ (x) ∧ (x) < s 0) ∧ s (8 + (x).toNat) = 1)) ∨ s (20 + x.toNat) < s 3 <;> first | (rw [if_pos q1]; first | done | (first | omega | ( rfl) | (exfalso; omega))) | (rw [if_neg q1]; first | done | (by_cases q2 : 60 ≤ s 3 <;> first | (rw [if_pos q2]; first | done | (first | omega | ( rfl) | (exfalso; omega))) | (rw [if_neg q2]; first | done | (first | omega | ( rfl) | (exfalso; omega))))))))) dX4_proposeEntry_56
          · refine j_bi hx hb dX4_proposeEntry_42 rfl ?_
            exact m_iret hx hb hr hlocks hW (by (by_cases q0 : ¬ (0 ≤ x ∧ x < s 0) ∨ y < 0 ∨ 999 < y <;> first | (simp only [if_pos q0]; first | done | (first | rfl | ( rfl) | (exfalso; omega))) | (simp only [if_neg q0]; first | done | (by_cases q1 : ¬ (((seatF (fun i => s (32 + i)) (x) (s 1).toNat ≠ -9) ∨ (seatF nw (x) nz.toNat ≠ -9)) ∧ ((0 ≤ (x) ∧ (x) < s 0) ∧ s (8 + (x).toNat) = 1)) ∨ s (20 + x.toNat) < s 3 <;> first | (simp only [if_pos q1]; first | done | (first | rfl | ( rfl) | (exfalso; omega))) | (simp only [if_neg q1]; first | done | (by_cases q2 : 60 ≤ s 3 <;> first | (simp only [if_pos q2]; first | done | (first | rfl | ( rfl) | (exfalso; omega))) | (simp only [if_neg q2]; first | done | (first | rfl | ( rfl) | (exfalso; omega))))))))) (by (by_cases q0 : ¬ (0 ≤ x ∧ x < s 0) ∨ y < 0 ∨ 999 < y <;> first | (rw [if_pos q0]; first | done | (first | omega | ( rfl) | (exfalso; omega))) | (rw [if_neg q0]; first | done | (by_cases q1 : ¬ (((seatF (fun i => s (32 + i)) (x) (s 1).toNat ≠ -9) ∨ (seatF nw (x) nz.toNat ≠ -9)) ∧ ((0 ≤ (x) ∧ (x) < s 0) ∧ s (8 + (x).toNat) = 1)) ∨ s (20 + x.toNat) < s 3 <;> first | (rw [if_pos q1]; first | done | (first | omega | ( rfl) | (exfalso; omega))) | (rw [if_neg q1]; first | done | (by_cases q2 : 60 ≤ s 3 <;> first | (rw [if_pos q2]; first | done | (first | omega | ( rfl) | (exfalso; omega))) | (rw [if_neg q2]; first | done | (first | omega | ( rfl) | (exfalso; omega))))))))) dX4_proposeEntry_44
      · refine j_c hx hb dX4_proposeEntry_19 ?_
        exact m_iret hx hb hr hlocks hW (by (by_cases q0 : ¬ (0 ≤ x ∧ x < s 0) ∨ y < 0 ∨ 999 < y <;> first | (simp only [if_pos q0]; first | done | (first | rfl | ( rfl) | (exfalso; omega))) | (simp only [if_neg q0]; first | done | (by_cases q1 : ¬ (((seatF (fun i => s (32 + i)) (x) (s 1).toNat ≠ -9) ∨ (seatF nw (x) nz.toNat ≠ -9)) ∧ ((0 ≤ (x) ∧ (x) < s 0) ∧ s (8 + (x).toNat) = 1)) ∨ s (20 + x.toNat) < s 3 <;> first | (simp only [if_pos q1]; first | done | (first | rfl | ( rfl) | (exfalso; omega))) | (simp only [if_neg q1]; first | done | (by_cases q2 : 60 ≤ s 3 <;> first | (simp only [if_pos q2]; first | done | (first | rfl | ( rfl) | (exfalso; omega))) | (simp only [if_neg q2]; first | done | (first | rfl | ( rfl) | (exfalso; omega))))))))) (by (by_cases q0 : ¬ (0 ≤ x ∧ x < s 0) ∨ y < 0 ∨ 999 < y <;> first | (rw [if_pos q0]; first | done | (first | omega | ( rfl) | (exfalso; omega))) | (rw [if_neg q0]; first | done | (by_cases q1 : ¬ (((seatF (fun i => s (32 + i)) (x) (s 1).toNat ≠ -9) ∨ (seatF nw (x) nz.toNat ≠ -9)) ∧ ((0 ≤ (x) ∧ (x) < s 0) ∧ s (8 + (x).toNat) = 1)) ∨ s (20 + x.toNat) < s 3 <;> first | (rw [if_pos q1]; first | done | (first | omega | ( rfl) | (exfalso; omega))) | (rw [if_neg q1]; first | done | (by_cases q2 : 60 ≤ s 3 <;> first | (rw [if_pos q2]; first | done | (first | omega | ( rfl) | (exfalso; omega))) | (rw [if_neg q2]; first | done | (first | omega | ( rfl) | (exfalso; omega))))))))) dX4_proposeEntry_20
set_option maxHeartbeats 4000000 in
set_option maxRecDepth 100000 in
theorem kX4_secondEntry (l : Launch) (D : va_G) (cI cV : ClassId) (a : Nat → Nat) (s : Nat → Int) (nz : Int) (nw : Nat → Int) (x : Int) (y : Int) (hV : VI s nz nw) (r_x : rg x) (r_y : rg y) (h24 : s 2 ≤ s 4) : MM l yX4_secondEntry wsX4_secondEntry 5 122 [.ref (a 0), .int (iI (x)), .int (iI (y))] (vilw cI a s nz nw) (vilw cI a (if ¬ (0 ≤ x ∧ x < s 0) ∨ ¬ (0 ≤ y ∧ y < s 3) then (s) else (if ¬ (((seatF (fun i => s (32 + i)) (x) (s 1).toNat ≠ -9) ∨ (seatF nw (x) nz.toNat ≠ -9)) ∧ ((0 ≤ (x) ∧ (x) < s 0) ∧ s (8 + (x).toNat) = 1)) ∨ s (20 + x.toNat) ≠ y then (s) else (agS nz nw ((up s (20 + x.toNat) (s (20 + x.toNat) + 1)) 3 - (up s (20 + x.toNat) (s (20 + x.toNat) + 1)) 4).toNat (up s (20 + x.toNat) (s (20 + x.toNat) + 1))))) nz nw) D cI cV (some (.int (iI (if ¬ (0 ≤ x ∧ x < s 0) ∨ ¬ (0 ≤ y ∧ y < s 3) then (-1) else (if ¬ (((seatF (fun i => s (32 + i)) (x) (s 1).toNat ≠ -9) ∨ (seatF nw (x) nz.toNat ≠ -9)) ∧ ((0 ≤ (x) ∧ (x) < s 0) ∧ s (8 + (x).toNat) = 1)) ∨ s (20 + x.toNat) ≠ y then (-2) else ((agS nz nw ((up s (20 + x.toNat) (s (20 + x.toNat) + 1)) 3 - (up s (20 + x.toNat) (s (20 + x.toNat) + 1)) 4).toNat (up s (20 + x.toNat) (s (20 + x.toNat) + 1))) 4 - (up s (20 + x.toNat) (s (20 + x.toNat) + 1)) 4)))))) := by
  refine MM.of (cc := cX4_secondEntry) (maxL := 3) (ret := (some .int)) (by decide) rfl (Nat.le_of_ble_eq_true rfl) ?_
  intro p e s0 m below meth c ls hx hb hr hts hown hlocks hml hW hK hl
  have hWk := hW
  have hown : s0.vm.findClass RX4 = some m.cls := hown
  have hin : ∀ w ∈ u_ws RX4 TX4 13, w ∈ wsX4_secondEntry := by decide +kernel
  have hl : lv_has ls 3 [(0, .ref (a 0)), (1, .int (iI (x))), (2, .int (iI (y)))] := hl
  obtain ⟨hbs, hbn, h00, h01, h10, h11, hz0, hz1, h30, h31, h40, h41, h70, h71, h60, h61⟩ := id hV
  have hb5 := hbs 5
  have hb2 := hbs 2
  refine lv_aload_n hx hb dX4_secondEntry_0 rfl (lv_at hl 0 rfl) ?_
  refine lv_iload_n hx hb dX4_secondEntry_1 rfl (lv_at hl 1 rfl) ?_
  refine p_callV (v := .int (iI (b2i (0 ≤ (x) ∧ (x) < s 0)))) (ci := 4) (n := 1) (As := [.int (iI (x))]) (rest := []) ⟨hx, hb, hml, hown, hts⟩ hK (kX4_isVillager l D cI cV a s nz nw x hV (by omega)) hW.1 rfl rfl gX4_secondEntry_X4_isVillager rfl (by decide +kernel) ⟨Nat.le_of_ble_eq_true rfl, Nat.le_of_ble_eq_true rfl⟩ rfl hl.1 (Nat.le_of_ble_eq_true rfl) dX4_secondEntry_2 ⟨Nat.zero_le _, Nat.zero_le _⟩ rfl ?_
  refine j_beq (tgt := 16) hx hb dX4_secondEntry_5 (by decide) (fun c1 => ?_) (fun c1 => ?_)
  · refine j_c hx hb dX4_secondEntry_16 ?_
    exact m_iret hx hb hr hlocks hW (by (by_cases q0 : ¬ (0 ≤ x ∧ x < s 0) ∨ ¬ (0 ≤ y ∧ y < s 3) <;> first | (simp only [if_pos q0]; first | done | (first | rfl | ( rfl) | (exfalso; omega))) | (simp only [if_neg q0]; first | done | (by_cases q1 : ¬ (((seatF (fun i => s (32 + i)) (x) (s 1).toNat ≠ -9) ∨ (seatF nw (x) nz.toNat ≠ -9)) ∧ ((0 ≤ (x) ∧ (x) < s 0) ∧ s (8 + (x).toNat) = 1)) ∨ s (20 + x.toNat) ≠ y <;> first | (simp only [if_pos q1]; first | done | (first | rfl | ( rfl) | (exfalso; omega))) | (simp only [if_neg q1]; first | done | (first | rfl | ( rfl) | (exfalso; omega))))))) (by (by_cases q0 : ¬ (0 ≤ x ∧ x < s 0) ∨ ¬ (0 ≤ y ∧ y < s 3) <;> first | (rw [if_pos q0]; first | done | (first | omega | ( rfl) | (exfalso; omega))) | (rw [if_neg q0]; first | done | (by_cases q1 : ¬ (((seatF (fun i => s (32 + i)) (x) (s 1).toNat ≠ -9) ∨ (seatF nw (x) nz.toNat ≠ -9)) ∧ ((0 ≤ (x) ∧ (x) < s 0) ∧ s (8 + (x).toNat) = 1)) ∨ s (20 + x.toNat) ≠ y <;> first | (rw [if_pos q1]; first | done | (first | omega | ( rfl) | (exfalso; omega))) | (rw [if_neg q1]; first | done | (first | omega | ( rfl) | (exfalso; omega))))))) dX4_secondEntry_17
  · refine lv_aload_n hx hb dX4_secondEntry_8 rfl (lv_at hl 0 rfl) ?_
    refine lv_iload_n hx hb dX4_secondEntry_9 rfl (lv_at hl 2 rfl) ?_
    refine p_callV (v := .int (iI (b2i (0 ≤ y ∧ y < s 3)))) (ci := 4) (n := 1) (As := [.int (iI (y))]) (rest := []) ⟨hx, hb, hml, hown, hts⟩ hK (kX4_isEntry l D cI cV a s nz nw y hV (by omega)) hW.1 rfl rfl gX4_secondEntry_X4_isEntry rfl (by decide +kernel) ⟨Nat.le_of_ble_eq_true rfl, Nat.le_of_ble_eq_true rfl⟩ rfl hl.1 (Nat.le_of_ble_eq_true rfl) dX4_secondEntry_10 ⟨Nat.zero_le _, Nat.zero_le _⟩ rfl ?_
    refine j_bne (tgt := 18) hx hb dX4_secondEntry_13 (by decide) (fun c2 => ?_) (fun c2 => ?_)
    · refine lv_aload_n hx hb dX4_secondEntry_18 rfl (lv_at hl 0 rfl) ?_
      refine lv_iload_n hx hb dX4_secondEntry_19 rfl (lv_at hl 1 rfl) ?_
      refine p_callV (v := .int (iI (b2i (((seatF (fun i => s (32 + i)) (x) (s 1).toNat ≠ -9) ∨ (seatF nw (x) nz.toNat ≠ -9)) ∧ ((0 ≤ (x) ∧ (x) < s 0) ∧ s (8 + (x).toNat) = 1))))) (ci := 4) (n := 1) (As := [.int (iI (x))]) (rest := []) ⟨hx, hb, hml, hown, hts⟩ hK (kX4_mayAct l D cI cV a s nz nw x hV (by omega)) hW.1 rfl rfl gX4_secondEntry_X4_mayAct rfl (by decide +kernel) ⟨Nat.le_of_ble_eq_true rfl, Nat.le_of_ble_eq_true rfl⟩ rfl hl.1 (Nat.le_of_ble_eq_true rfl) dX4_secondEntry_20 ⟨Nat.zero_le _, Nat.zero_le _⟩ rfl ?_
      refine j_beq (tgt := 36) hx hb dX4_secondEntry_23 (by decide) (fun c3 => ?_) (fun c3 => ?_)
      · refine j_bi hx hb dX4_secondEntry_36 rfl ?_
        exact m_iret hx hb hr hlocks hW (by (by_cases q0 : ¬ (0 ≤ x ∧ x < s 0) ∨ ¬ (0 ≤ y ∧ y < s 3) <;> first | (simp only [if_pos q0]; first | done | (first | rfl | ( rfl) | (exfalso; omega))) | (simp only [if_neg q0]; first | done | (by_cases q1 : ¬ (((seatF (fun i => s (32 + i)) (x) (s 1).toNat ≠ -9) ∨ (seatF nw (x) nz.toNat ≠ -9)) ∧ ((0 ≤ (x) ∧ (x) < s 0) ∧ s (8 + (x).toNat) = 1)) ∨ s (20 + x.toNat) ≠ y <;> first | (simp only [if_pos q1]; first | done | (first | rfl | ( rfl) | (exfalso; omega))) | (simp only [if_neg q1]; first | done | (first | rfl | ( rfl) | (exfalso; omega))))))) (by (by_cases q0 : ¬ (0 ≤ x ∧ x < s 0) ∨ ¬ (0 ≤ y ∧ y < s 3) <;> first | (rw [if_pos q0]; first | done | (first | omega | ( rfl) | (exfalso; omega))) | (rw [if_neg q0]; first | done | (by_cases q1 : ¬ (((seatF (fun i => s (32 + i)) (x) (s 1).toNat ≠ -9) ∨ (seatF nw (x) nz.toNat ≠ -9)) ∧ ((0 ≤ (x) ∧ (x) < s 0) ∧ s (8 + (x).toNat) = 1)) ∨ s (20 + x.toNat) ≠ y <;> first | (rw [if_pos q1]; first | done | (first | omega | ( rfl) | (exfalso; omega))) | (rw [if_neg q1]; first | done | (first | omega | ( rfl) | (exfalso; omega))))))) dX4_secondEntry_38
      · refine lv_aload_n hx hb dX4_secondEntry_26 rfl (lv_at hl 0 rfl) ?_
        refine Vg2 hx hb hts hin hown hK hW.1 (by decide +kernel) dX4_secondEntry_27 ?_
        refine lv_iload_n hx hb dX4_secondEntry_30 rfl (lv_at hl 1 rfl) ?_
        refine Va1 hx hb hK hW.1 (by omega) dX4_secondEntry_31 ?_
        have r3_32 : bd (s (20 + x.toNat)) := hbs _
        refine lv_iload_n hx hb dX4_secondEntry_32 rfl (lv_at hl 2 rfl) ?_
        refine j_ieq (tgt := 39) hx hb (by omega) (by omega) dX4_secondEntry_33 (by decide) (fun c4 => ?_) (fun c4 => ?_)
        · refine lv_aload_n hx hb dX4_secondEntry_39 rfl (lv_at hl 0 rfl) ?_
          refine Vg2 hx hb hts hin hown hK hW.1 (by decide +kernel) dX4_secondEntry_40 ?_
          refine lv_iload_n hx hb dX4_secondEntry_43 rfl (lv_at hl 1 rfl) ?_
          refine lv_dup2_11 hx hb dX4_secondEntry_44 rfl rfl ?_
          refine Va1 hx hb hK hW.1 (by omega) dX4_secondEntry_45 ?_
          have r4_40 : bd (s (20 + x.toNat)) := hbs _
          refine j_c hx hb dX4_secondEntry_46 ?_
          refine j_add hx hb dX4_secondEntry_47 ?_
          refine Vs1 hx hb hK hW (by omega) dX4_secondEntry_48 (fun H locs hW => ?_)
          obtain ⟨s_1, es_1⟩ : ∃ zz_, zz_ = up s (20 + x.toNat) ((s (20 + x.toNat)) + 1) := ⟨_, rfl⟩
          rw [← es_1] at hW
          have hV : VI s_1 nz nw := by rw [es_1]; exact VI_up hV (by omega) (by omega)
          have h24 : s_1 2 ≤ s_1 4 := by rw [es_1, up_ne (by omega), up_ne (by omega)]; omega
          refine lv_aload_n hx hb dX4_secondEntry_49 rfl (lv_at hl 0 rfl) ?_
          refine m_callV (v := some (.int (iI ((agS nz nw (s_1 3 - s_1 4).toNat s_1) 4 - s_1 4)))) (ci := 4) (n := 0) (As := []) (rest := []) (st2 := [.int (iI ((agS nz nw (s_1 3 - s_1 4).toNat s_1) 4 - s_1 4))]) (w2 := vilw cI a (agS nz nw (s_1 3 - s_1 4).toNat s_1) nz nw) (pre := []) (post := []) ⟨hx, hb, hml, hown, hts⟩ hK hW (kX4_agree l D cI cV a s_1 nz nw hV (by omega)) (by rw [List.nil_append, List.append_nil]) (by rw [List.nil_append, List.append_nil]) rfl rfl rfl gX4_secondEntry_X4_agree rfl (by decide +kernel) ⟨Nat.le_of_ble_eq_true rfl, Nat.le_of_ble_eq_true rfl⟩ rfl hl.1 (Nat.le_of_ble_eq_true rfl) dX4_secondEntry_50 ⟨Nat.zero_le _, Nat.zero_le _⟩ rfl rfl (fun H locs hW => ?_)
          obtain ⟨s_2, es_2⟩ : ∃ zz_, zz_ = agS nz nw (s_1 3 - s_1 4).toNat s_1 := ⟨_, rfl⟩
          rw [← es_2] at hW
          exact m_iret hx hb hr hlocks hW (by (by_cases q0 : ¬ (0 ≤ x ∧ x < s 0) ∨ ¬ (0 ≤ y ∧ y < s 3) <;> first | (simp only [if_pos q0]; first | done | (first | rfl | (subst es_2; subst es_1; rfl) | (exfalso; omega))) | (simp only [if_neg q0]; first | done | (by_cases q1 : ¬ (((seatF (fun i => s (32 + i)) (x) (s 1).toNat ≠ -9) ∨ (seatF nw (x) nz.toNat ≠ -9)) ∧ ((0 ≤ (x) ∧ (x) < s 0) ∧ s (8 + (x).toNat) = 1)) ∨ s (20 + x.toNat) ≠ y <;> first | (simp only [if_pos q1]; first | done | (first | rfl | (subst es_2; subst es_1; rfl) | (exfalso; omega))) | (simp only [if_neg q1]; first | done | (first | rfl | (subst es_2; subst es_1; rfl) | (exfalso; omega))))))) (by (by_cases q0 : ¬ (0 ≤ x ∧ x < s 0) ∨ ¬ (0 ≤ y ∧ y < s 3) <;> first | (rw [if_pos q0]; first | done | (first | omega | (subst es_2; subst es_1; rfl) | (exfalso; omega))) | (rw [if_neg q0]; first | done | (by_cases q1 : ¬ (((seatF (fun i => s (32 + i)) (x) (s 1).toNat ≠ -9) ∨ (seatF nw (x) nz.toNat ≠ -9)) ∧ ((0 ≤ (x) ∧ (x) < s 0) ∧ s (8 + (x).toNat) = 1)) ∨ s (20 + x.toNat) ≠ y <;> first | (rw [if_pos q1]; first | done | (first | omega | (subst es_2; subst es_1; rfl) | (exfalso; omega))) | (rw [if_neg q1]; first | done | (first | omega | (subst es_2; subst es_1; rfl) | (exfalso; omega))))))) dX4_secondEntry_53
        · refine j_bi hx hb dX4_secondEntry_36 rfl ?_
          exact m_iret hx hb hr hlocks hW (by (by_cases q0 : ¬ (0 ≤ x ∧ x < s 0) ∨ ¬ (0 ≤ y ∧ y < s 3) <;> first | (simp only [if_pos q0]; first | done | (first | rfl | ( rfl) | (exfalso; omega))) | (simp only [if_neg q0]; first | done | (by_cases q1 : ¬ (((seatF (fun i => s (32 + i)) (x) (s 1).toNat ≠ -9) ∨ (seatF nw (x) nz.toNat ≠ -9)) ∧ ((0 ≤ (x) ∧ (x) < s 0) ∧ s (8 + (x).toNat) = 1)) ∨ s (20 + x.toNat) ≠ y <;> first | (simp only [if_pos q1]; first | done | (first | rfl | ( rfl) | (exfalso; omega))) | (simp only [if_neg q1]; first | done | (first | rfl | ( rfl) | (exfalso; omega))))))) (by (by_cases q0 : ¬ (0 ≤ x ∧ x < s 0) ∨ ¬ (0 ≤ y ∧ y < s 3) <;> first | (rw [if_pos q0]; first | done | (first | omega | ( rfl) | (exfalso; omega))) | (rw [if_neg q0]; first | done | (by_cases q1 : ¬ (((seatF (fun i => s (32 + i)) (x) (s 1).toNat ≠ -9) ∨ (seatF nw (x) nz.toNat ≠ -9)) ∧ ((0 ≤ (x) ∧ (x) < s 0) ∧ s (8 + (x).toNat) = 1)) ∨ s (20 + x.toNat) ≠ y <;> first | (rw [if_pos q1]; first | done | (first | omega | ( rfl) | (exfalso; omega))) | (rw [if_neg q1]; first | done | (first | omega | ( rfl) | (exfalso; omega))))))) dX4_secondEntry_38
    · refine j_c hx hb dX4_secondEntry_16 ?_
      exact m_iret hx hb hr hlocks hW (by (by_cases q0 : ¬ (0 ≤ x ∧ x < s 0) ∨ ¬ (0 ≤ y ∧ y < s 3) <;> first | (simp only [if_pos q0]; first | done | (first | rfl | ( rfl) | (exfalso; omega))) | (simp only [if_neg q0]; first | done | (by_cases q1 : ¬ (((seatF (fun i => s (32 + i)) (x) (s 1).toNat ≠ -9) ∨ (seatF nw (x) nz.toNat ≠ -9)) ∧ ((0 ≤ (x) ∧ (x) < s 0) ∧ s (8 + (x).toNat) = 1)) ∨ s (20 + x.toNat) ≠ y <;> first | (simp only [if_pos q1]; first | done | (first | rfl | ( rfl) | (exfalso; omega))) | (simp only [if_neg q1]; first | done | (first | rfl | ( rfl) | (exfalso; omega))))))) (by (by_cases q0 : ¬ (0 ≤ x ∧ x < s 0) ∨ ¬ (0 ≤ y ∧ y < s 3) <;> first | (rw [if_pos q0]; first | done | (first | omega | ( rfl) | (exfalso; omega))) | (rw [if_neg q0]; first | done | (by_cases q1 : ¬ (((seatF (fun i => s (32 + i)) (x) (s 1).toNat ≠ -9) ∨ (seatF nw (x) nz.toNat ≠ -9)) ∧ ((0 ≤ (x) ∧ (x) < s 0) ∧ s (8 + (x).toNat) = 1)) ∨ s (20 + x.toNat) ≠ y <;> first | (rw [if_pos q1]; first | done | (first | omega | ( rfl) | (exfalso; omega))) | (rw [if_neg q1]; first | done | (first | omega | ( rfl) | (exfalso; omega))))))) dX4_secondEntry_17
set_option maxHeartbeats 4000000 in
set_option maxRecDepth 100000 in
theorem kX4_learnEntries (l : Launch) (D : va_G) (cI cV : ClassId) (a : Nat → Nat) (s : Nat → Int) (nz : Int) (nw : Nat → Int) (x : Int) (hV : VI s nz nw) (r_x : rg x) : MM l yX4_learnEntries wsX4_learnEntries 1 60 [.ref (a 0), .int (iI (x))] (vilw cI a s nz nw) (vilw cI a (if ¬ (0 ≤ x ∧ x < s 0) then (s) else (if s (8 + x.toNat) = 0 then (s) else (up s (20 + x.toNat) (s (20 + x.toNat) + max 0 (s 4 - s (20 + x.toNat)))))) nz nw) D cI cV (some (.int (iI (if ¬ (0 ≤ x ∧ x < s 0) then (-1) else (if s (8 + x.toNat) = 0 then (-2) else (max 0 (s 4 - s (20 + x.toNat)))))))) := by
  refine MM.of (cc := cX4_learnEntries) (maxL := 3) (ret := (some .int)) (by decide) rfl (Nat.le_of_ble_eq_true rfl) ?_
  intro p e s0 m below meth c ls hx hb hr hts hown hlocks hml hW hK hl
  have hWk := hW
  have hown : s0.vm.findClass RX4 = some m.cls := hown
  have hin : ∀ w ∈ u_ws RX4 TX4 13, w ∈ wsX4_learnEntries := by decide +kernel
  have hl : lv_has ls 3 [(0, .ref (a 0)), (1, .int (iI (x)))] := hl
  obtain ⟨hbs, hbn, h00, h01, h10, h11, hz0, hz1, h30, h31, h40, h41, h70, h71, h60, h61⟩ := id hV
  have hb5 := hbs 5
  have hb2 := hbs 2
  refine lv_aload_n hx hb dX4_learnEntries_0 rfl (lv_at hl 0 rfl) ?_
  refine lv_iload_n hx hb dX4_learnEntries_1 rfl (lv_at hl 1 rfl) ?_
  refine p_callV (v := .int (iI (b2i (0 ≤ (x) ∧ (x) < s 0)))) (ci := 4) (n := 1) (As := [.int (iI (x))]) (rest := []) ⟨hx, hb, hml, hown, hts⟩ hK (kX4_isVillager l D cI cV a s nz nw x hV (by omega)) hW.1 rfl rfl gX4_learnEntries_X4_isVillager rfl (by decide +kernel) ⟨Nat.le_of_ble_eq_true rfl, Nat.le_of_ble_eq_true rfl⟩ rfl hl.1 (Nat.le_of_ble_eq_true rfl) dX4_learnEntries_2 ⟨Nat.zero_le _, Nat.zero_le _⟩ rfl ?_
  refine j_bne (tgt := 10) hx hb dX4_learnEntries_5 (by decide) (fun c1 => ?_) (fun c1 => ?_)
  · refine lv_aload_n hx hb dX4_learnEntries_10 rfl (lv_at hl 0 rfl) ?_
    refine Vg1 hx hb hts hin hown hK hW.1 (by decide +kernel) dX4_learnEntries_11 ?_
    refine lv_iload_n hx hb dX4_learnEntries_14 rfl (lv_at hl 1 rfl) ?_
    refine Va0 hx hb hK hW.1 (by omega) dX4_learnEntries_15 ?_
    have r1_20 : bd (s (8 + x.toNat)) := hbs _
    refine j_zne (tgt := 22) hx hb (by omega) dX4_learnEntries_16 (by decide) (fun c2 => ?_) (fun c2 => ?_)
    · refine j_c hx hb dX4_learnEntries_22 ?_
      refine lv_aload_n hx hb dX4_learnEntries_23 rfl (lv_at hl 0 rfl) ?_
      refine Vg9 hx hb hts hin hown hK hW.1 (by decide +kernel) dX4_learnEntries_24 ?_
      have r2_25 : bd (s 4) := hbs _
      refine lv_aload_n hx hb dX4_learnEntries_27 rfl (lv_at hl 0 rfl) ?_
      refine Vg2 hx hb hts hin hown hK hW.1 (by decide +kernel) dX4_learnEntries_28 ?_
      refine lv_iload_n hx hb dX4_learnEntries_31 rfl (lv_at hl 1 rfl) ?_
      refine Va1 hx hb hK hW.1 (by omega) dX4_learnEntries_32 ?_
      have r2_30 : bd (s (20 + x.toNat)) := hbs _
      refine j_sub hx hb dX4_learnEntries_33 ?_
      refine j_mmax hx hb (hml.trans hl.1.symm) hown (hts (.methodLink RX4 141 Lib.Math.max.name) (by decide +kernel)) (hts (.static Lib.Math.max.name) (by decide +kernel)) (hts (.initialized "java/lang/Math") (by decide +kernel)) (hts (.code Lib.Math.max.name Lib.Math.max.code 2 (some .int)) (by decide +kernel)) (Nat.le_of_ble_eq_true rfl) (Nat.le_of_ble_eq_true rfl) (Nat.zero_le _) (Nat.zero_le _) (by omega) (by omega) dX4_learnEntries_34 ?_
      refine lv_istore_n (lv' := [(2, .int (iI (max 0 ((s 4) - (s (20 + x.toNat)))))), (0, .ref (a 0)), (1, .int (iI (x)))]) hx hb dX4_learnEntries_37 rfl hl (by decide) rfl (fun ls hl => ?_)
      refine lv_aload_n hx hb dX4_learnEntries_38 rfl (lv_at hl 1 rfl) ?_
      refine Vg2 hx hb hts hin hown hK hW.1 (by decide +kernel) dX4_learnEntries_39 ?_
      refine lv_iload_n hx hb dX4_learnEntries_42 rfl (lv_at hl 2 rfl) ?_
      refine lv_dup2_11 hx hb dX4_learnEntries_43 rfl rfl ?_
      refine Va1 hx hb hK hW.1 (by omega) dX4_learnEntries_44 ?_
      have r2_39 : bd (s (20 + x.toNat)) := hbs _
      refine lv_iload_n hx hb dX4_learnEntries_45 rfl (lv_at hl 0 rfl) ?_
      refine j_add hx hb dX4_learnEntries_46 ?_
      refine Vs1 hx hb hK hW (by omega) dX4_learnEntries_47 (fun H locs hW => ?_)
      obtain ⟨s_1, es_1⟩ : ∃ zz_, zz_ = up s (20 + x.toNat) ((s (20 + x.toNat)) + (max 0 ((s 4) - (s (20 + x.toNat))))) := ⟨_, rfl⟩
      rw [← es_1] at hW
      refine lv_iload_n hx hb dX4_learnEntries_48 rfl (lv_at hl 0 rfl) ?_
      exact m_iret hx hb hr hlocks hW (by (by_cases q0 : ¬ (0 ≤ x ∧ x < s 0) <;> first | (simp only [if_pos q0]; first | done | (first | rfl | (subst es_1; rfl) | (exfalso; omega))) | (simp only [if_neg q0]; first | done | (by_cases q1 : s (8 + x.toNat) = 0 <;> first | (simp only [if_pos q1]; first | done | (first | rfl | (subst es_1; rfl) | (exfalso; omega))) | (simp only [if_neg q1]; first | done | (first | rfl | (subst es_1; rfl) | (exfalso; omega))))))) (by (by_cases q0 : ¬ (0 ≤ x ∧ x < s 0) <;> first | (rw [if_pos q0]; first | done | (first | omega | rfl | (exfalso; omega))) | (rw [if_neg q0]; first | done | (by_cases q1 : s (8 + x.toNat) = 0 <;> first | (rw [if_pos q1]; first | done | (first | omega | rfl | (exfalso; omega))) | (rw [if_neg q1]; first | done | (first | omega | rfl | (exfalso; omega))))))) dX4_learnEntries_49
    · refine j_bi hx hb dX4_learnEntries_19 rfl ?_
      exact m_iret hx hb hr hlocks hW (by (by_cases q0 : ¬ (0 ≤ x ∧ x < s 0) <;> first | (simp only [if_pos q0]; first | done | (first | rfl | ( rfl) | (exfalso; omega))) | (simp only [if_neg q0]; first | done | (by_cases q1 : s (8 + x.toNat) = 0 <;> first | (simp only [if_pos q1]; first | done | (first | rfl | ( rfl) | (exfalso; omega))) | (simp only [if_neg q1]; first | done | (first | rfl | ( rfl) | (exfalso; omega))))))) (by (by_cases q0 : ¬ (0 ≤ x ∧ x < s 0) <;> first | (rw [if_pos q0]; first | done | (first | omega | rfl | (exfalso; omega))) | (rw [if_neg q0]; first | done | (by_cases q1 : s (8 + x.toNat) = 0 <;> first | (rw [if_pos q1]; first | done | (first | omega | rfl | (exfalso; omega))) | (rw [if_neg q1]; first | done | (first | omega | rfl | (exfalso; omega))))))) dX4_learnEntries_21
  · refine j_c hx hb dX4_learnEntries_8 ?_
    exact m_iret hx hb hr hlocks hW (by (by_cases q0 : ¬ (0 ≤ x ∧ x < s 0) <;> first | (simp only [if_pos q0]; first | done | (first | rfl | ( rfl) | (exfalso; omega))) | (simp only [if_neg q0]; first | done | (by_cases q1 : s (8 + x.toNat) = 0 <;> first | (simp only [if_pos q1]; first | done | (first | rfl | ( rfl) | (exfalso; omega))) | (simp only [if_neg q1]; first | done | (first | rfl | ( rfl) | (exfalso; omega))))))) (by (by_cases q0 : ¬ (0 ≤ x ∧ x < s 0) <;> first | (rw [if_pos q0]; first | done | (first | omega | rfl | (exfalso; omega))) | (rw [if_neg q0]; first | done | (by_cases q1 : s (8 + x.toNat) = 0 <;> first | (rw [if_pos q1]; first | done | (first | omega | rfl | (exfalso; omega))) | (rw [if_neg q1]; first | done | (first | omega | rfl | (exfalso; omega))))))) dX4_learnEntries_9
