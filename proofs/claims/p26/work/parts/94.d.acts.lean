/-! the law: acts -/
theorem SV_keep2 {m m' ev dv : Nat → Int} (h : SV m ev dv) (hI : Inv m') (e : ∀ j, (1 ≤ j ∧ j ≤ 5) ∨ j = 7 ∨ 32 ≤ j → m' j = m j) : SV m' ev dv := SV_keep h hI (fun j hj => e j (by omega)) (fun q i hi hm => by
  rw [e 5 (by omega)] at q
  rw [e 1 (by omega)] at hm
  rw [e (37 + i) (by omega), e (32 + i) (by omega)]
  exact h.2.1.2.2.2 q i hi hm)
theorem LS_keep {cI cV cL : ClassId} {g a : Nat → Nat} {ra : Nat → Nat → Nat} {ga va ea da : Nat} {m m' ev dv : Nat → Int} {wL : va_W} {t : Int} (h : SV m ev dv) (hI : Inv m') (e : ∀ j, (1 ≤ j ∧ j ≤ 5) ∨ j = 7 ∨ 32 ≤ j → m' j = m j) (ht : m 3 ≤ t) (hL : LW cI cV g a ra m' wL) : LSt cI cV cL g a ra ga va ea da (t + 1) (lw2 cI ga va m' (ed2 cL ea da ev dv wL)) := ⟨m', ev, dv, wL, SV_keep2 h hI e, by rw [e 3 (by omega)]; omega, hL, rfl⟩
theorem LSt.fst {cI cV cL : ClassId} {g a : Nat → Nat} {ra : Nat → Nat → Nat} {ga va ea da : Nat} {m ev dv : Nat → Int} {wL w : va_W} {t : Int} (hL : LW cI cV g a ra m wL) (h : LSt cI cV cL g a ra ga va ea da t w) : w.map Prod.fst = (lw2 cI ga va m (ed2 cL ea da ev dv wL)).map Prod.fst := by
  obtain ⟨m', ev', dv', wL', -, -, hL', rfl⟩ := h
  show ga :: va :: ea :: da :: wL'.map Prod.fst = ga :: va :: ea :: da :: wL.map Prod.fst
  rw [hL.fst hL']
set_option maxHeartbeats 4000000 in
set_option maxRecDepth 100000 in
theorem kL_acts (l : Launch) (D : va_G) (cI cV cL : ClassId) (ga va ea da : Nat) (g a : Nat → Nat) (ra : Nat → Nat → Nat) (m ev dv : Nat → Int) (wL : va_W) (t : Int) (hS : SV m ev dv) (hL : LW cI cV g a ra m wL) (ht : m 3 ≤ t) (ht60 : m 3 < 60) (w : Int) (r_w : rg w) : ML l yL_acts wsL_acts 8 200 [.ref (g 0), .ref (ga), .ref (va), .ref (ea), .ref (da), .int (iI (w))] (lw2 cI ga va m (ed2 cL ea da ev dv wL)) (LSt cI cV cL g a ra ga va ea da (t + 1)) D cI cV cL (some (.int (iI (1)))) := by
  refine ML.of (cc := cL_acts) (maxL := 12) (ret := (some .boolean)) (by decide) rfl (Nat.le_of_ble_eq_true rfl) ?_
  intro p e s0 mi below meth c ls hx hb hr hts hown hlocks hml hW hK hl
  have hown : s0.vm.findClass RL = some mi.cls := hown
  have hl : lv_has ls 12 [(0, .ref (g 0)), (1, .ref (ga)), (2, .ref (va)), (3, .ref (ea)), (4, .ref (da)), (5, .int (iI (w)))] := hl
  obtain ⟨hI, ⟨hE, hD, hN, hX⟩, hev, hdv⟩ := id hS
  obtain ⟨hbd, k0, k12, k1, k15, k3, k360, k4, k43, k7, k76, k6, k66, ho, hn⟩ := id hI.1
  have h5 : m 5 = -9 ∨ 0 ≤ m 5 := by
    have := hI.h45
    omega
  have hK2 : va_K D vwCl (kt cI cV) s0 := hK.sub [0, 1] rfl
  have hhd := hL.head
  have s2 := sv2 hS
  have h73 := hI.2.2.1
  refine lv_iload hx hb dL_acts_0 (lv_at hl 5 rfl) ?_
  refine j_c hx hb dL_acts_2 ?_
  refine lv_ishr hx hb dL_acts_3 (j_any hx hb ?_)
  obtain ⟨q1, eq1⟩ : ∃ zz_ : Int, zz_ = (iI (w) >>> (iI (5) &&& 31)).toInt := ⟨_, rfl⟩
  rw [← eq1]
  have rq1 : rg q1 := eq1 ▸ rg_of _
  refine j_ldc (n := 10000000) hx hb hown (hts (.constant RL 61 10000000) (by decide +kernel)) rfl dL_acts_4 ?_
  refine pl_callS (v := .int (iI (lowV q1 10000000))) (n := 2) (w := []) (As := [.int (iI (q1)), .int (iI (10000000))]) (rest := []) ⟨hx, hb, hml, hown, hts⟩ hK (kL_low l D cI cV cL q1 10000000 rq1 (by decide)) (fun k q h => by simp at h) gL_acts_L_low rfl (by decide +kernel) ⟨Nat.le_of_ble_eq_true rfl, Nat.le_of_ble_eq_true rfl⟩ rfl hl.1 (Nat.le_of_ble_eq_true rfl) dL_acts_6 ⟨Nat.zero_le _, Nat.zero_le _⟩ rfl ?_
  obtain ⟨z, ez⟩ : ∃ zz_ : Int, zz_ = lowV q1 10000000 := ⟨_, rfl⟩
  rw [← ez]
  have h_z : 0 ≤ z ∧ z < 10000000 := ez ▸ lowV_rg (by decide)
  refine lv_istore (lv' := [(6, .int (iI (z))), (0, .ref (g 0)), (1, .ref (ga)), (2, .ref (va)), (3, .ref (ea)), (4, .ref (da)), (5, .int (iI (w)))]) hx hb dL_acts_9 hl (by decide) rfl (fun ls hl => ?_)
  refine lv_iload hx hb dL_acts_11 (lv_at hl 6 rfl) ?_
  refine j_bi hx hb dL_acts_13 rfl ?_
  refine pl_callS (v := .int (iI (lowV w 26))) (n := 2) (w := []) (As := [.int (iI (w)), .int (iI (26))]) (rest := []) ⟨hx, hb, hml, hown, hts⟩ hK (kL_low l D cI cV cL w 26 r_w (by decide)) (fun k q h => by simp at h) gL_acts_L_low rfl (by decide +kernel) ⟨Nat.le_of_ble_eq_true rfl, Nat.le_of_ble_eq_true rfl⟩ rfl hl.1 (Nat.le_of_ble_eq_true rfl) dL_acts_15 ⟨Nat.zero_le _, Nat.zero_le _⟩ rfl ?_
  obtain ⟨wy, ewy⟩ : ∃ zz_ : Int, zz_ = lowV w 26 := ⟨_, rfl⟩
  rw [← ewy]
  have h_wy : 0 ≤ wy ∧ wy < 26 := ewy ▸ lowV_rg (by decide)
  refine lv_istore (lv' := [(7, .int (iI (wy))), (6, .int (iI (z))), (0, .ref (g 0)), (1, .ref (ga)), (2, .ref (va)), (3, .ref (ea)), (4, .ref (da)), (5, .int (iI (w)))]) hx hb dL_acts_18 hl (by decide) rfl (fun ls hl => ?_)
  refine lv_iload hx hb dL_acts_20 (lv_at hl 0 rfl) ?_
  refine j_zeq (tgt := 31) hx hb (by omega) dL_acts_22 (by decide) (fun c2 => ?_) (fun c2 => ?_)
  · refine lv_aload_n hx hb dL_acts_31 rfl (lv_at hl 3 rfl) ?_
    refine j_c hx hb dL_acts_32 ?_
    refine Gld hx hb hK hW.1 (0) (by omega) (by omega) dL_acts_33 ?_
    have r3 : bd (m 0) := hbd 0
    refine j_bi hx hb dL_acts_34 rfl ?_
    refine j_ine (tgt := 54) hx hb (by omega) (by omega) dL_acts_36 (by decide) (fun c4 => ?_) (fun c4 => ?_)
    · refine lv_aload_n hx hb dL_acts_54 rfl (lv_at hl 4 rfl) ?_
      refine lv_aload_n hx hb dL_acts_55 rfl (lv_at hl 3 rfl) ?_
      refine j_c hx hb dL_acts_56 ?_
      refine Gld hx hb hK hW.1 (0) (by omega) (by omega) dL_acts_57 ?_
      have r5 : bd (m 0) := hbd 0
      refine j_c hx hb dL_acts_58 ?_
      refine Vst hx hb hK hW (8 + ((m 0).toNat)) (by omega) (by omega) dL_acts_59 (fun H locs hW => ?_)
      obtain ⟨mu_6, emu_6⟩ : ∃ zz_, zz_ = up m (8 + ((m 0).toNat)) (1) := ⟨_, rfl⟩
      rw [← emu_6] at hW
      refine lv_aload_n hx hb dL_acts_60 rfl (lv_at hl 4 rfl) ?_
      refine j_bi hx hb dL_acts_61 rfl ?_
      refine lv_aload_n hx hb dL_acts_63 rfl (lv_at hl 3 rfl) ?_
      refine j_c hx hb dL_acts_64 ?_
      refine Gld hx hb hK hW.1 (0) (by omega) (by omega) dL_acts_65 ?_
      rw [show mu_6 0 = m 0 from by rw [emu_6, up_ne (by omega)]]
      have r7 : bd (m 0) := hbd 0
      refine j_add hx hb dL_acts_66 ?_
      refine j_c hx hb dL_acts_67 ?_
      refine Vst hx hb hK hW (20 + ((m 0).toNat)) (by omega) (by omega) dL_acts_68 (fun H locs hW => ?_)
      obtain ⟨mu_8, emu_8⟩ : ∃ zz_, zz_ = up mu_6 (20 + ((m 0).toNat)) (0) := ⟨_, rfl⟩
      rw [← emu_8] at hW
      refine lv_aload_n hx hb dL_acts_69 rfl (lv_at hl 3 rfl) ?_
      refine j_c hx hb dL_acts_70 ?_
      refine lv_dup2_11 hx hb dL_acts_71 rfl rfl ?_
      refine Gld hx hb hK hW.1 (0) (by omega) (by omega) dL_acts_72 ?_
      rw [show mu_8 0 = m 0 from by rw [emu_8, up_ne (by omega), emu_6, up_ne (by omega)]]
      have r9 : bd (m 0) := hbd 0
      refine j_c hx hb dL_acts_73 ?_
      refine j_add hx hb dL_acts_74 ?_
      refine Gst hx hb hK hW (0) (by omega) (by omega) dL_acts_75 (fun H locs hW => ?_)
      obtain ⟨mu_10, emu_10⟩ : ∃ zz_, zz_ = up mu_8 (0) ((m 0) + 1) := ⟨_, rfl⟩
      rw [← emu_10] at hW
      refine lv_aload_n hx hb dL_acts_76 rfl (lv_at hl 2 rfl) ?_
      obtain ⟨wL1, hL1, cM, hI1⟩ := ac_come l D hL hI (by omega)
      refine m_callV (v := some (.int (iI (m 0)))) (ci := 5) (n := 0) (As := []) (rest := []) (st2 := [.int (iI (m 0))]) (pre := lw2 cI ga va mu_10 (ed2 cL ea da ev dv [])) (post := []) (w2 := lw2 cI ga va mu_10 (ed2 cL ea da ev dv wL1)) ⟨hx, hb, hml, hown, hts⟩ hK2 hW (cM) (by rw [List.append_nil]; rfl) (by rw [List.append_nil]; rfl) (hL.fst hL1) rfl hL.head gL_acts_X5_come rfl (by decide +kernel) ⟨Nat.le_of_ble_eq_true rfl, Nat.le_of_ble_eq_true rfl⟩ rfl hl.1 (Nat.le_of_ble_eq_true rfl) dL_acts_77 ⟨Nat.zero_le _, Nat.zero_le _⟩ rfl rfl (fun H locs hW => ?_)
      refine lv_aload_n hx hb dL_acts_80 rfl (lv_at hl 3 rfl) ?_
      refine j_c hx hb dL_acts_81 ?_
      refine Gld hx hb hK hW.1 (0) (by omega) (by omega) dL_acts_82 ?_
      rw [show mu_10 0 = (m 0) + 1 from by rw [emu_10, up_at rfl]]
      refine j_c hx hb dL_acts_83 ?_
      refine j_sub hx hb dL_acts_84 ?_
      refine j_ine (tgt := 92) hx hb (by omega) (by omega) dL_acts_85 (by decide) (fun c11 => absurd c11 (by omega)) (fun c11 => ?_)
      refine j_c hx hb dL_acts_88 ?_
      refine lv_goto (tgt := 93) hx hb dL_acts_89 (by decide) ?_
      exact e_zret hx hb hr hlocks hW (by subst emu_10; subst emu_8; subst emu_6; exact LS_keep hS hI1 (fun j hj => by rw [up_ne (by omega), up_ne (by omega), up_ne (by omega)]) ht hL1) (by first | decide | exact b2i_or) (by rfl) dL_acts_93
    · refine lv_aload_n hx hb dL_acts_39 rfl (lv_at hl 2 rfl) ?_
      obtain ⟨wL1, hL1, cM, hI1⟩ := ac_come_no l D hL hI (by omega)
      refine m_callV (v := some (.int (iI ((-3))))) (ci := 5) (n := 0) (As := []) (rest := []) (st2 := [.int (iI ((-3)))]) (pre := lw2 cI ga va m (ed2 cL ea da ev dv [])) (post := []) (w2 := lw2 cI ga va m (ed2 cL ea da ev dv wL1)) ⟨hx, hb, hml, hown, hts⟩ hK2 hW (cM) (by rw [List.append_nil]; rfl) (by rw [List.append_nil]; rfl) (hL.fst hL1) rfl hL.head gL_acts_X5_come rfl (by decide +kernel) ⟨Nat.le_of_ble_eq_true rfl, Nat.le_of_ble_eq_true rfl⟩ rfl hl.1 (Nat.le_of_ble_eq_true rfl) dL_acts_40 ⟨Nat.zero_le _, Nat.zero_le _⟩ rfl rfl (fun H locs hW => ?_)
      refine j_bi hx hb dL_acts_43 rfl ?_
      refine j_ine (tgt := 52) hx hb (by omega) (by omega) dL_acts_45 (by decide) (fun c12 => absurd c12 (by decide)) (fun c12 => ?_)
      refine j_c hx hb dL_acts_48 ?_
      refine lv_goto (tgt := 53) hx hb dL_acts_49 (by decide) ?_
      exact e_zret hx hb hr hlocks hW (by exact ⟨m, ev, dv, wL1, hS, by omega, hL1, rfl⟩) (by first | decide | exact b2i_or) (by rfl) dL_acts_53
  · refine lv_aload_n hx hb dL_acts_25 rfl (lv_at hl 3 rfl) ?_
    refine j_c hx hb dL_acts_26 ?_
    refine Gld hx hb hK hW.1 (0) (by omega) (by omega) dL_acts_27 ?_
    have r13 : bd (m 0) := hbd 0
    refine j_zne (tgt := 94) hx hb (by omega) dL_acts_28 (by decide) (fun c14 => ?_) (fun c14 => ?_)
    · refine lv_iload hx hb dL_acts_94 (lv_at hl 1 rfl) ?_
      refine lv_aload_n hx hb dL_acts_96 rfl (lv_at hl 3 rfl) ?_
      refine j_c hx hb dL_acts_97 ?_
      refine Gld hx hb hK hW.1 (0) (by omega) (by omega) dL_acts_98 ?_
      have r15 : bd (m 0) := hbd 0
      refine j_rem hx hb (by omega) (by omega) dL_acts_99 ?_
      obtain ⟨x, ex⟩ : ∃ zz_ : Int, zz_ = z % (m 0) := ⟨_, rfl⟩
      rw [← ex]
      have h_x : 0 ≤ x ∧ x < m 0 := by
        have q0 := Int.emod_nonneg z (show m 0 ≠ 0 by omega)
        have q1 := Int.emod_lt_of_pos z (show 0 < m 0 by omega)
        omega
      have hcp := hI.2.2.2.2.1 x.toNat (by omega)
      have hpr := hI.2.2.2.1 x.toNat (by omega)
      refine lv_istore (lv' := [(8, .int (iI (x))), (7, .int (iI (wy))), (6, .int (iI (z))), (0, .ref (g 0)), (1, .ref (ga)), (2, .ref (va)), (3, .ref (ea)), (4, .ref (da)), (5, .int (iI (w)))]) hx hb dL_acts_100 hl (by decide) rfl (fun ls hl => ?_)
      refine lv_iload hx hb dL_acts_102 (lv_at hl 1 rfl) ?_
      refine j_c hx hb dL_acts_104 ?_
      refine j_ine (tgt := 197) hx hb (by omega) (by omega) dL_acts_105 (by decide) (fun c16 => ?_) (fun c16 => ?_)
      · refine lv_iload hx hb dL_acts_197 (lv_at hl 1 rfl) ?_
        refine j_c hx hb dL_acts_199 ?_
        refine j_ine (tgt := 237) hx hb (by omega) (by omega) dL_acts_200 (by decide) (fun c17 => ?_) (fun c17 => ?_)
        · refine lv_iload hx hb dL_acts_237 (lv_at hl 1 rfl) ?_
          refine j_c hx hb dL_acts_239 ?_
          refine j_ige (tgt := 342) hx hb (by omega) (by omega) dL_acts_240 (by decide) (fun c18 => ?_) (fun c18 => ?_)
          · refine lv_iload hx hb dL_acts_342 (lv_at hl 1 rfl) ?_
            refine j_bi hx hb dL_acts_344 rfl ?_
            refine j_ige (tgt := 373) hx hb (by omega) (by omega) dL_acts_346 (by decide) (fun c19 => ?_) (fun c19 => ?_)
            · refine lv_iload hx hb dL_acts_373 (lv_at hl 1 rfl) ?_
              refine j_bi hx hb dL_acts_375 rfl ?_
              refine j_ige (tgt := 484) hx hb (by omega) (by omega) dL_acts_377 (by decide) (fun c20 => ?_) (fun c20 => ?_)
              · refine lv_iload hx hb dL_acts_484 (lv_at hl 1 rfl) ?_
                refine j_bi hx hb dL_acts_486 rfl ?_
                refine j_ige (tgt := 574) hx hb (by omega) (by omega) dL_acts_488 (by decide) (fun c21 => ?_) (fun c21 => ?_)
                · refine lv_aload_n hx hb dL_acts_574 rfl (lv_at hl 4 rfl) ?_
                  refine j_c hx hb dL_acts_575 ?_
                  refine Gld hx hb hK hW.1 (3) (by omega) (by omega) dL_acts_576 ?_
                  have r22 : bd (m 3) := hbd 3
                  refine j_zne (tgt := 597) hx hb (by omega) dL_acts_577 (by decide) (fun c23 => ?_) (fun c23 => ?_)
                  · refine lv_iload hx hb dL_acts_597 (lv_at hl 2 rfl) ?_
                    refine j_bi hx hb dL_acts_599 rfl ?_
                    refine j_rem hx hb (by omega) (by omega) dL_acts_601 ?_
                    refine j_zne (tgt := 617) hx hb (by omega) dL_acts_602 (by decide) (fun c24 => ?_) (fun c24 => ?_)
                    · refine lv_aload_n hx hb dL_acts_617 rfl (lv_at hl 5 rfl) ?_
                      refine j_bi hx hb dL_acts_618 rfl ?_
                      refine lv_iload hx hb dL_acts_620 (lv_at hl 0 rfl) ?_
                      refine j_add hx hb dL_acts_622 ?_
                      refine Vld hx hb hK hW.1 (20 + x.toNat) (by omega) (by omega) dL_acts_623 ?_
                      have r25 : bd (m (20 + x.toNat)) := hbd (20 + x.toNat)
                      refine lv_aload_n hx hb dL_acts_624 rfl (lv_at hl 4 rfl) ?_
                      refine j_c hx hb dL_acts_625 ?_
                      refine Gld hx hb hK hW.1 (3) (by omega) (by omega) dL_acts_626 ?_
                      have r26 : bd (m 3) := hbd 3
                      refine j_ige (tgt := 640) hx hb (by omega) (by omega) dL_acts_627 (by decide) (fun c27 => ?_) (fun c27 => ?_)
                      · refine lv_aload_n hx hb dL_acts_640 rfl (lv_at hl 4 rfl) ?_
                        refine j_c hx hb dL_acts_641 ?_
                        refine Gld hx hb hK hW.1 (3) (by omega) (by omega) dL_acts_642 ?_
                        have r28 : bd (m 3) := hbd 3
                        refine j_c hx hb dL_acts_643 ?_
                        refine j_sub hx hb dL_acts_644 ?_
                        obtain ⟨y, ey⟩ : ∃ zz_ : Int, zz_ = (m 3) - 1 := ⟨_, rfl⟩
                        rw [← ey]
                        have h_y : 0 ≤ y ∧ y < m 3 := by
                          first | omega | exact ⟨by rw [ey]; exact Int.emod_nonneg _ (by omega), by rw [ey]; exact Int.emod_lt_of_pos _ (by omega)⟩
                        refine lv_istore (lv' := [(9, .int (iI (y))), (8, .int (iI (x))), (7, .int (iI (wy))), (6, .int (iI (z))), (0, .ref (g 0)), (1, .ref (ga)), (2, .ref (va)), (3, .ref (ea)), (4, .ref (da)), (5, .int (iI (w)))]) hx hb dL_acts_645 hl (by decide) rfl (fun ls hl => ?_)
                        refine lv_aload_n hx hb dL_acts_647 rfl (lv_at hl 5 rfl) ?_
                        refine lv_aload_n hx hb dL_acts_648 rfl (lv_at hl 6 rfl) ?_
                        refine lv_iload hx hb dL_acts_649 (lv_at hl 1 rfl) ?_
                        refine pl_callS (v := .int (iI (b2i (seatL (fun i => m (32 + i)) x (m 1).toNat ≠ -9 ∨ seatL (fun i => m ((if m 5 ≠ -9 then (37 : Int) else 32).toNat + i)) x (m 1).toNat ≠ -9)))) (n := 3) (w := lw2 cI ga va m (ed2 cL ea da ev dv wL)) (As := [.ref (ga), .ref (va), .int (iI (x))]) (rest := []) ⟨hx, hb, hml, hown, hts⟩ hK (kL_isElder l D cI cV cL ga va (ed2 cL ea da ev dv wL) m hbd ⟨k1, k15⟩ h5 x (by omega)) hW.1 gL_acts_L_isElder rfl (by decide +kernel) ⟨Nat.le_of_ble_eq_true rfl, Nat.le_of_ble_eq_true rfl⟩ rfl hl.1 (Nat.le_of_ble_eq_true rfl) dL_acts_651 ⟨Nat.zero_le _, Nat.zero_le _⟩ rfl ?_
                        refine j_beq (tgt := 676) hx hb dL_acts_654 (by decide) (fun c29 => ?_) (fun c29 => ?_)
                        · refine lv_aload_n hx hb dL_acts_676 rfl (lv_at hl 4 rfl) ?_
                          refine lv_iload hx hb dL_acts_677 (lv_at hl 1 rfl) ?_
                          refine lv_iload hx hb dL_acts_679 (lv_at hl 0 rfl) ?_
                          obtain ⟨wL1, hL1, cM, hI1⟩ := ac_second_no l D hL hI (x := x) (y := y) (by omega) (by omega) h_x h_y (by first | exact Or.inl (fun q => absurd q.1 (by assumption)) | exact Or.inl (fun q => by have := q.2; omega) | exact Or.inr (by omega))
                          refine m_callV (v := some (.int (iI ((-2))))) (ci := 5) (n := 2) (As := [.int (iI (x)), .int (iI (y))]) (rest := []) (st2 := [.int (iI ((-2)))]) (pre := lw2 cI ga va m (ed2 cL ea da ev dv [])) (post := []) (w2 := lw2 cI ga va m (ed2 cL ea da ev dv wL1)) ⟨hx, hb, hml, hown, hts⟩ hK2 hW (cM) (by rw [List.append_nil]; rfl) (by rw [List.append_nil]; rfl) (hL.fst hL1) rfl hL.head gL_acts_X5_second rfl (by decide +kernel) ⟨Nat.le_of_ble_eq_true rfl, Nat.le_of_ble_eq_true rfl⟩ rfl hl.1 (Nat.le_of_ble_eq_true rfl) dL_acts_681 ⟨Nat.zero_le _, Nat.zero_le _⟩ rfl rfl (fun H locs hW => ?_)
                          refine j_bi hx hb dL_acts_684 rfl ?_
                          refine j_ine (tgt := 693) hx hb (by omega) (by omega) dL_acts_686 (by decide) (fun c30 => absurd c30 (by decide)) (fun c30 => ?_)
                          refine j_c hx hb dL_acts_689 ?_
                          refine lv_goto (tgt := 694) hx hb dL_acts_690 (by decide) ?_
                          exact e_zret hx hb hr hlocks hW (by exact ⟨m, ev, dv, wL1, hS, by omega, hL1, rfl⟩) (by first | decide | exact b2i_or) (by rfl) dL_acts_694
                        · refine lv_aload_n hx hb dL_acts_657 rfl (lv_at hl 6 rfl) ?_
                          refine lv_iload hx hb dL_acts_658 (lv_at hl 1 rfl) ?_
                          refine Vld hx hb hK hW.1 (8 + x.toNat) (by omega) (by omega) dL_acts_660 ?_
                          have r31 : bd (m (8 + x.toNat)) := hbd (8 + x.toNat)
                          refine j_zeq (tgt := 676) hx hb (by omega) dL_acts_661 (by decide) (fun c32 => ?_) (fun c32 => ?_)
                          · refine lv_aload_n hx hb dL_acts_676 rfl (lv_at hl 4 rfl) ?_
                            refine lv_iload hx hb dL_acts_677 (lv_at hl 1 rfl) ?_
                            refine lv_iload hx hb dL_acts_679 (lv_at hl 0 rfl) ?_
                            obtain ⟨wL1, hL1, cM, hI1⟩ := ac_second_no l D hL hI (x := x) (y := y) (by omega) (by omega) h_x h_y (by first | exact Or.inl (fun q => absurd q.1 (by assumption)) | exact Or.inl (fun q => by have := q.2; omega) | exact Or.inr (by omega))
                            refine m_callV (v := some (.int (iI ((-2))))) (ci := 5) (n := 2) (As := [.int (iI (x)), .int (iI (y))]) (rest := []) (st2 := [.int (iI ((-2)))]) (pre := lw2 cI ga va m (ed2 cL ea da ev dv [])) (post := []) (w2 := lw2 cI ga va m (ed2 cL ea da ev dv wL1)) ⟨hx, hb, hml, hown, hts⟩ hK2 hW (cM) (by rw [List.append_nil]; rfl) (by rw [List.append_nil]; rfl) (hL.fst hL1) rfl hL.head gL_acts_X5_second rfl (by decide +kernel) ⟨Nat.le_of_ble_eq_true rfl, Nat.le_of_ble_eq_true rfl⟩ rfl hl.1 (Nat.le_of_ble_eq_true rfl) dL_acts_681 ⟨Nat.zero_le _, Nat.zero_le _⟩ rfl rfl (fun H locs hW => ?_)
                            refine j_bi hx hb dL_acts_684 rfl ?_
                            refine j_ine (tgt := 693) hx hb (by omega) (by omega) dL_acts_686 (by decide) (fun c33 => absurd c33 (by decide)) (fun c33 => ?_)
                            refine j_c hx hb dL_acts_689 ?_
                            refine lv_goto (tgt := 694) hx hb dL_acts_690 (by decide) ?_
                            exact e_zret hx hb hr hlocks hW (by exact ⟨m, ev, dv, wL1, hS, by omega, hL1, rfl⟩) (by first | decide | exact b2i_or) (by rfl) dL_acts_694
                          · refine lv_aload_n hx hb dL_acts_664 rfl (lv_at hl 6 rfl) ?_
                            refine j_bi hx hb dL_acts_665 rfl ?_
                            refine lv_iload hx hb dL_acts_667 (lv_at hl 1 rfl) ?_
                            refine j_add hx hb dL_acts_669 ?_
                            refine Vld hx hb hK hW.1 (20 + x.toNat) (by omega) (by omega) dL_acts_670 ?_
                            have r34 : bd (m (20 + x.toNat)) := hbd (20 + x.toNat)
                            refine lv_iload hx hb dL_acts_671 (lv_at hl 0 rfl) ?_
                            refine j_ieq (tgt := 695) hx hb (by omega) (by omega) dL_acts_673 (by decide) (fun c35 => ?_) (fun c35 => ?_)
                            · refine lv_aload_n hx hb dL_acts_695 rfl (lv_at hl 6 rfl) ?_
                              refine j_bi hx hb dL_acts_696 rfl ?_
                              refine lv_iload hx hb dL_acts_698 (lv_at hl 1 rfl) ?_
                              refine j_add hx hb dL_acts_700 ?_
                              refine lv_dup2_11 hx hb dL_acts_701 rfl rfl ?_
                              refine Vld hx hb hK hW.1 (20 + x.toNat) (by omega) (by omega) dL_acts_702 ?_
                              have r36 : bd (m (20 + x.toNat)) := hbd (20 + x.toNat)
                              refine j_c hx hb dL_acts_703 ?_
                              refine j_add hx hb dL_acts_704 ?_
                              refine Vst hx hb hK hW (20 + x.toNat) (by omega) (by omega) dL_acts_705 (fun H locs hW => ?_)
                              obtain ⟨mu_37, emu_37⟩ : ∃ zz_, zz_ = up m (20 + x.toNat) ((m (20 + x.toNat)) + 1) := ⟨_, rfl⟩
                              rw [← emu_37] at hW
                              have hIc : Inv mu_37 := by
                                rw [emu_37]
                                exact Inv_copy hI (by omega) (by omega)
                              have hSW : SV mu_37 ev dv := SV_keep2 hS hIc (fun j hj => by rw [emu_37, up_ne (by omega)])
                              have g4 := mg_MS (mu_37 3 - mu_37 4).toNat hSW.1.1 hSW.1.2.1
                              have g5 := mg_rg hSW.1.1 hSW.1.2.1 (mu_37 3 - mu_37 4).toNat
                              have gs := SV_mg (mu_37 3 - mu_37 4).toNat hSW
                              have w3 : mu_37 3 = m 3 := by rw [emu_37, up_ne (by omega)]
                              refine lv_aload_n hx hb dL_acts_706 rfl (lv_at hl 4 rfl) ?_
                              refine lv_iload hx hb dL_acts_707 (lv_at hl 1 rfl) ?_
                              refine lv_iload hx hb dL_acts_709 (lv_at hl 0 rfl) ?_
                              obtain ⟨wL1, hL1, cM, hI1⟩ := ac_second l D hL hI (x := x) (y := y) (by omega) (by omega) h_x h_y (fun q => q.elim (fun q => q ⟨by assumption, by omega⟩) (fun q => q (by omega)))
                              rw [← emu_37] at hL1 cM hI1
                              refine m_callV (v := some (.int (iI (mgS (mu_37 3 - mu_37 4).toNat mu_37 4 - mu_37 4)))) (ci := 5) (n := 2) (As := [.int (iI (x)), .int (iI (y))]) (rest := []) (st2 := [.int (iI (mgS (mu_37 3 - mu_37 4).toNat mu_37 4 - mu_37 4))]) (pre := lw2 cI ga va mu_37 (ed2 cL ea da ev dv [])) (post := []) (w2 := lw2 cI ga va mu_37 (ed2 cL ea da ev dv wL1)) ⟨hx, hb, hml, hown, hts⟩ hK2 hW (cM) (by rw [List.append_nil]; rfl) (by rw [List.append_nil]; rfl) (hL.fst hL1) rfl hL.head gL_acts_X5_second rfl (by decide +kernel) ⟨Nat.le_of_ble_eq_true rfl, Nat.le_of_ble_eq_true rfl⟩ rfl hl.1 (Nat.le_of_ble_eq_true rfl) dL_acts_711 ⟨Nat.zero_le _, Nat.zero_le _⟩ rfl rfl (fun H locs hW => ?_)
                              refine lv_aload_n hx hb dL_acts_714 rfl (lv_at hl 5 rfl) ?_
                              refine lv_aload_n hx hb dL_acts_715 rfl (lv_at hl 6 rfl) ?_
                              refine e_callS (v := some (.int (iI (mgS (mu_37 3 - mu_37 4).toNat mu_37 4 - mu_37 4)))) (n := 2) (As := [.ref (ga), .ref (va)]) (rest := [.int (iI (mgS (mu_37 3 - mu_37 4).toNat mu_37 4 - mu_37 4))]) (st2 := [.int (iI (mgS (mu_37 3 - mu_37 4).toNat mu_37 4 - mu_37 4)), .int (iI (mgS (mu_37 3 - mu_37 4).toNat mu_37 4 - mu_37 4))]) (pre := []) (post := ed2 cL ea da ev dv wL1) ⟨hx, hb, hml, hown, hts⟩ hK hW (kL_agree l D cI cV cL ga va mu_37 hSW.1 hSW.2.1.2.2.2) rfl (fun w' e => by subst e; rfl) gL_acts_L_agree rfl (by decide +kernel) ⟨Nat.le_of_ble_eq_true rfl, Nat.le_of_ble_eq_true rfl⟩ rfl hl.1 (Nat.le_of_ble_eq_true rfl) dL_acts_716 ⟨Nat.zero_le _, Nat.zero_le _⟩ rfl rfl (fun w_ H locs hR_ hW => ?_)
                              subst hR_
                              have hW : Wd D (ad (lw2 cI ga va m (ed2 cL ea da ev dv wL))) (lw2 cI ga va (mgS (mu_37 3 - mu_37 4).toNat mu_37) (ed2 cL ea da ev dv wL1)) s0.heap H locs := hW
                              refine j_ine (tgt := 726) hx hb (by omega) (by omega) dL_acts_719 (by decide) (fun c39 => absurd c39 (by omega)) (fun c39 => ?_)
                              refine j_c hx hb dL_acts_722 ?_
                              refine lv_goto (tgt := 727) hx hb dL_acts_723 (by decide) ?_
                              exact e_zret hx hb hr hlocks hW (by exact ⟨mgS (mu_37 3 - mu_37 4).toNat mu_37, ev, dv, wL1, gs.1, by omega, hL1, rfl⟩) (by first | decide | exact b2i_or) (by rfl) dL_acts_727
                            · refine lv_aload_n hx hb dL_acts_676 rfl (lv_at hl 4 rfl) ?_
                              refine lv_iload hx hb dL_acts_677 (lv_at hl 1 rfl) ?_
                              refine lv_iload hx hb dL_acts_679 (lv_at hl 0 rfl) ?_
                              obtain ⟨wL1, hL1, cM, hI1⟩ := ac_second_no l D hL hI (x := x) (y := y) (by omega) (by omega) h_x h_y (by first | exact Or.inl (fun q => absurd q.1 (by assumption)) | exact Or.inl (fun q => by have := q.2; omega) | exact Or.inr (by omega))
                              refine m_callV (v := some (.int (iI ((-2))))) (ci := 5) (n := 2) (As := [.int (iI (x)), .int (iI (y))]) (rest := []) (st2 := [.int (iI ((-2)))]) (pre := lw2 cI ga va m (ed2 cL ea da ev dv [])) (post := []) (w2 := lw2 cI ga va m (ed2 cL ea da ev dv wL1)) ⟨hx, hb, hml, hown, hts⟩ hK2 hW (cM) (by rw [List.append_nil]; rfl) (by rw [List.append_nil]; rfl) (hL.fst hL1) rfl hL.head gL_acts_X5_second rfl (by decide +kernel) ⟨Nat.le_of_ble_eq_true rfl, Nat.le_of_ble_eq_true rfl⟩ rfl hl.1 (Nat.le_of_ble_eq_true rfl) dL_acts_681 ⟨Nat.zero_le _, Nat.zero_le _⟩ rfl rfl (fun H locs hW => ?_)
                              refine j_bi hx hb dL_acts_684 rfl ?_
                              refine j_ine (tgt := 693) hx hb (by omega) (by omega) dL_acts_686 (by decide) (fun c40 => absurd c40 (by decide)) (fun c40 => ?_)
                              refine j_c hx hb dL_acts_689 ?_
                              refine lv_goto (tgt := 694) hx hb dL_acts_690 (by decide) ?_
                              exact e_zret hx hb hr hlocks hW (by exact ⟨m, ev, dv, wL1, hS, by omega, hL1, rfl⟩) (by first | decide | exact b2i_or) (by rfl) dL_acts_694
                      · refine lv_aload_n hx hb dL_acts_630 rfl (lv_at hl 5 rfl) ?_
                        refine j_bi hx hb dL_acts_631 rfl ?_
                        refine lv_iload hx hb dL_acts_633 (lv_at hl 0 rfl) ?_
                        refine j_add hx hb dL_acts_635 ?_
                        refine Vld hx hb hK hW.1 (20 + x.toNat) (by omega) (by omega) dL_acts_636 ?_
                        have r41 : bd (m (20 + x.toNat)) := hbd (20 + x.toNat)
                        refine lv_goto (tgt := 645) hx hb dL_acts_637 (by decide) ?_
                        obtain ⟨y, ey⟩ : ∃ zz_ : Int, zz_ = m (20 + x.toNat) := ⟨_, rfl⟩
                        rw [← ey]
                        have h_y : 0 ≤ y ∧ y < m 3 := by
                          first | omega | exact ⟨by rw [ey]; exact Int.emod_nonneg _ (by omega), by rw [ey]; exact Int.emod_lt_of_pos _ (by omega)⟩
                        refine lv_istore (lv' := [(9, .int (iI (y))), (8, .int (iI (x))), (7, .int (iI (wy))), (6, .int (iI (z))), (0, .ref (g 0)), (1, .ref (ga)), (2, .ref (va)), (3, .ref (ea)), (4, .ref (da)), (5, .int (iI (w)))]) hx hb dL_acts_645 hl (by decide) rfl (fun ls hl => ?_)
                        refine lv_aload_n hx hb dL_acts_647 rfl (lv_at hl 5 rfl) ?_
                        refine lv_aload_n hx hb dL_acts_648 rfl (lv_at hl 6 rfl) ?_
                        refine lv_iload hx hb dL_acts_649 (lv_at hl 1 rfl) ?_
                        refine pl_callS (v := .int (iI (b2i (seatL (fun i => m (32 + i)) x (m 1).toNat ≠ -9 ∨ seatL (fun i => m ((if m 5 ≠ -9 then (37 : Int) else 32).toNat + i)) x (m 1).toNat ≠ -9)))) (n := 3) (w := lw2 cI ga va m (ed2 cL ea da ev dv wL)) (As := [.ref (ga), .ref (va), .int (iI (x))]) (rest := []) ⟨hx, hb, hml, hown, hts⟩ hK (kL_isElder l D cI cV cL ga va (ed2 cL ea da ev dv wL) m hbd ⟨k1, k15⟩ h5 x (by omega)) hW.1 gL_acts_L_isElder rfl (by decide +kernel) ⟨Nat.le_of_ble_eq_true rfl, Nat.le_of_ble_eq_true rfl⟩ rfl hl.1 (Nat.le_of_ble_eq_true rfl) dL_acts_651 ⟨Nat.zero_le _, Nat.zero_le _⟩ rfl ?_
                        refine j_beq (tgt := 676) hx hb dL_acts_654 (by decide) (fun c42 => ?_) (fun c42 => ?_)
                        · refine lv_aload_n hx hb dL_acts_676 rfl (lv_at hl 4 rfl) ?_
                          refine lv_iload hx hb dL_acts_677 (lv_at hl 1 rfl) ?_
                          refine lv_iload hx hb dL_acts_679 (lv_at hl 0 rfl) ?_
                          obtain ⟨wL1, hL1, cM, hI1⟩ := ac_second_no l D hL hI (x := x) (y := y) (by omega) (by omega) h_x h_y (by first | exact Or.inl (fun q => absurd q.1 (by assumption)) | exact Or.inl (fun q => by have := q.2; omega) | exact Or.inr (by omega))
                          refine m_callV (v := some (.int (iI ((-2))))) (ci := 5) (n := 2) (As := [.int (iI (x)), .int (iI (y))]) (rest := []) (st2 := [.int (iI ((-2)))]) (pre := lw2 cI ga va m (ed2 cL ea da ev dv [])) (post := []) (w2 := lw2 cI ga va m (ed2 cL ea da ev dv wL1)) ⟨hx, hb, hml, hown, hts⟩ hK2 hW (cM) (by rw [List.append_nil]; rfl) (by rw [List.append_nil]; rfl) (hL.fst hL1) rfl hL.head gL_acts_X5_second rfl (by decide +kernel) ⟨Nat.le_of_ble_eq_true rfl, Nat.le_of_ble_eq_true rfl⟩ rfl hl.1 (Nat.le_of_ble_eq_true rfl) dL_acts_681 ⟨Nat.zero_le _, Nat.zero_le _⟩ rfl rfl (fun H locs hW => ?_)
                          refine j_bi hx hb dL_acts_684 rfl ?_
                          refine j_ine (tgt := 693) hx hb (by omega) (by omega) dL_acts_686 (by decide) (fun c43 => absurd c43 (by decide)) (fun c43 => ?_)
                          refine j_c hx hb dL_acts_689 ?_
                          refine lv_goto (tgt := 694) hx hb dL_acts_690 (by decide) ?_
                          exact e_zret hx hb hr hlocks hW (by exact ⟨m, ev, dv, wL1, hS, by omega, hL1, rfl⟩) (by first | decide | exact b2i_or) (by rfl) dL_acts_694
                        · refine lv_aload_n hx hb dL_acts_657 rfl (lv_at hl 6 rfl) ?_
                          refine lv_iload hx hb dL_acts_658 (lv_at hl 1 rfl) ?_
                          refine Vld hx hb hK hW.1 (8 + x.toNat) (by omega) (by omega) dL_acts_660 ?_
                          have r44 : bd (m (8 + x.toNat)) := hbd (8 + x.toNat)
                          refine j_zeq (tgt := 676) hx hb (by omega) dL_acts_661 (by decide) (fun c45 => ?_) (fun c45 => ?_)
                          · refine lv_aload_n hx hb dL_acts_676 rfl (lv_at hl 4 rfl) ?_
                            refine lv_iload hx hb dL_acts_677 (lv_at hl 1 rfl) ?_
                            refine lv_iload hx hb dL_acts_679 (lv_at hl 0 rfl) ?_
                            obtain ⟨wL1, hL1, cM, hI1⟩ := ac_second_no l D hL hI (x := x) (y := y) (by omega) (by omega) h_x h_y (by first | exact Or.inl (fun q => absurd q.1 (by assumption)) | exact Or.inl (fun q => by have := q.2; omega) | exact Or.inr (by omega))
                            refine m_callV (v := some (.int (iI ((-2))))) (ci := 5) (n := 2) (As := [.int (iI (x)), .int (iI (y))]) (rest := []) (st2 := [.int (iI ((-2)))]) (pre := lw2 cI ga va m (ed2 cL ea da ev dv [])) (post := []) (w2 := lw2 cI ga va m (ed2 cL ea da ev dv wL1)) ⟨hx, hb, hml, hown, hts⟩ hK2 hW (cM) (by rw [List.append_nil]; rfl) (by rw [List.append_nil]; rfl) (hL.fst hL1) rfl hL.head gL_acts_X5_second rfl (by decide +kernel) ⟨Nat.le_of_ble_eq_true rfl, Nat.le_of_ble_eq_true rfl⟩ rfl hl.1 (Nat.le_of_ble_eq_true rfl) dL_acts_681 ⟨Nat.zero_le _, Nat.zero_le _⟩ rfl rfl (fun H locs hW => ?_)
                            refine j_bi hx hb dL_acts_684 rfl ?_
                            refine j_ine (tgt := 693) hx hb (by omega) (by omega) dL_acts_686 (by decide) (fun c46 => absurd c46 (by decide)) (fun c46 => ?_)
                            refine j_c hx hb dL_acts_689 ?_
                            refine lv_goto (tgt := 694) hx hb dL_acts_690 (by decide) ?_
                            exact e_zret hx hb hr hlocks hW (by exact ⟨m, ev, dv, wL1, hS, by omega, hL1, rfl⟩) (by first | decide | exact b2i_or) (by rfl) dL_acts_694
                          · refine lv_aload_n hx hb dL_acts_664 rfl (lv_at hl 6 rfl) ?_
                            refine j_bi hx hb dL_acts_665 rfl ?_
                            refine lv_iload hx hb dL_acts_667 (lv_at hl 1 rfl) ?_
                            refine j_add hx hb dL_acts_669 ?_
                            refine Vld hx hb hK hW.1 (20 + x.toNat) (by omega) (by omega) dL_acts_670 ?_
                            have r47 : bd (m (20 + x.toNat)) := hbd (20 + x.toNat)
                            refine lv_iload hx hb dL_acts_671 (lv_at hl 0 rfl) ?_
                            refine j_ieq (tgt := 695) hx hb (by omega) (by omega) dL_acts_673 (by decide) (fun c48 => ?_) (fun c48 => ?_)
                            · refine lv_aload_n hx hb dL_acts_695 rfl (lv_at hl 6 rfl) ?_
                              refine j_bi hx hb dL_acts_696 rfl ?_
                              refine lv_iload hx hb dL_acts_698 (lv_at hl 1 rfl) ?_
                              refine j_add hx hb dL_acts_700 ?_
                              refine lv_dup2_11 hx hb dL_acts_701 rfl rfl ?_
                              refine Vld hx hb hK hW.1 (20 + x.toNat) (by omega) (by omega) dL_acts_702 ?_
                              have r49 : bd (m (20 + x.toNat)) := hbd (20 + x.toNat)
                              refine j_c hx hb dL_acts_703 ?_
                              refine j_add hx hb dL_acts_704 ?_
                              refine Vst hx hb hK hW (20 + x.toNat) (by omega) (by omega) dL_acts_705 (fun H locs hW => ?_)
                              obtain ⟨mu_50, emu_50⟩ : ∃ zz_, zz_ = up m (20 + x.toNat) ((m (20 + x.toNat)) + 1) := ⟨_, rfl⟩
                              rw [← emu_50] at hW
                              have hIc : Inv mu_50 := by
                                rw [emu_50]
                                exact Inv_copy hI (by omega) (by omega)
                              have hSW : SV mu_50 ev dv := SV_keep2 hS hIc (fun j hj => by rw [emu_50, up_ne (by omega)])
                              have g4 := mg_MS (mu_50 3 - mu_50 4).toNat hSW.1.1 hSW.1.2.1
                              have g5 := mg_rg hSW.1.1 hSW.1.2.1 (mu_50 3 - mu_50 4).toNat
                              have gs := SV_mg (mu_50 3 - mu_50 4).toNat hSW
                              have w3 : mu_50 3 = m 3 := by rw [emu_50, up_ne (by omega)]
                              refine lv_aload_n hx hb dL_acts_706 rfl (lv_at hl 4 rfl) ?_
                              refine lv_iload hx hb dL_acts_707 (lv_at hl 1 rfl) ?_
                              refine lv_iload hx hb dL_acts_709 (lv_at hl 0 rfl) ?_
                              obtain ⟨wL1, hL1, cM, hI1⟩ := ac_second l D hL hI (x := x) (y := y) (by omega) (by omega) h_x h_y (fun q => q.elim (fun q => q ⟨by assumption, by omega⟩) (fun q => q (by omega)))
                              rw [← emu_50] at hL1 cM hI1
                              refine m_callV (v := some (.int (iI (mgS (mu_50 3 - mu_50 4).toNat mu_50 4 - mu_50 4)))) (ci := 5) (n := 2) (As := [.int (iI (x)), .int (iI (y))]) (rest := []) (st2 := [.int (iI (mgS (mu_50 3 - mu_50 4).toNat mu_50 4 - mu_50 4))]) (pre := lw2 cI ga va mu_50 (ed2 cL ea da ev dv [])) (post := []) (w2 := lw2 cI ga va mu_50 (ed2 cL ea da ev dv wL1)) ⟨hx, hb, hml, hown, hts⟩ hK2 hW (cM) (by rw [List.append_nil]; rfl) (by rw [List.append_nil]; rfl) (hL.fst hL1) rfl hL.head gL_acts_X5_second rfl (by decide +kernel) ⟨Nat.le_of_ble_eq_true rfl, Nat.le_of_ble_eq_true rfl⟩ rfl hl.1 (Nat.le_of_ble_eq_true rfl) dL_acts_711 ⟨Nat.zero_le _, Nat.zero_le _⟩ rfl rfl (fun H locs hW => ?_)
                              refine lv_aload_n hx hb dL_acts_714 rfl (lv_at hl 5 rfl) ?_
                              refine lv_aload_n hx hb dL_acts_715 rfl (lv_at hl 6 rfl) ?_
                              refine e_callS (v := some (.int (iI (mgS (mu_50 3 - mu_50 4).toNat mu_50 4 - mu_50 4)))) (n := 2) (As := [.ref (ga), .ref (va)]) (rest := [.int (iI (mgS (mu_50 3 - mu_50 4).toNat mu_50 4 - mu_50 4))]) (st2 := [.int (iI (mgS (mu_50 3 - mu_50 4).toNat mu_50 4 - mu_50 4)), .int (iI (mgS (mu_50 3 - mu_50 4).toNat mu_50 4 - mu_50 4))]) (pre := []) (post := ed2 cL ea da ev dv wL1) ⟨hx, hb, hml, hown, hts⟩ hK hW (kL_agree l D cI cV cL ga va mu_50 hSW.1 hSW.2.1.2.2.2) rfl (fun w' e => by subst e; rfl) gL_acts_L_agree rfl (by decide +kernel) ⟨Nat.le_of_ble_eq_true rfl, Nat.le_of_ble_eq_true rfl⟩ rfl hl.1 (Nat.le_of_ble_eq_true rfl) dL_acts_716 ⟨Nat.zero_le _, Nat.zero_le _⟩ rfl rfl (fun w_ H locs hR_ hW => ?_)
                              subst hR_
                              have hW : Wd D (ad (lw2 cI ga va m (ed2 cL ea da ev dv wL))) (lw2 cI ga va (mgS (mu_50 3 - mu_50 4).toNat mu_50) (ed2 cL ea da ev dv wL1)) s0.heap H locs := hW
                              refine j_ine (tgt := 726) hx hb (by omega) (by omega) dL_acts_719 (by decide) (fun c52 => absurd c52 (by omega)) (fun c52 => ?_)
                              refine j_c hx hb dL_acts_722 ?_
                              refine lv_goto (tgt := 727) hx hb dL_acts_723 (by decide) ?_
                              exact e_zret hx hb hr hlocks hW (by exact ⟨mgS (mu_50 3 - mu_50 4).toNat mu_50, ev, dv, wL1, gs.1, by omega, hL1, rfl⟩) (by first | decide | exact b2i_or) (by rfl) dL_acts_727
                            · refine lv_aload_n hx hb dL_acts_676 rfl (lv_at hl 4 rfl) ?_
                              refine lv_iload hx hb dL_acts_677 (lv_at hl 1 rfl) ?_
                              refine lv_iload hx hb dL_acts_679 (lv_at hl 0 rfl) ?_
                              obtain ⟨wL1, hL1, cM, hI1⟩ := ac_second_no l D hL hI (x := x) (y := y) (by omega) (by omega) h_x h_y (by first | exact Or.inl (fun q => absurd q.1 (by assumption)) | exact Or.inl (fun q => by have := q.2; omega) | exact Or.inr (by omega))
                              refine m_callV (v := some (.int (iI ((-2))))) (ci := 5) (n := 2) (As := [.int (iI (x)), .int (iI (y))]) (rest := []) (st2 := [.int (iI ((-2)))]) (pre := lw2 cI ga va m (ed2 cL ea da ev dv [])) (post := []) (w2 := lw2 cI ga va m (ed2 cL ea da ev dv wL1)) ⟨hx, hb, hml, hown, hts⟩ hK2 hW (cM) (by rw [List.append_nil]; rfl) (by rw [List.append_nil]; rfl) (hL.fst hL1) rfl hL.head gL_acts_X5_second rfl (by decide +kernel) ⟨Nat.le_of_ble_eq_true rfl, Nat.le_of_ble_eq_true rfl⟩ rfl hl.1 (Nat.le_of_ble_eq_true rfl) dL_acts_681 ⟨Nat.zero_le _, Nat.zero_le _⟩ rfl rfl (fun H locs hW => ?_)
                              refine j_bi hx hb dL_acts_684 rfl ?_
                              refine j_ine (tgt := 693) hx hb (by omega) (by omega) dL_acts_686 (by decide) (fun c53 => absurd c53 (by decide)) (fun c53 => ?_)
                              refine j_c hx hb dL_acts_689 ?_
                              refine lv_goto (tgt := 694) hx hb dL_acts_690 (by decide) ?_
                              exact e_zret hx hb hr hlocks hW (by exact ⟨m, ev, dv, wL1, hS, by omega, hL1, rfl⟩) (by first | decide | exact b2i_or) (by rfl) dL_acts_694
                    · refine lv_iload hx hb dL_acts_605 (lv_at hl 2 rfl) ?_
                      refine j_bi hx hb dL_acts_607 rfl ?_
                      refine j_div hx hb (by omega) (by omega) dL_acts_609 ?_
                      refine lv_aload_n hx hb dL_acts_610 rfl (lv_at hl 4 rfl) ?_
                      refine j_c hx hb dL_acts_611 ?_
                      refine Gld hx hb hK hW.1 (3) (by omega) (by omega) dL_acts_612 ?_
                      have r54 : bd (m 3) := hbd 3
                      refine j_rem hx hb (by omega) (by omega) dL_acts_613 ?_
                      refine lv_goto (tgt := 645) hx hb dL_acts_614 (by decide) ?_
                      obtain ⟨y, ey⟩ : ∃ zz_ : Int, zz_ = (z / 84) % (m 3) := ⟨_, rfl⟩
                      rw [← ey]
                      have h_y : 0 ≤ y ∧ y < m 3 := by
                        first | omega | exact ⟨by rw [ey]; exact Int.emod_nonneg _ (by omega), by rw [ey]; exact Int.emod_lt_of_pos _ (by omega)⟩
                      refine lv_istore (lv' := [(9, .int (iI (y))), (8, .int (iI (x))), (7, .int (iI (wy))), (6, .int (iI (z))), (0, .ref (g 0)), (1, .ref (ga)), (2, .ref (va)), (3, .ref (ea)), (4, .ref (da)), (5, .int (iI (w)))]) hx hb dL_acts_645 hl (by decide) rfl (fun ls hl => ?_)
                      refine lv_aload_n hx hb dL_acts_647 rfl (lv_at hl 5 rfl) ?_
                      refine lv_aload_n hx hb dL_acts_648 rfl (lv_at hl 6 rfl) ?_
                      refine lv_iload hx hb dL_acts_649 (lv_at hl 1 rfl) ?_
                      refine pl_callS (v := .int (iI (b2i (seatL (fun i => m (32 + i)) x (m 1).toNat ≠ -9 ∨ seatL (fun i => m ((if m 5 ≠ -9 then (37 : Int) else 32).toNat + i)) x (m 1).toNat ≠ -9)))) (n := 3) (w := lw2 cI ga va m (ed2 cL ea da ev dv wL)) (As := [.ref (ga), .ref (va), .int (iI (x))]) (rest := []) ⟨hx, hb, hml, hown, hts⟩ hK (kL_isElder l D cI cV cL ga va (ed2 cL ea da ev dv wL) m hbd ⟨k1, k15⟩ h5 x (by omega)) hW.1 gL_acts_L_isElder rfl (by decide +kernel) ⟨Nat.le_of_ble_eq_true rfl, Nat.le_of_ble_eq_true rfl⟩ rfl hl.1 (Nat.le_of_ble_eq_true rfl) dL_acts_651 ⟨Nat.zero_le _, Nat.zero_le _⟩ rfl ?_
                      refine j_beq (tgt := 676) hx hb dL_acts_654 (by decide) (fun c55 => ?_) (fun c55 => ?_)
                      · refine lv_aload_n hx hb dL_acts_676 rfl (lv_at hl 4 rfl) ?_
                        refine lv_iload hx hb dL_acts_677 (lv_at hl 1 rfl) ?_
                        refine lv_iload hx hb dL_acts_679 (lv_at hl 0 rfl) ?_
                        obtain ⟨wL1, hL1, cM, hI1⟩ := ac_second_no l D hL hI (x := x) (y := y) (by omega) (by omega) h_x h_y (by first | exact Or.inl (fun q => absurd q.1 (by assumption)) | exact Or.inl (fun q => by have := q.2; omega) | exact Or.inr (by omega))
                        refine m_callV (v := some (.int (iI ((-2))))) (ci := 5) (n := 2) (As := [.int (iI (x)), .int (iI (y))]) (rest := []) (st2 := [.int (iI ((-2)))]) (pre := lw2 cI ga va m (ed2 cL ea da ev dv [])) (post := []) (w2 := lw2 cI ga va m (ed2 cL ea da ev dv wL1)) ⟨hx, hb, hml, hown, hts⟩ hK2 hW (cM) (by rw [List.append_nil]; rfl) (by rw [List.append_nil]; rfl) (hL.fst hL1) rfl hL.head gL_acts_X5_second rfl (by decide +kernel) ⟨Nat.le_of_ble_eq_true rfl, Nat.le_of_ble_eq_true rfl⟩ rfl hl.1 (Nat.le_of_ble_eq_true rfl) dL_acts_681 ⟨Nat.zero_le _, Nat.zero_le _⟩ rfl rfl (fun H locs hW => ?_)
                        refine j_bi hx hb dL_acts_684 rfl ?_
                        refine j_ine (tgt := 693) hx hb (by omega) (by omega) dL_acts_686 (by decide) (fun c56 => absurd c56 (by decide)) (fun c56 => ?_)
                        refine j_c hx hb dL_acts_689 ?_
                        refine lv_goto (tgt := 694) hx hb dL_acts_690 (by decide) ?_
                        exact e_zret hx hb hr hlocks hW (by exact ⟨m, ev, dv, wL1, hS, by omega, hL1, rfl⟩) (by first | decide | exact b2i_or) (by rfl) dL_acts_694
                      · refine lv_aload_n hx hb dL_acts_657 rfl (lv_at hl 6 rfl) ?_
                        refine lv_iload hx hb dL_acts_658 (lv_at hl 1 rfl) ?_
                        refine Vld hx hb hK hW.1 (8 + x.toNat) (by omega) (by omega) dL_acts_660 ?_
                        have r57 : bd (m (8 + x.toNat)) := hbd (8 + x.toNat)
                        refine j_zeq (tgt := 676) hx hb (by omega) dL_acts_661 (by decide) (fun c58 => ?_) (fun c58 => ?_)
                        · refine lv_aload_n hx hb dL_acts_676 rfl (lv_at hl 4 rfl) ?_
                          refine lv_iload hx hb dL_acts_677 (lv_at hl 1 rfl) ?_
                          refine lv_iload hx hb dL_acts_679 (lv_at hl 0 rfl) ?_
                          obtain ⟨wL1, hL1, cM, hI1⟩ := ac_second_no l D hL hI (x := x) (y := y) (by omega) (by omega) h_x h_y (by first | exact Or.inl (fun q => absurd q.1 (by assumption)) | exact Or.inl (fun q => by have := q.2; omega) | exact Or.inr (by omega))
                          refine m_callV (v := some (.int (iI ((-2))))) (ci := 5) (n := 2) (As := [.int (iI (x)), .int (iI (y))]) (rest := []) (st2 := [.int (iI ((-2)))]) (pre := lw2 cI ga va m (ed2 cL ea da ev dv [])) (post := []) (w2 := lw2 cI ga va m (ed2 cL ea da ev dv wL1)) ⟨hx, hb, hml, hown, hts⟩ hK2 hW (cM) (by rw [List.append_nil]; rfl) (by rw [List.append_nil]; rfl) (hL.fst hL1) rfl hL.head gL_acts_X5_second rfl (by decide +kernel) ⟨Nat.le_of_ble_eq_true rfl, Nat.le_of_ble_eq_true rfl⟩ rfl hl.1 (Nat.le_of_ble_eq_true rfl) dL_acts_681 ⟨Nat.zero_le _, Nat.zero_le _⟩ rfl rfl (fun H locs hW => ?_)
                          refine j_bi hx hb dL_acts_684 rfl ?_
                          refine j_ine (tgt := 693) hx hb (by omega) (by omega) dL_acts_686 (by decide) (fun c59 => absurd c59 (by decide)) (fun c59 => ?_)
                          refine j_c hx hb dL_acts_689 ?_
                          refine lv_goto (tgt := 694) hx hb dL_acts_690 (by decide) ?_
                          exact e_zret hx hb hr hlocks hW (by exact ⟨m, ev, dv, wL1, hS, by omega, hL1, rfl⟩) (by first | decide | exact b2i_or) (by rfl) dL_acts_694
                        · refine lv_aload_n hx hb dL_acts_664 rfl (lv_at hl 6 rfl) ?_
                          refine j_bi hx hb dL_acts_665 rfl ?_
                          refine lv_iload hx hb dL_acts_667 (lv_at hl 1 rfl) ?_
                          refine j_add hx hb dL_acts_669 ?_
                          refine Vld hx hb hK hW.1 (20 + x.toNat) (by omega) (by omega) dL_acts_670 ?_
                          have r60 : bd (m (20 + x.toNat)) := hbd (20 + x.toNat)
                          refine lv_iload hx hb dL_acts_671 (lv_at hl 0 rfl) ?_
                          refine j_ieq (tgt := 695) hx hb (by omega) (by omega) dL_acts_673 (by decide) (fun c61 => ?_) (fun c61 => ?_)
                          · refine lv_aload_n hx hb dL_acts_695 rfl (lv_at hl 6 rfl) ?_
                            refine j_bi hx hb dL_acts_696 rfl ?_
                            refine lv_iload hx hb dL_acts_698 (lv_at hl 1 rfl) ?_
                            refine j_add hx hb dL_acts_700 ?_
                            refine lv_dup2_11 hx hb dL_acts_701 rfl rfl ?_
                            refine Vld hx hb hK hW.1 (20 + x.toNat) (by omega) (by omega) dL_acts_702 ?_
                            have r62 : bd (m (20 + x.toNat)) := hbd (20 + x.toNat)
                            refine j_c hx hb dL_acts_703 ?_
                            refine j_add hx hb dL_acts_704 ?_
                            refine Vst hx hb hK hW (20 + x.toNat) (by omega) (by omega) dL_acts_705 (fun H locs hW => ?_)
                            obtain ⟨mu_63, emu_63⟩ : ∃ zz_, zz_ = up m (20 + x.toNat) ((m (20 + x.toNat)) + 1) := ⟨_, rfl⟩
                            rw [← emu_63] at hW
                            have hIc : Inv mu_63 := by
                              rw [emu_63]
                              exact Inv_copy hI (by omega) (by omega)
                            have hSW : SV mu_63 ev dv := SV_keep2 hS hIc (fun j hj => by rw [emu_63, up_ne (by omega)])
                            have g4 := mg_MS (mu_63 3 - mu_63 4).toNat hSW.1.1 hSW.1.2.1
                            have g5 := mg_rg hSW.1.1 hSW.1.2.1 (mu_63 3 - mu_63 4).toNat
                            have gs := SV_mg (mu_63 3 - mu_63 4).toNat hSW
                            have w3 : mu_63 3 = m 3 := by rw [emu_63, up_ne (by omega)]
                            refine lv_aload_n hx hb dL_acts_706 rfl (lv_at hl 4 rfl) ?_
                            refine lv_iload hx hb dL_acts_707 (lv_at hl 1 rfl) ?_
                            refine lv_iload hx hb dL_acts_709 (lv_at hl 0 rfl) ?_
                            obtain ⟨wL1, hL1, cM, hI1⟩ := ac_second l D hL hI (x := x) (y := y) (by omega) (by omega) h_x h_y (fun q => q.elim (fun q => q ⟨by assumption, by omega⟩) (fun q => q (by omega)))
                            rw [← emu_63] at hL1 cM hI1
                            refine m_callV (v := some (.int (iI (mgS (mu_63 3 - mu_63 4).toNat mu_63 4 - mu_63 4)))) (ci := 5) (n := 2) (As := [.int (iI (x)), .int (iI (y))]) (rest := []) (st2 := [.int (iI (mgS (mu_63 3 - mu_63 4).toNat mu_63 4 - mu_63 4))]) (pre := lw2 cI ga va mu_63 (ed2 cL ea da ev dv [])) (post := []) (w2 := lw2 cI ga va mu_63 (ed2 cL ea da ev dv wL1)) ⟨hx, hb, hml, hown, hts⟩ hK2 hW (cM) (by rw [List.append_nil]; rfl) (by rw [List.append_nil]; rfl) (hL.fst hL1) rfl hL.head gL_acts_X5_second rfl (by decide +kernel) ⟨Nat.le_of_ble_eq_true rfl, Nat.le_of_ble_eq_true rfl⟩ rfl hl.1 (Nat.le_of_ble_eq_true rfl) dL_acts_711 ⟨Nat.zero_le _, Nat.zero_le _⟩ rfl rfl (fun H locs hW => ?_)
                            refine lv_aload_n hx hb dL_acts_714 rfl (lv_at hl 5 rfl) ?_
                            refine lv_aload_n hx hb dL_acts_715 rfl (lv_at hl 6 rfl) ?_
                            refine e_callS (v := some (.int (iI (mgS (mu_63 3 - mu_63 4).toNat mu_63 4 - mu_63 4)))) (n := 2) (As := [.ref (ga), .ref (va)]) (rest := [.int (iI (mgS (mu_63 3 - mu_63 4).toNat mu_63 4 - mu_63 4))]) (st2 := [.int (iI (mgS (mu_63 3 - mu_63 4).toNat mu_63 4 - mu_63 4)), .int (iI (mgS (mu_63 3 - mu_63 4).toNat mu_63 4 - mu_63 4))]) (pre := []) (post := ed2 cL ea da ev dv wL1) ⟨hx, hb, hml, hown, hts⟩ hK hW (kL_agree l D cI cV cL ga va mu_63 hSW.1 hSW.2.1.2.2.2) rfl (fun w' e => by subst e; rfl) gL_acts_L_agree rfl (by decide +kernel) ⟨Nat.le_of_ble_eq_true rfl, Nat.le_of_ble_eq_true rfl⟩ rfl hl.1 (Nat.le_of_ble_eq_true rfl) dL_acts_716 ⟨Nat.zero_le _, Nat.zero_le _⟩ rfl rfl (fun w_ H locs hR_ hW => ?_)
                            subst hR_
                            have hW : Wd D (ad (lw2 cI ga va m (ed2 cL ea da ev dv wL))) (lw2 cI ga va (mgS (mu_63 3 - mu_63 4).toNat mu_63) (ed2 cL ea da ev dv wL1)) s0.heap H locs := hW
                            refine j_ine (tgt := 726) hx hb (by omega) (by omega) dL_acts_719 (by decide) (fun c65 => absurd c65 (by omega)) (fun c65 => ?_)
                            refine j_c hx hb dL_acts_722 ?_
                            refine lv_goto (tgt := 727) hx hb dL_acts_723 (by decide) ?_
                            exact e_zret hx hb hr hlocks hW (by exact ⟨mgS (mu_63 3 - mu_63 4).toNat mu_63, ev, dv, wL1, gs.1, by omega, hL1, rfl⟩) (by first | decide | exact b2i_or) (by rfl) dL_acts_727
                          · refine lv_aload_n hx hb dL_acts_676 rfl (lv_at hl 4 rfl) ?_
                            refine lv_iload hx hb dL_acts_677 (lv_at hl 1 rfl) ?_
                            refine lv_iload hx hb dL_acts_679 (lv_at hl 0 rfl) ?_
                            obtain ⟨wL1, hL1, cM, hI1⟩ := ac_second_no l D hL hI (x := x) (y := y) (by omega) (by omega) h_x h_y (by first | exact Or.inl (fun q => absurd q.1 (by assumption)) | exact Or.inl (fun q => by have := q.2; omega) | exact Or.inr (by omega))
                            refine m_callV (v := some (.int (iI ((-2))))) (ci := 5) (n := 2) (As := [.int (iI (x)), .int (iI (y))]) (rest := []) (st2 := [.int (iI ((-2)))]) (pre := lw2 cI ga va m (ed2 cL ea da ev dv [])) (post := []) (w2 := lw2 cI ga va m (ed2 cL ea da ev dv wL1)) ⟨hx, hb, hml, hown, hts⟩ hK2 hW (cM) (by rw [List.append_nil]; rfl) (by rw [List.append_nil]; rfl) (hL.fst hL1) rfl hL.head gL_acts_X5_second rfl (by decide +kernel) ⟨Nat.le_of_ble_eq_true rfl, Nat.le_of_ble_eq_true rfl⟩ rfl hl.1 (Nat.le_of_ble_eq_true rfl) dL_acts_681 ⟨Nat.zero_le _, Nat.zero_le _⟩ rfl rfl (fun H locs hW => ?_)
                            refine j_bi hx hb dL_acts_684 rfl ?_
                            refine j_ine (tgt := 693) hx hb (by omega) (by omega) dL_acts_686 (by decide) (fun c66 => absurd c66 (by decide)) (fun c66 => ?_)
                            refine j_c hx hb dL_acts_689 ?_
                            refine lv_goto (tgt := 694) hx hb dL_acts_690 (by decide) ?_
                            exact e_zret hx hb hr hlocks hW (by exact ⟨m, ev, dv, wL1, hS, by omega, hL1, rfl⟩) (by first | decide | exact b2i_or) (by rfl) dL_acts_694
                  · refine lv_aload_n hx hb dL_acts_580 rfl (lv_at hl 3 rfl) ?_
                    refine lv_iload hx hb dL_acts_581 (lv_at hl 0 rfl) ?_
                    refine j_c hx hb dL_acts_583 ?_
                    obtain ⟨wL1, hL1, cM, hI1⟩ := ac_second_e l D hL hI (x := x) (y := 0) (by omega) (by decide) h_x (by omega)
                    refine m_callV (v := some (.int (iI ((-1))))) (ci := 5) (n := 2) (As := [.int (iI (x)), .int (iI (0))]) (rest := []) (st2 := [.int (iI ((-1)))]) (pre := lw2 cI ga va m (ed2 cL ea da ev dv [])) (post := []) (w2 := lw2 cI ga va m (ed2 cL ea da ev dv wL1)) ⟨hx, hb, hml, hown, hts⟩ hK2 hW (cM) (by rw [List.append_nil]; rfl) (by rw [List.append_nil]; rfl) (hL.fst hL1) rfl hL.head gL_acts_X5_second rfl (by decide +kernel) ⟨Nat.le_of_ble_eq_true rfl, Nat.le_of_ble_eq_true rfl⟩ rfl hl.1 (Nat.le_of_ble_eq_true rfl) dL_acts_584 ⟨Nat.zero_le _, Nat.zero_le _⟩ rfl rfl (fun H locs hW => ?_)
                    refine j_c hx hb dL_acts_587 ?_
                    refine j_ine (tgt := 595) hx hb (by omega) (by omega) dL_acts_588 (by decide) (fun c67 => absurd c67 (by decide)) (fun c67 => ?_)
                    refine j_c hx hb dL_acts_591 ?_
                    refine lv_goto (tgt := 596) hx hb dL_acts_592 (by decide) ?_
                    exact e_zret hx hb hr hlocks hW (by exact ⟨m, ev, dv, wL1, hS, by omega, hL1, rfl⟩) (by first | decide | exact b2i_or) (by rfl) dL_acts_596
                · refine lv_aload_n hx hb dL_acts_491 rfl (lv_at hl 5 rfl) ?_
                  refine lv_iload hx hb dL_acts_492 (lv_at hl 0 rfl) ?_
                  refine Vld hx hb hK hW.1 (8 + x.toNat) (by omega) (by omega) dL_acts_494 ?_
                  have r68 : bd (m (8 + x.toNat)) := hbd (8 + x.toNat)
                  refine j_zne (tgt := 515) hx hb (by omega) dL_acts_495 (by decide) (fun c69 => ?_) (fun c69 => ?_)
                  · refine lv_aload_n hx hb dL_acts_515 rfl (lv_at hl 4 rfl) ?_
                    refine j_c hx hb dL_acts_516 ?_
                    refine Gld hx hb hK hW.1 (4) (by omega) (by omega) dL_acts_517 ?_
                    have r70 : bd (m 4) := hbd 4
                    refine lv_aload_n hx hb dL_acts_518 rfl (lv_at hl 5 rfl) ?_
                    refine j_bi hx hb dL_acts_519 rfl ?_
                    refine lv_iload hx hb dL_acts_521 (lv_at hl 0 rfl) ?_
                    refine j_add hx hb dL_acts_523 ?_
                    refine Vld hx hb hK hW.1 (20 + x.toNat) (by omega) (by omega) dL_acts_524 ?_
                    have r71 : bd (m (20 + x.toNat)) := hbd (20 + x.toNat)
                    refine j_ile (tgt := 542) hx hb (by omega) (by omega) dL_acts_525 (by decide) (fun c72 => ?_) (fun c72 => ?_)
                    · refine j_c hx hb dL_acts_542 ?_
                      refine lv_istore (lv' := [(9, .int (iI (0))), (8, .int (iI (x))), (7, .int (iI (wy))), (6, .int (iI (z))), (0, .ref (g 0)), (1, .ref (ga)), (2, .ref (va)), (3, .ref (ea)), (4, .ref (da)), (5, .int (iI (w)))]) hx hb dL_acts_543 hl (by decide) rfl (fun ls hl => ?_)
                      refine lv_aload_n hx hb dL_acts_545 rfl (lv_at hl 6 rfl) ?_
                      refine j_bi hx hb dL_acts_546 rfl ?_
                      refine lv_iload hx hb dL_acts_548 (lv_at hl 1 rfl) ?_
                      refine j_add hx hb dL_acts_550 ?_
                      refine lv_dup2_11 hx hb dL_acts_551 rfl rfl ?_
                      refine Vld hx hb hK hW.1 (20 + x.toNat) (by omega) (by omega) dL_acts_552 ?_
                      have r73 : bd (m (20 + x.toNat)) := hbd (20 + x.toNat)
                      refine lv_iload hx hb dL_acts_553 (lv_at hl 0 rfl) ?_
                      refine j_add hx hb dL_acts_555 ?_
                      refine Vst hx hb hK hW (20 + x.toNat) (by omega) (by omega) dL_acts_556 (fun H locs hW => ?_)
                      obtain ⟨mu_74, emu_74⟩ : ∃ zz_, zz_ = up m (20 + x.toNat) ((m (20 + x.toNat)) + 0) := ⟨_, rfl⟩
                      rw [← emu_74] at hW
                      refine lv_aload_n hx hb dL_acts_557 rfl (lv_at hl 4 rfl) ?_
                      refine lv_iload hx hb dL_acts_558 (lv_at hl 1 rfl) ?_
                      obtain ⟨wL1, hL1, cM, hI1⟩ := ac_learn l D hL hI (x := x) (by omega) h_x (by omega)
                      refine m_callV (v := some (.int (iI (max 0 (m 4 - m (20 + x.toNat)))))) (ci := 5) (n := 1) (As := [.int (iI (x))]) (rest := []) (st2 := [.int (iI (max 0 (m 4 - m (20 + x.toNat))))]) (pre := lw2 cI ga va mu_74 (ed2 cL ea da ev dv [])) (post := []) (w2 := lw2 cI ga va mu_74 (ed2 cL ea da ev dv wL1)) ⟨hx, hb, hml, hown, hts⟩ hK2 hW (cM) (by rw [List.append_nil]; rfl) (by rw [List.append_nil]; rfl) (hL.fst hL1) rfl hL.head gL_acts_X5_learn rfl (by decide +kernel) ⟨Nat.le_of_ble_eq_true rfl, Nat.le_of_ble_eq_true rfl⟩ rfl hl.1 (Nat.le_of_ble_eq_true rfl) dL_acts_560 ⟨Nat.zero_le _, Nat.zero_le _⟩ rfl rfl (fun H locs hW => ?_)
                      refine lv_iload hx hb dL_acts_563 (lv_at hl 0 rfl) ?_
                      refine j_ine (tgt := 572) hx hb (by omega) (by omega) dL_acts_565 (by decide) (fun c75 => absurd c75 (by omega)) (fun c75 => ?_)
                      refine j_c hx hb dL_acts_568 ?_
                      refine lv_goto (tgt := 573) hx hb dL_acts_569 (by decide) ?_
                      exact e_zret hx hb hr hlocks hW (by have hz : mu_74 = up m (20 + x.toNat) (m (20 + x.toNat) + max 0 (m 4 - m (20 + x.toNat))) := (by rw [emu_74]; exact congrArg (up m (20 + x.toNat)) (by omega)); rw [hz]; exact LS_keep hS hI1 (fun j hj => by rw [up_ne (by omega)]) ht hL1) (by first | decide | exact b2i_or) (by rfl) dL_acts_573
                    · refine lv_aload_n hx hb dL_acts_528 rfl (lv_at hl 4 rfl) ?_
                      refine j_c hx hb dL_acts_529 ?_
                      refine Gld hx hb hK hW.1 (4) (by omega) (by omega) dL_acts_530 ?_
                      have r76 : bd (m 4) := hbd 4
                      refine lv_aload_n hx hb dL_acts_531 rfl (lv_at hl 5 rfl) ?_
                      refine j_bi hx hb dL_acts_532 rfl ?_
                      refine lv_iload hx hb dL_acts_534 (lv_at hl 0 rfl) ?_
                      refine j_add hx hb dL_acts_536 ?_
                      refine Vld hx hb hK hW.1 (20 + x.toNat) (by omega) (by omega) dL_acts_537 ?_
                      have r77 : bd (m (20 + x.toNat)) := hbd (20 + x.toNat)
                      refine j_sub hx hb dL_acts_538 ?_
                      refine lv_goto (tgt := 543) hx hb dL_acts_539 (by decide) ?_
                      refine lv_istore (lv' := [(9, .int (iI ((m 4) - (m (20 + x.toNat))))), (8, .int (iI (x))), (7, .int (iI (wy))), (6, .int (iI (z))), (0, .ref (g 0)), (1, .ref (ga)), (2, .ref (va)), (3, .ref (ea)), (4, .ref (da)), (5, .int (iI (w)))]) hx hb dL_acts_543 hl (by decide) rfl (fun ls hl => ?_)
                      refine lv_aload_n hx hb dL_acts_545 rfl (lv_at hl 6 rfl) ?_
                      refine j_bi hx hb dL_acts_546 rfl ?_
                      refine lv_iload hx hb dL_acts_548 (lv_at hl 1 rfl) ?_
                      refine j_add hx hb dL_acts_550 ?_
                      refine lv_dup2_11 hx hb dL_acts_551 rfl rfl ?_
                      refine Vld hx hb hK hW.1 (20 + x.toNat) (by omega) (by omega) dL_acts_552 ?_
                      have r78 : bd (m (20 + x.toNat)) := hbd (20 + x.toNat)
                      refine lv_iload hx hb dL_acts_553 (lv_at hl 0 rfl) ?_
                      refine j_add hx hb dL_acts_555 ?_
                      refine Vst hx hb hK hW (20 + x.toNat) (by omega) (by omega) dL_acts_556 (fun H locs hW => ?_)
                      obtain ⟨mu_79, emu_79⟩ : ∃ zz_, zz_ = up m (20 + x.toNat) ((m (20 + x.toNat)) + ((m 4) - (m (20 + x.toNat)))) := ⟨_, rfl⟩
                      rw [← emu_79] at hW
                      refine lv_aload_n hx hb dL_acts_557 rfl (lv_at hl 4 rfl) ?_
                      refine lv_iload hx hb dL_acts_558 (lv_at hl 1 rfl) ?_
                      obtain ⟨wL1, hL1, cM, hI1⟩ := ac_learn l D hL hI (x := x) (by omega) h_x (by omega)
                      refine m_callV (v := some (.int (iI (max 0 (m 4 - m (20 + x.toNat)))))) (ci := 5) (n := 1) (As := [.int (iI (x))]) (rest := []) (st2 := [.int (iI (max 0 (m 4 - m (20 + x.toNat))))]) (pre := lw2 cI ga va mu_79 (ed2 cL ea da ev dv [])) (post := []) (w2 := lw2 cI ga va mu_79 (ed2 cL ea da ev dv wL1)) ⟨hx, hb, hml, hown, hts⟩ hK2 hW (cM) (by rw [List.append_nil]; rfl) (by rw [List.append_nil]; rfl) (hL.fst hL1) rfl hL.head gL_acts_X5_learn rfl (by decide +kernel) ⟨Nat.le_of_ble_eq_true rfl, Nat.le_of_ble_eq_true rfl⟩ rfl hl.1 (Nat.le_of_ble_eq_true rfl) dL_acts_560 ⟨Nat.zero_le _, Nat.zero_le _⟩ rfl rfl (fun H locs hW => ?_)
                      refine lv_iload hx hb dL_acts_563 (lv_at hl 0 rfl) ?_
                      refine j_ine (tgt := 572) hx hb (by omega) (by omega) dL_acts_565 (by decide) (fun c80 => absurd c80 (by omega)) (fun c80 => ?_)
                      refine j_c hx hb dL_acts_568 ?_
                      refine lv_goto (tgt := 573) hx hb dL_acts_569 (by decide) ?_
                      exact e_zret hx hb hr hlocks hW (by have hz : mu_79 = up m (20 + x.toNat) (m (20 + x.toNat) + max 0 (m 4 - m (20 + x.toNat))) := (by rw [emu_79]; exact congrArg (up m (20 + x.toNat)) (by omega)); rw [hz]; exact LS_keep hS hI1 (fun j hj => by rw [up_ne (by omega)]) ht hL1) (by first | decide | exact b2i_or) (by rfl) dL_acts_573
                  · refine lv_aload_n hx hb dL_acts_498 rfl (lv_at hl 3 rfl) ?_
                    refine lv_iload hx hb dL_acts_499 (lv_at hl 0 rfl) ?_
                    obtain ⟨wL1, hL1, cM, hI1⟩ := ac_learn_no l D hL hI (x := x) (by omega) h_x (by omega)
                    refine m_callV (v := some (.int (iI ((-2))))) (ci := 5) (n := 1) (As := [.int (iI (x))]) (rest := []) (st2 := [.int (iI ((-2)))]) (pre := lw2 cI ga va m (ed2 cL ea da ev dv [])) (post := []) (w2 := lw2 cI ga va m (ed2 cL ea da ev dv wL1)) ⟨hx, hb, hml, hown, hts⟩ hK2 hW (cM) (by rw [List.append_nil]; rfl) (by rw [List.append_nil]; rfl) (hL.fst hL1) rfl hL.head gL_acts_X5_learn rfl (by decide +kernel) ⟨Nat.le_of_ble_eq_true rfl, Nat.le_of_ble_eq_true rfl⟩ rfl hl.1 (Nat.le_of_ble_eq_true rfl) dL_acts_501 ⟨Nat.zero_le _, Nat.zero_le _⟩ rfl rfl (fun H locs hW => ?_)
                    refine j_bi hx hb dL_acts_504 rfl ?_
                    refine j_ine (tgt := 513) hx hb (by omega) (by omega) dL_acts_506 (by decide) (fun c81 => absurd c81 (by decide)) (fun c81 => ?_)
                    refine j_c hx hb dL_acts_509 ?_
                    refine lv_goto (tgt := 514) hx hb dL_acts_510 (by decide) ?_
                    exact e_zret hx hb hr hlocks hW (by exact ⟨m, ev, dv, wL1, hS, by omega, hL1, rfl⟩) (by first | decide | exact b2i_or) (by rfl) dL_acts_514
              · refine lv_iload hx hb dL_acts_380 (lv_at hl 2 rfl) ?_
                refine j_bi hx hb dL_acts_382 rfl ?_
                refine j_div hx hb (by omega) (by omega) dL_acts_384 ?_
                refine j_si hx hb dL_acts_385 rfl ?_
                refine j_rem hx hb (by omega) (by omega) dL_acts_388 ?_
                obtain ⟨y, ey⟩ : ∃ zz_ : Int, zz_ = (z / 12) % 1000 := ⟨_, rfl⟩
                rw [← ey]
                have h_y : 0 ≤ y ∧ y ≤ 999 := by omega
                refine lv_istore (lv' := [(9, .int (iI (y))), (8, .int (iI (x))), (7, .int (iI (wy))), (6, .int (iI (z))), (0, .ref (g 0)), (1, .ref (ga)), (2, .ref (va)), (3, .ref (ea)), (4, .ref (da)), (5, .int (iI (w)))]) hx hb dL_acts_389 hl (by decide) rfl (fun ls hl => ?_)
                refine lv_aload_n hx hb dL_acts_391 rfl (lv_at hl 5 rfl) ?_
                refine lv_aload_n hx hb dL_acts_392 rfl (lv_at hl 6 rfl) ?_
                refine lv_iload hx hb dL_acts_393 (lv_at hl 1 rfl) ?_
                refine pl_callS (v := .int (iI (b2i (seatL (fun i => m (32 + i)) x (m 1).toNat ≠ -9 ∨ seatL (fun i => m ((if m 5 ≠ -9 then (37 : Int) else 32).toNat + i)) x (m 1).toNat ≠ -9)))) (n := 3) (w := lw2 cI ga va m (ed2 cL ea da ev dv wL)) (As := [.ref (ga), .ref (va), .int (iI (x))]) (rest := []) ⟨hx, hb, hml, hown, hts⟩ hK (kL_isElder l D cI cV cL ga va (ed2 cL ea da ev dv wL) m hbd ⟨k1, k15⟩ h5 x (by omega)) hW.1 gL_acts_L_isElder rfl (by decide +kernel) ⟨Nat.le_of_ble_eq_true rfl, Nat.le_of_ble_eq_true rfl⟩ rfl hl.1 (Nat.le_of_ble_eq_true rfl) dL_acts_395 ⟨Nat.zero_le _, Nat.zero_le _⟩ rfl ?_
                refine j_beq (tgt := 421) hx hb dL_acts_398 (by decide) (fun c82 => ?_) (fun c82 => ?_)
                · refine lv_aload_n hx hb dL_acts_421 rfl (lv_at hl 4 rfl) ?_
                  refine lv_iload hx hb dL_acts_422 (lv_at hl 1 rfl) ?_
                  refine lv_iload hx hb dL_acts_424 (lv_at hl 0 rfl) ?_
                  obtain ⟨wL1, hL1, cM, hI1⟩ := ac_propose_no l D hL hI (x := x) (y := y) (by omega) (by omega) h_x h_y (fun q => by first | exact absurd q.1 (by assumption) | (have := q.2; omega))
                  refine m_callV (v := some (.int (iI ((-2))))) (ci := 5) (n := 2) (As := [.int (iI (x)), .int (iI (y))]) (rest := []) (st2 := [.int (iI ((-2)))]) (pre := lw2 cI ga va m (ed2 cL ea da ev dv [])) (post := []) (w2 := lw2 cI ga va m (ed2 cL ea da ev dv wL1)) ⟨hx, hb, hml, hown, hts⟩ hK2 hW (cM) (by rw [List.append_nil]; rfl) (by rw [List.append_nil]; rfl) (hL.fst hL1) rfl hL.head gL_acts_X5_propose rfl (by decide +kernel) ⟨Nat.le_of_ble_eq_true rfl, Nat.le_of_ble_eq_true rfl⟩ rfl hl.1 (Nat.le_of_ble_eq_true rfl) dL_acts_426 ⟨Nat.zero_le _, Nat.zero_le _⟩ rfl rfl (fun H locs hW => ?_)
                  refine j_bi hx hb dL_acts_429 rfl ?_
                  refine j_ine (tgt := 438) hx hb (by omega) (by omega) dL_acts_431 (by decide) (fun c83 => absurd c83 (by decide)) (fun c83 => ?_)
                  refine j_c hx hb dL_acts_434 ?_
                  refine lv_goto (tgt := 439) hx hb dL_acts_435 (by decide) ?_
                  exact e_zret hx hb hr hlocks hW (by exact ⟨m, ev, dv, wL1, hS, by omega, hL1, rfl⟩) (by first | decide | exact b2i_or) (by rfl) dL_acts_439
                · refine lv_aload_n hx hb dL_acts_401 rfl (lv_at hl 6 rfl) ?_
                  refine lv_iload hx hb dL_acts_402 (lv_at hl 1 rfl) ?_
                  refine Vld hx hb hK hW.1 (8 + x.toNat) (by omega) (by omega) dL_acts_404 ?_
                  have r84 : bd (m (8 + x.toNat)) := hbd (8 + x.toNat)
                  refine j_zeq (tgt := 421) hx hb (by omega) dL_acts_405 (by decide) (fun c85 => ?_) (fun c85 => ?_)
                  · refine lv_aload_n hx hb dL_acts_421 rfl (lv_at hl 4 rfl) ?_
                    refine lv_iload hx hb dL_acts_422 (lv_at hl 1 rfl) ?_
                    refine lv_iload hx hb dL_acts_424 (lv_at hl 0 rfl) ?_
                    obtain ⟨wL1, hL1, cM, hI1⟩ := ac_propose_no l D hL hI (x := x) (y := y) (by omega) (by omega) h_x h_y (fun q => by first | exact absurd q.1 (by assumption) | (have := q.2; omega))
                    refine m_callV (v := some (.int (iI ((-2))))) (ci := 5) (n := 2) (As := [.int (iI (x)), .int (iI (y))]) (rest := []) (st2 := [.int (iI ((-2)))]) (pre := lw2 cI ga va m (ed2 cL ea da ev dv [])) (post := []) (w2 := lw2 cI ga va m (ed2 cL ea da ev dv wL1)) ⟨hx, hb, hml, hown, hts⟩ hK2 hW (cM) (by rw [List.append_nil]; rfl) (by rw [List.append_nil]; rfl) (hL.fst hL1) rfl hL.head gL_acts_X5_propose rfl (by decide +kernel) ⟨Nat.le_of_ble_eq_true rfl, Nat.le_of_ble_eq_true rfl⟩ rfl hl.1 (Nat.le_of_ble_eq_true rfl) dL_acts_426 ⟨Nat.zero_le _, Nat.zero_le _⟩ rfl rfl (fun H locs hW => ?_)
                    refine j_bi hx hb dL_acts_429 rfl ?_
                    refine j_ine (tgt := 438) hx hb (by omega) (by omega) dL_acts_431 (by decide) (fun c86 => absurd c86 (by decide)) (fun c86 => ?_)
                    refine j_c hx hb dL_acts_434 ?_
                    refine lv_goto (tgt := 439) hx hb dL_acts_435 (by decide) ?_
                    exact e_zret hx hb hr hlocks hW (by exact ⟨m, ev, dv, wL1, hS, by omega, hL1, rfl⟩) (by first | decide | exact b2i_or) (by rfl) dL_acts_439
                  · refine lv_aload_n hx hb dL_acts_408 rfl (lv_at hl 6 rfl) ?_
                    refine j_bi hx hb dL_acts_409 rfl ?_
                    refine lv_iload hx hb dL_acts_411 (lv_at hl 1 rfl) ?_
                    refine j_add hx hb dL_acts_413 ?_
                    refine Vld hx hb hK hW.1 (20 + x.toNat) (by omega) (by omega) dL_acts_414 ?_
                    have r87 : bd (m (20 + x.toNat)) := hbd (20 + x.toNat)
                    refine lv_aload_n hx hb dL_acts_415 rfl (lv_at hl 5 rfl) ?_
                    refine j_c hx hb dL_acts_416 ?_
                    refine Gld hx hb hK hW.1 (3) (by omega) (by omega) dL_acts_417 ?_
                    have r88 : bd (m 3) := hbd 3
                    refine j_ige (tgt := 440) hx hb (by omega) (by omega) dL_acts_418 (by decide) (fun c89 => ?_) (fun c89 => ?_)
                    · refine lv_aload_n hx hb dL_acts_440 rfl (lv_at hl 5 rfl) ?_
                      refine lv_aload_n hx hb dL_acts_441 rfl (lv_at hl 6 rfl) ?_
                      refine lv_aload_n hx hb dL_acts_442 rfl (lv_at hl 7 rfl) ?_
                      refine lv_iload hx hb dL_acts_443 (lv_at hl 1 rfl) ?_
                      refine lv_iload hx hb dL_acts_445 (lv_at hl 0 rfl) ?_
                      refine e_callS (v := none) (n := 5) (As := [.ref (ga), .ref (va), .ref (ea), .int (iI (x)), .int (iI (y))]) (rest := []) (st2 := []) (pre := []) (post := (da, arL cL 60 dv) :: wL) ⟨hx, hb, hml, hown, hts⟩ hK hW (kL_writes l D cI cV cL ga va ea m ev hbd ⟨k3, ht60⟩ (by omega) x y ⟨h_x.1, by omega⟩ (by omega)) rfl (fun w' e => by subst e; rfl) gL_acts_L_writes rfl (by decide +kernel) ⟨Nat.le_of_ble_eq_true rfl, Nat.le_of_ble_eq_true rfl⟩ rfl hl.1 (Nat.le_of_ble_eq_true rfl) dL_acts_447 ⟨Nat.zero_le _, Nat.zero_le _⟩ rfl rfl (fun w_ H locs hR_ hW => ?_)
                      subst hR_
                      have hW : Wd D (ad (lw2 cI ga va m (ed2 cL ea da ev dv wL))) (lw2 cI ga va (wtS m x y) (ed2 cL ea da (up ev (m 3).toNat (y + 9 + m 2 * 1024 + x * 262144)) dv wL)) s0.heap H locs := hW
                      have hSW := SV_wt (y := y) hS h_x h_y ht60 (by omega)
                      obtain ⟨W, eW⟩ : ∃ W, W = wtS m x y := ⟨_, rfl⟩
                      obtain ⟨evW, eevW⟩ : ∃ zz_, zz_ = up ev (m 3).toNat (y + 9 + m 2 * 1024 + x * 262144) := ⟨_, rfl⟩
                      rw [← eW, ← eevW] at hSW hW
                      have g4 := mg_MS (W 3 - W 4).toNat hSW.1.1 hSW.1.2.1
                      have g5 := mg_rg hSW.1.1 hSW.1.2.1 (W 3 - W 4).toNat
                      have gs := SV_mg (W 3 - W 4).toNat hSW
                      have w3 : W 3 = m 3 + 1 := by rw [eW, wtS_3]
                      refine lv_aload_n hx hb dL_acts_450 rfl (lv_at hl 5 rfl) ?_
                      refine lv_aload_n hx hb dL_acts_451 rfl (lv_at hl 6 rfl) ?_
                      refine e_callS (v := some (.int (iI (mgS (W 3 - W 4).toNat W 4 - W 4)))) (n := 2) (As := [.ref (ga), .ref (va)]) (rest := []) (st2 := [.int (iI (mgS (W 3 - W 4).toNat W 4 - W 4))]) (pre := []) (post := ed2 cL ea da evW dv wL) ⟨hx, hb, hml, hown, hts⟩ hK hW (kL_agree l D cI cV cL ga va W hSW.1 hSW.2.1.2.2.2) rfl (fun w' e => by subst e; rfl) gL_acts_L_agree rfl (by decide +kernel) ⟨Nat.le_of_ble_eq_true rfl, Nat.le_of_ble_eq_true rfl⟩ rfl hl.1 (Nat.le_of_ble_eq_true rfl) dL_acts_452 ⟨Nat.zero_le _, Nat.zero_le _⟩ rfl rfl (fun w_ H locs hR_ hW => ?_)
                      subst hR_
                      have hW : Wd D (ad (lw2 cI ga va m (ed2 cL ea da ev dv wL))) (lw2 cI ga va (mgS (W 3 - W 4).toNat W) (ed2 cL ea da evW dv wL)) s0.heap H locs := hW
                      refine lv_istore (lv' := [(10, .int (iI (mgS (W 3 - W 4).toNat W 4 - W 4))), (9, .int (iI (y))), (8, .int (iI (x))), (7, .int (iI (wy))), (6, .int (iI (z))), (0, .ref (g 0)), (1, .ref (ga)), (2, .ref (va)), (3, .ref (ea)), (4, .ref (da)), (5, .int (iI (w)))]) hx hb dL_acts_455 hl (by decide) rfl (fun ls hl => ?_)
                      refine lv_iload hx hb dL_acts_457 (lv_at hl 0 rfl) ?_
                      refine j_zlt (tgt := 482) hx hb (by omega) dL_acts_459 (by decide) (fun c91 => absurd c91 (by omega)) (fun c91 => ?_)
                      refine lv_aload_n hx hb dL_acts_462 rfl (lv_at hl 5 rfl) ?_
                      refine lv_iload hx hb dL_acts_463 (lv_at hl 2 rfl) ?_
                      refine lv_iload hx hb dL_acts_465 (lv_at hl 1 rfl) ?_
                      obtain ⟨wL1, hL1, cM, hI1⟩ := ac_propose l D hL hI (x := x) (y := y) (by omega) (by omega) h_x h_y (by refine ⟨by assumption, ?_, ?_⟩ <;> omega) ht60
                      rw [← eW] at hL1
                      refine m_callV (v := some (.int (iI (m 3)))) (ci := 5) (n := 2) (As := [.int (iI (x)), .int (iI (y))]) (rest := []) (st2 := [.int (iI (m 3))]) (pre := lw2 cI ga va (mgS (W 3 - W 4).toNat W) (ed2 cL ea da evW dv [])) (post := []) (w2 := lw2 cI ga va (mgS (W 3 - W 4).toNat W) (ed2 cL ea da evW dv wL1)) ⟨hx, hb, hml, hown, hts⟩ hK2 hW (cM) (by rw [List.append_nil]; rfl) (by rw [List.append_nil]; rfl) (hL.fst hL1) rfl hL.head gL_acts_X5_propose rfl (by decide +kernel) ⟨Nat.le_of_ble_eq_true rfl, Nat.le_of_ble_eq_true rfl⟩ rfl hl.1 (Nat.le_of_ble_eq_true rfl) dL_acts_467 ⟨Nat.zero_le _, Nat.zero_le _⟩ rfl rfl (fun H locs hW => ?_)
                      refine lv_aload_n hx hb dL_acts_470 rfl (lv_at hl 6 rfl) ?_
                      refine j_c hx hb dL_acts_471 ?_
                      refine Gld hx hb hK hW.1 (3) (by omega) (by omega) dL_acts_472 ?_
                      rw [show mgS (W 3 - W 4).toNat W 3 = m 3 + 1 from by rw [gs.2, w3]]
                      refine j_c hx hb dL_acts_473 ?_
                      refine j_sub hx hb dL_acts_474 ?_
                      refine j_ine (tgt := 482) hx hb (by omega) (by omega) dL_acts_475 (by decide) (fun c92 => absurd c92 (by omega)) (fun c92 => ?_)
                      refine j_c hx hb dL_acts_478 ?_
                      refine lv_goto (tgt := 483) hx hb dL_acts_479 (by decide) ?_
                      exact e_zret hx hb hr hlocks hW (by exact ⟨mgS (W 3 - W 4).toNat W, evW, dv, wL1, gs.1, by omega, hL1, rfl⟩) (by first | decide | exact b2i_or) (by rfl) dL_acts_483
                    · refine lv_aload_n hx hb dL_acts_421 rfl (lv_at hl 4 rfl) ?_
                      refine lv_iload hx hb dL_acts_422 (lv_at hl 1 rfl) ?_
                      refine lv_iload hx hb dL_acts_424 (lv_at hl 0 rfl) ?_
                      obtain ⟨wL1, hL1, cM, hI1⟩ := ac_propose_no l D hL hI (x := x) (y := y) (by omega) (by omega) h_x h_y (fun q => by first | exact absurd q.1 (by assumption) | (have := q.2; omega))
                      refine m_callV (v := some (.int (iI ((-2))))) (ci := 5) (n := 2) (As := [.int (iI (x)), .int (iI (y))]) (rest := []) (st2 := [.int (iI ((-2)))]) (pre := lw2 cI ga va m (ed2 cL ea da ev dv [])) (post := []) (w2 := lw2 cI ga va m (ed2 cL ea da ev dv wL1)) ⟨hx, hb, hml, hown, hts⟩ hK2 hW (cM) (by rw [List.append_nil]; rfl) (by rw [List.append_nil]; rfl) (hL.fst hL1) rfl hL.head gL_acts_X5_propose rfl (by decide +kernel) ⟨Nat.le_of_ble_eq_true rfl, Nat.le_of_ble_eq_true rfl⟩ rfl hl.1 (Nat.le_of_ble_eq_true rfl) dL_acts_426 ⟨Nat.zero_le _, Nat.zero_le _⟩ rfl rfl (fun H locs hW => ?_)
                      refine j_bi hx hb dL_acts_429 rfl ?_
                      refine j_ine (tgt := 438) hx hb (by omega) (by omega) dL_acts_431 (by decide) (fun c93 => absurd c93 (by decide)) (fun c93 => ?_)
                      refine j_c hx hb dL_acts_434 ?_
                      refine lv_goto (tgt := 439) hx hb dL_acts_435 (by decide) ?_
                      exact e_zret hx hb hr hlocks hW (by exact ⟨m, ev, dv, wL1, hS, by omega, hL1, rfl⟩) (by first | decide | exact b2i_or) (by rfl) dL_acts_439
            · refine lv_aload_n hx hb dL_acts_349 rfl (lv_at hl 3 rfl) ?_
              refine lv_aload_n hx hb dL_acts_350 rfl (lv_at hl 4 rfl) ?_
              refine lv_aload_n hx hb dL_acts_351 rfl (lv_at hl 5 rfl) ?_
              refine lv_aload_n hx hb dL_acts_352 rfl (lv_at hl 6 rfl) ?_
              refine lv_aload hx hb dL_acts_353 (lv_at hl 7 rfl) ?_
              refine lv_iload hx hb dL_acts_355 (lv_at hl 2 rfl) ?_
              refine lv_iload hx hb dL_acts_357 (lv_at hl 1 rfl) ?_
              refine j_bi hx hb dL_acts_359 rfl ?_
              refine j_ine (tgt := 368) hx hb (by omega) (by omega) dL_acts_361 (by decide) (fun c94 => ?_) (fun c94 => ?_)
              · refine j_c hx hb dL_acts_368 ?_
                refine e_callS (v := some (.int (iI (1)))) (n := 7) (As := [.ref (g 0), .ref (ga), .ref (va), .ref (ea), .ref (da), .int (iI (z)), .int (iI (0))]) (rest := []) (st2 := [.int (iI (1))]) (pre := []) (post := []) ⟨hx, hb, hml, hown, hts⟩ hK hW (kL_counciled l D cI cV cL ga va ea da g a ra m ev dv wL t hS hL ht ht60 (by omega) z h_z 0 (by decide)) (by rw [List.append_nil]; rfl) (fun _ e => LSt.fst hL e) gL_acts_L_counciled rfl (by decide +kernel) ⟨Nat.le_of_ble_eq_true rfl, Nat.le_of_ble_eq_true rfl⟩ rfl hl.1 (Nat.le_of_ble_eq_true rfl) dL_acts_369 ⟨Nat.zero_le _, Nat.zero_le _⟩ rfl rfl (fun w_ H locs hR_ hW => ?_)
                rw [List.append_nil] at hW
                exact e_zret hx hb hr hlocks hW (by exact hR_) (by first | decide | exact b2i_or) (by rfl) dL_acts_372
              · refine j_c hx hb dL_acts_364 ?_
                refine lv_goto (tgt := 369) hx hb dL_acts_365 (by decide) ?_
                refine e_callS (v := some (.int (iI (1)))) (n := 7) (As := [.ref (g 0), .ref (ga), .ref (va), .ref (ea), .ref (da), .int (iI (z)), .int (iI (1))]) (rest := []) (st2 := [.int (iI (1))]) (pre := []) (post := []) ⟨hx, hb, hml, hown, hts⟩ hK hW (kL_counciled l D cI cV cL ga va ea da g a ra m ev dv wL t hS hL ht ht60 (by omega) z h_z 1 (by decide)) (by rw [List.append_nil]; rfl) (fun _ e => LSt.fst hL e) gL_acts_L_counciled rfl (by decide +kernel) ⟨Nat.le_of_ble_eq_true rfl, Nat.le_of_ble_eq_true rfl⟩ rfl hl.1 (Nat.le_of_ble_eq_true rfl) dL_acts_369 ⟨Nat.zero_le _, Nat.zero_le _⟩ rfl rfl (fun w_ H locs hR_ hW => ?_)
                rw [List.append_nil] at hW
                exact e_zret hx hb hr hlocks hW (by exact hR_) (by first | decide | exact b2i_or) (by rfl) dL_acts_372
          · refine lv_iload hx hb dL_acts_243 (lv_at hl 2 rfl) ?_
            refine j_bi hx hb dL_acts_245 rfl ?_
            refine j_div hx hb (by omega) (by omega) dL_acts_247 ?_
            refine j_c hx hb dL_acts_248 ?_
            refine j_rem hx hb (by omega) (by omega) dL_acts_249 ?_
            refine j_zne (tgt := 257) hx hb (by omega) dL_acts_250 (by decide) (fun c95 => ?_) (fun c95 => ?_)
            · refine j_c hx hb dL_acts_257 ?_
              refine lv_istore (lv' := [(9, .int (iI (1))), (8, .int (iI (x))), (7, .int (iI (wy))), (6, .int (iI (z))), (0, .ref (g 0)), (1, .ref (ga)), (2, .ref (va)), (3, .ref (ea)), (4, .ref (da)), (5, .int (iI (w)))]) hx hb dL_acts_258 hl (by decide) rfl (fun ls hl => ?_)
              refine lv_aload_n hx hb dL_acts_260 rfl (lv_at hl 6 rfl) ?_
              refine lv_iload hx hb dL_acts_261 (lv_at hl 1 rfl) ?_
              refine Vld hx hb hK hW.1 (8 + x.toNat) (by omega) (by omega) dL_acts_263 ?_
              have r96 : bd (m (8 + x.toNat)) := hbd (8 + x.toNat)
              refine lv_iload hx hb dL_acts_264 (lv_at hl 0 rfl) ?_
              refine j_ine (tgt := 288) hx hb (by omega) (by omega) dL_acts_266 (by decide) (fun c97 => ?_) (fun c97 => ?_)
              · refine lv_aload_n hx hb dL_acts_288 rfl (lv_at hl 6 rfl) ?_
                refine lv_iload hx hb dL_acts_289 (lv_at hl 1 rfl) ?_
                refine lv_iload hx hb dL_acts_291 (lv_at hl 0 rfl) ?_
                refine Vst hx hb hK hW (8 + x.toNat) (by omega) (by omega) dL_acts_293 (fun H locs hW => ?_)
                obtain ⟨mu_98, emu_98⟩ : ∃ zz_, zz_ = up m (8 + x.toNat) (1) := ⟨_, rfl⟩
                rw [← emu_98] at hW
                have hb1 : ∀ k, bd (mu_98 k) := by
                  rw [emu_98]
                  exact bd_up hbd (by omega)
                refine j_c hx hb dL_acts_294 ?_
                refine lv_istore (lv' := [(10, .int (iI (0))), (9, .int (iI (1))), (8, .int (iI (x))), (7, .int (iI (wy))), (6, .int (iI (z))), (0, .ref (g 0)), (1, .ref (ga)), (2, .ref (va)), (3, .ref (ea)), (4, .ref (da)), (5, .int (iI (w)))]) hx hb dL_acts_295 hl (by decide) rfl (fun ls hl => ?_)
                refine j_c hx hb dL_acts_297 ?_
                refine lv_istore (lv' := [(11, .int (iI (0))), (10, .int (iI (0))), (9, .int (iI (1))), (8, .int (iI (x))), (7, .int (iI (wy))), (6, .int (iI (z))), (0, .ref (g 0)), (1, .ref (ga)), (2, .ref (va)), (3, .ref (ea)), (4, .ref (da)), (5, .int (iI (w)))]) hx hb dL_acts_298 hl (by decide) rfl (fun ls hl => ?_)
                have LP300 : ∀ (fu : Nat) (i : Nat) (x10 : Int), x10 = sm (fun i => mu_98 (8 + i)) i → ((i : Int) ≤ m 0) → (m 0).toNat - i < fu → ∀ (H : Heap) (locs : List Loc), Wd D (ad (lw2 cI ga va m (ed2 cL ea da ev dv wL))) (lw2 cI ga va mu_98 (ed2 cL ea da ev dv wL)) s0.heap H locs → ∀ ls : Array Slot, lv_has ls 12 [(11, .int (iI ((i : Int)))), (10, .int (iI (x10))), (9, .int (iI (1))), (8, .int (iI (x))), (7, .int (iI (wy))), (6, .int (iI (z))), (0, .ref (g 0)), (1, .ref (ga)), (2, .ref (va)), (3, .ref (ea)), (4, .ref (da)), (5, .int (iI (w)))] → W p l e (headSpec wsL_acts (rmK 8 200)).room s0 mi ([.ref (g 0), .ref (ga), .ref (va), .ref (ea), .ref (da), .int (iI (w))] : List Value).toArray below meth c H locs 0 0 (MQ below (mR D (some (.int (iI (1)))) (LSt cI cV cL g a ra ga va ea da (t + 1)) (ad (lw2 cI ga va m (ed2 cL ea da ev dv wL)))) ([.ref (g 0), .ref (ga), .ref (va), .ref (ea), .ref (da), .int (iI (w))] : List Value).toArray s0 0 0 (ad (lw2 cI ga va m (ed2 cL ea da ev dv wL)))) (F0 mi 300 ls []) := by
                  intro fu
                  induction fu with
                  | zero =>
                    intros
                    omega
                  | succ fu ih300 =>
                    intro i x10 ex10 hinv hmeas H locs hW ls hl
                    refine lv_iload hx hb dL_acts_300 (lv_at hl 0 rfl) ?_
                    refine lv_aload_n hx hb dL_acts_302 rfl (lv_at hl 7 rfl) ?_
                    refine j_c hx hb dL_acts_303 ?_
                    refine Gld hx hb hK hW.1 (0) (by omega) (by omega) dL_acts_304 ?_
                    rw [show mu_98 0 = m 0 from by rw [emu_98, up_ne (by omega)]]
                    have r99 : bd (m 0) := hbd 0
                    refine j_ige (tgt := 323) hx hb (by omega) (by omega) dL_acts_305 (by decide) (fun c100 => ?_) (fun c100 => ?_)
                    · refine lv_aload_n hx hb dL_acts_323 rfl (lv_at hl 6 rfl) ?_
                      refine lv_iload hx hb dL_acts_324 (lv_at hl 3 rfl) ?_
                      refine lv_iload hx hb dL_acts_326 (lv_at hl 2 rfl) ?_
                      obtain ⟨wL1, hL1, cM, hI1⟩ := ac_attend l D hL hI (x := x) (y := 1) (by omega) (by decide) h_x (by decide) (by omega)
                      have e0 : (up m (8 + x.toNat) 1) 0 = m 0 := up_ne (by omega)
                      have ex10 : x10 = sm (fun i => (up m (8 + x.toNat) 1) (8 + i)) ((up m (8 + x.toNat) 1) 0).toNat := by
                        rw [ex10, emu_98, e0]
                        congr 1
                        omega
                      have pr := sm_pres hI1 ((up m (8 + x.toNat) 1) 0).toNat (by omega)
                      refine m_callV (v := some (.int (iI (sm (fun i => (up m (8 + x.toNat) 1) (8 + i)) ((up m (8 + x.toNat) 1) 0).toNat)))) (ci := 5) (n := 2) (As := [.int (iI (x)), .int (iI (1))]) (rest := []) (st2 := [.int (iI (sm (fun i => (up m (8 + x.toNat) 1) (8 + i)) ((up m (8 + x.toNat) 1) 0).toNat))]) (pre := lw2 cI ga va mu_98 (ed2 cL ea da ev dv [])) (post := []) (w2 := lw2 cI ga va mu_98 (ed2 cL ea da ev dv wL1)) ⟨hx, hb, hml, hown, hts⟩ hK2 hW (cM) (by rw [List.append_nil]; rfl) (by rw [List.append_nil]; rfl) (hL.fst hL1) rfl hL.head gL_acts_X5_attend rfl (by decide +kernel) ⟨Nat.le_of_ble_eq_true rfl, Nat.le_of_ble_eq_true rfl⟩ rfl hl.1 (Nat.le_of_ble_eq_true rfl) dL_acts_328 ⟨Nat.zero_le _, Nat.zero_le _⟩ rfl rfl (fun H locs hW => ?_)
                      refine lv_iload hx hb dL_acts_331 (lv_at hl 1 rfl) ?_
                      refine j_ine (tgt := 340) hx hb (by omega) (by omega) dL_acts_333 (by decide) (fun c101 => absurd c101 (by omega)) (fun c101 => ?_)
                      refine j_c hx hb dL_acts_336 ?_
                      refine lv_goto (tgt := 341) hx hb dL_acts_337 (by decide) ?_
                      exact e_zret hx hb hr hlocks hW (by subst emu_98; exact LS_keep hS hI1 (fun j hj => by rw [up_ne (by omega)]) ht hL1) (by first | decide | exact b2i_or) (by rfl) dL_acts_341
                    · refine lv_iload hx hb dL_acts_308 (lv_at hl 1 rfl) ?_
                      refine lv_aload_n hx hb dL_acts_310 rfl (lv_at hl 8 rfl) ?_
                      refine lv_iload hx hb dL_acts_311 (lv_at hl 0 rfl) ?_
                      refine Vld hx hb hK hW.1 (8 + i) (by omega) (by omega) dL_acts_313 ?_
                      have r102 : bd (mu_98 (8 + i)) := hb1 (8 + i)
                      refine j_add hx hb dL_acts_314 ?_
                      refine lv_istore (lv' := [(10, .int (iI (x10 + (mu_98 (8 + i))))), (11, .int (iI ((i : Int)))), (9, .int (iI (1))), (8, .int (iI (x))), (7, .int (iI (wy))), (6, .int (iI (z))), (0, .ref (g 0)), (1, .ref (ga)), (2, .ref (va)), (3, .ref (ea)), (4, .ref (da)), (5, .int (iI (w)))]) hx hb dL_acts_315 hl (by decide) rfl (fun ls hl => ?_)
                      refine lv_iinc (v := iI ((i : Int) + 1)) (lv' := [(11, .int (iI ((i : Int) + 1))), (10, .int (iI (x10 + (mu_98 (8 + i))))), (9, .int (iI (1))), (8, .int (iI (x))), (7, .int (iI (wy))), (6, .int (iI (z))), (0, .ref (g 0)), (1, .ref (ga)), (2, .ref (va)), (3, .ref (ea)), (4, .ref (da)), (5, .int (iI (w)))]) hx hb dL_acts_317 hl (k := 1) rfl (iI_add _ _) (by decide) rfl (fun ls hl => ?_)
                      refine lv_goto (tgt := 300) hx hb dL_acts_320 (by decide) ?_
                      exact ih300 (i + 1) (x10 + (mu_98 (8 + i))) (by simp only [sm]; rw [← ex10]) (by omega) (by omega) _ _ (hW) ls (lv_sub hl [0, 1, 2, 3, 4, 5, 6, 7, 8, 9, 10, 11] rfl)
                exact LP300 _ 0 0 (by rfl) (by omega) (Nat.lt_succ_self _) _ _ hW ls (lv_sub hl [0, 1, 2, 3, 4, 5, 6, 7, 8, 9, 10, 11] rfl)
              · refine lv_aload_n hx hb dL_acts_269 rfl (lv_at hl 4 rfl) ?_
                refine lv_iload hx hb dL_acts_270 (lv_at hl 1 rfl) ?_
                refine lv_iload hx hb dL_acts_272 (lv_at hl 0 rfl) ?_
                obtain ⟨wL1, hL1, cM, hI1⟩ := ac_attend_no l D hL hI (x := x) (y := 1) (by omega) (by decide) h_x (by decide) (by omega)
                refine m_callV (v := some (.int (iI ((-2))))) (ci := 5) (n := 2) (As := [.int (iI (x)), .int (iI (1))]) (rest := []) (st2 := [.int (iI ((-2)))]) (pre := lw2 cI ga va m (ed2 cL ea da ev dv [])) (post := []) (w2 := lw2 cI ga va m (ed2 cL ea da ev dv wL1)) ⟨hx, hb, hml, hown, hts⟩ hK2 hW (cM) (by rw [List.append_nil]; rfl) (by rw [List.append_nil]; rfl) (hL.fst hL1) rfl hL.head gL_acts_X5_attend rfl (by decide +kernel) ⟨Nat.le_of_ble_eq_true rfl, Nat.le_of_ble_eq_true rfl⟩ rfl hl.1 (Nat.le_of_ble_eq_true rfl) dL_acts_274 ⟨Nat.zero_le _, Nat.zero_le _⟩ rfl rfl (fun H locs hW => ?_)
                refine j_bi hx hb dL_acts_277 rfl ?_
                refine j_ine (tgt := 286) hx hb (by omega) (by omega) dL_acts_279 (by decide) (fun c103 => absurd c103 (by decide)) (fun c103 => ?_)
                refine j_c hx hb dL_acts_282 ?_
                refine lv_goto (tgt := 287) hx hb dL_acts_283 (by decide) ?_
                exact e_zret hx hb hr hlocks hW (by exact ⟨m, ev, dv, wL1, hS, by omega, hL1, rfl⟩) (by first | decide | exact b2i_or) (by rfl) dL_acts_287
            · refine j_c hx hb dL_acts_253 ?_
              refine lv_goto (tgt := 258) hx hb dL_acts_254 (by decide) ?_
              refine lv_istore (lv' := [(9, .int (iI (0))), (8, .int (iI (x))), (7, .int (iI (wy))), (6, .int (iI (z))), (0, .ref (g 0)), (1, .ref (ga)), (2, .ref (va)), (3, .ref (ea)), (4, .ref (da)), (5, .int (iI (w)))]) hx hb dL_acts_258 hl (by decide) rfl (fun ls hl => ?_)
              refine lv_aload_n hx hb dL_acts_260 rfl (lv_at hl 6 rfl) ?_
              refine lv_iload hx hb dL_acts_261 (lv_at hl 1 rfl) ?_
              refine Vld hx hb hK hW.1 (8 + x.toNat) (by omega) (by omega) dL_acts_263 ?_
              have r104 : bd (m (8 + x.toNat)) := hbd (8 + x.toNat)
              refine lv_iload hx hb dL_acts_264 (lv_at hl 0 rfl) ?_
              refine j_ine (tgt := 288) hx hb (by omega) (by omega) dL_acts_266 (by decide) (fun c105 => ?_) (fun c105 => ?_)
              · refine lv_aload_n hx hb dL_acts_288 rfl (lv_at hl 6 rfl) ?_
                refine lv_iload hx hb dL_acts_289 (lv_at hl 1 rfl) ?_
                refine lv_iload hx hb dL_acts_291 (lv_at hl 0 rfl) ?_
                refine Vst hx hb hK hW (8 + x.toNat) (by omega) (by omega) dL_acts_293 (fun H locs hW => ?_)
                obtain ⟨mu_106, emu_106⟩ : ∃ zz_, zz_ = up m (8 + x.toNat) (0) := ⟨_, rfl⟩
                rw [← emu_106] at hW
                have hb1 : ∀ k, bd (mu_106 k) := by
                  rw [emu_106]
                  exact bd_up hbd (by omega)
                refine j_c hx hb dL_acts_294 ?_
                refine lv_istore (lv' := [(10, .int (iI (0))), (9, .int (iI (0))), (8, .int (iI (x))), (7, .int (iI (wy))), (6, .int (iI (z))), (0, .ref (g 0)), (1, .ref (ga)), (2, .ref (va)), (3, .ref (ea)), (4, .ref (da)), (5, .int (iI (w)))]) hx hb dL_acts_295 hl (by decide) rfl (fun ls hl => ?_)
                refine j_c hx hb dL_acts_297 ?_
                refine lv_istore (lv' := [(11, .int (iI (0))), (10, .int (iI (0))), (9, .int (iI (0))), (8, .int (iI (x))), (7, .int (iI (wy))), (6, .int (iI (z))), (0, .ref (g 0)), (1, .ref (ga)), (2, .ref (va)), (3, .ref (ea)), (4, .ref (da)), (5, .int (iI (w)))]) hx hb dL_acts_298 hl (by decide) rfl (fun ls hl => ?_)
                have LP300 : ∀ (fu : Nat) (i : Nat) (x10 : Int), x10 = sm (fun i => mu_106 (8 + i)) i → ((i : Int) ≤ m 0) → (m 0).toNat - i < fu → ∀ (H : Heap) (locs : List Loc), Wd D (ad (lw2 cI ga va m (ed2 cL ea da ev dv wL))) (lw2 cI ga va mu_106 (ed2 cL ea da ev dv wL)) s0.heap H locs → ∀ ls : Array Slot, lv_has ls 12 [(11, .int (iI ((i : Int)))), (10, .int (iI (x10))), (9, .int (iI (0))), (8, .int (iI (x))), (7, .int (iI (wy))), (6, .int (iI (z))), (0, .ref (g 0)), (1, .ref (ga)), (2, .ref (va)), (3, .ref (ea)), (4, .ref (da)), (5, .int (iI (w)))] → W p l e (headSpec wsL_acts (rmK 8 200)).room s0 mi ([.ref (g 0), .ref (ga), .ref (va), .ref (ea), .ref (da), .int (iI (w))] : List Value).toArray below meth c H locs 0 0 (MQ below (mR D (some (.int (iI (1)))) (LSt cI cV cL g a ra ga va ea da (t + 1)) (ad (lw2 cI ga va m (ed2 cL ea da ev dv wL)))) ([.ref (g 0), .ref (ga), .ref (va), .ref (ea), .ref (da), .int (iI (w))] : List Value).toArray s0 0 0 (ad (lw2 cI ga va m (ed2 cL ea da ev dv wL)))) (F0 mi 300 ls []) := by
                  intro fu
                  induction fu with
                  | zero =>
                    intros
                    omega
                  | succ fu ih300 =>
                    intro i x10 ex10 hinv hmeas H locs hW ls hl
                    refine lv_iload hx hb dL_acts_300 (lv_at hl 0 rfl) ?_
                    refine lv_aload_n hx hb dL_acts_302 rfl (lv_at hl 7 rfl) ?_
                    refine j_c hx hb dL_acts_303 ?_
                    refine Gld hx hb hK hW.1 (0) (by omega) (by omega) dL_acts_304 ?_
                    rw [show mu_106 0 = m 0 from by rw [emu_106, up_ne (by omega)]]
                    have r107 : bd (m 0) := hbd 0
                    refine j_ige (tgt := 323) hx hb (by omega) (by omega) dL_acts_305 (by decide) (fun c108 => ?_) (fun c108 => ?_)
                    · refine lv_aload_n hx hb dL_acts_323 rfl (lv_at hl 6 rfl) ?_
                      refine lv_iload hx hb dL_acts_324 (lv_at hl 3 rfl) ?_
                      refine lv_iload hx hb dL_acts_326 (lv_at hl 2 rfl) ?_
                      obtain ⟨wL1, hL1, cM, hI1⟩ := ac_attend l D hL hI (x := x) (y := 0) (by omega) (by decide) h_x (by decide) (by omega)
                      have e0 : (up m (8 + x.toNat) 0) 0 = m 0 := up_ne (by omega)
                      have ex10 : x10 = sm (fun i => (up m (8 + x.toNat) 0) (8 + i)) ((up m (8 + x.toNat) 0) 0).toNat := by
                        rw [ex10, emu_106, e0]
                        congr 1
                        omega
                      have pr := sm_pres hI1 ((up m (8 + x.toNat) 0) 0).toNat (by omega)
                      refine m_callV (v := some (.int (iI (sm (fun i => (up m (8 + x.toNat) 0) (8 + i)) ((up m (8 + x.toNat) 0) 0).toNat)))) (ci := 5) (n := 2) (As := [.int (iI (x)), .int (iI (0))]) (rest := []) (st2 := [.int (iI (sm (fun i => (up m (8 + x.toNat) 0) (8 + i)) ((up m (8 + x.toNat) 0) 0).toNat))]) (pre := lw2 cI ga va mu_106 (ed2 cL ea da ev dv [])) (post := []) (w2 := lw2 cI ga va mu_106 (ed2 cL ea da ev dv wL1)) ⟨hx, hb, hml, hown, hts⟩ hK2 hW (cM) (by rw [List.append_nil]; rfl) (by rw [List.append_nil]; rfl) (hL.fst hL1) rfl hL.head gL_acts_X5_attend rfl (by decide +kernel) ⟨Nat.le_of_ble_eq_true rfl, Nat.le_of_ble_eq_true rfl⟩ rfl hl.1 (Nat.le_of_ble_eq_true rfl) dL_acts_328 ⟨Nat.zero_le _, Nat.zero_le _⟩ rfl rfl (fun H locs hW => ?_)
                      refine lv_iload hx hb dL_acts_331 (lv_at hl 1 rfl) ?_
                      refine j_ine (tgt := 340) hx hb (by omega) (by omega) dL_acts_333 (by decide) (fun c109 => absurd c109 (by omega)) (fun c109 => ?_)
                      refine j_c hx hb dL_acts_336 ?_
                      refine lv_goto (tgt := 341) hx hb dL_acts_337 (by decide) ?_
                      exact e_zret hx hb hr hlocks hW (by subst emu_106; exact LS_keep hS hI1 (fun j hj => by rw [up_ne (by omega)]) ht hL1) (by first | decide | exact b2i_or) (by rfl) dL_acts_341
                    · refine lv_iload hx hb dL_acts_308 (lv_at hl 1 rfl) ?_
                      refine lv_aload_n hx hb dL_acts_310 rfl (lv_at hl 8 rfl) ?_
                      refine lv_iload hx hb dL_acts_311 (lv_at hl 0 rfl) ?_
                      refine Vld hx hb hK hW.1 (8 + i) (by omega) (by omega) dL_acts_313 ?_
                      have r110 : bd (mu_106 (8 + i)) := hb1 (8 + i)
                      refine j_add hx hb dL_acts_314 ?_
                      refine lv_istore (lv' := [(10, .int (iI (x10 + (mu_106 (8 + i))))), (11, .int (iI ((i : Int)))), (9, .int (iI (0))), (8, .int (iI (x))), (7, .int (iI (wy))), (6, .int (iI (z))), (0, .ref (g 0)), (1, .ref (ga)), (2, .ref (va)), (3, .ref (ea)), (4, .ref (da)), (5, .int (iI (w)))]) hx hb dL_acts_315 hl (by decide) rfl (fun ls hl => ?_)
                      refine lv_iinc (v := iI ((i : Int) + 1)) (lv' := [(11, .int (iI ((i : Int) + 1))), (10, .int (iI (x10 + (mu_106 (8 + i))))), (9, .int (iI (0))), (8, .int (iI (x))), (7, .int (iI (wy))), (6, .int (iI (z))), (0, .ref (g 0)), (1, .ref (ga)), (2, .ref (va)), (3, .ref (ea)), (4, .ref (da)), (5, .int (iI (w)))]) hx hb dL_acts_317 hl (k := 1) rfl (iI_add _ _) (by decide) rfl (fun ls hl => ?_)
                      refine lv_goto (tgt := 300) hx hb dL_acts_320 (by decide) ?_
                      exact ih300 (i + 1) (x10 + (mu_106 (8 + i))) (by simp only [sm]; rw [← ex10]) (by omega) (by omega) _ _ (hW) ls (lv_sub hl [0, 1, 2, 3, 4, 5, 6, 7, 8, 9, 10, 11] rfl)
                exact LP300 _ 0 0 (by rfl) (by omega) (Nat.lt_succ_self _) _ _ hW ls (lv_sub hl [0, 1, 2, 3, 4, 5, 6, 7, 8, 9, 10, 11] rfl)
              · refine lv_aload_n hx hb dL_acts_269 rfl (lv_at hl 4 rfl) ?_
                refine lv_iload hx hb dL_acts_270 (lv_at hl 1 rfl) ?_
                refine lv_iload hx hb dL_acts_272 (lv_at hl 0 rfl) ?_
                obtain ⟨wL1, hL1, cM, hI1⟩ := ac_attend_no l D hL hI (x := x) (y := 0) (by omega) (by decide) h_x (by decide) (by omega)
                refine m_callV (v := some (.int (iI ((-2))))) (ci := 5) (n := 2) (As := [.int (iI (x)), .int (iI (0))]) (rest := []) (st2 := [.int (iI ((-2)))]) (pre := lw2 cI ga va m (ed2 cL ea da ev dv [])) (post := []) (w2 := lw2 cI ga va m (ed2 cL ea da ev dv wL1)) ⟨hx, hb, hml, hown, hts⟩ hK2 hW (cM) (by rw [List.append_nil]; rfl) (by rw [List.append_nil]; rfl) (hL.fst hL1) rfl hL.head gL_acts_X5_attend rfl (by decide +kernel) ⟨Nat.le_of_ble_eq_true rfl, Nat.le_of_ble_eq_true rfl⟩ rfl hl.1 (Nat.le_of_ble_eq_true rfl) dL_acts_274 ⟨Nat.zero_le _, Nat.zero_le _⟩ rfl rfl (fun H locs hW => ?_)
                refine j_bi hx hb dL_acts_277 rfl ?_
                refine j_ine (tgt := 286) hx hb (by omega) (by omega) dL_acts_279 (by decide) (fun c111 => absurd c111 (by decide)) (fun c111 => ?_)
                refine j_c hx hb dL_acts_282 ?_
                refine lv_goto (tgt := 287) hx hb dL_acts_283 (by decide) ?_
                exact e_zret hx hb hr hlocks hW (by exact ⟨m, ev, dv, wL1, hS, by omega, hL1, rfl⟩) (by first | decide | exact b2i_or) (by rfl) dL_acts_287
        · refine lv_aload_n hx hb dL_acts_203 rfl (lv_at hl 4 rfl) ?_
          refine j_bi hx hb dL_acts_204 rfl ?_
          refine Gld hx hb hK hW.1 (6) (by omega) (by omega) dL_acts_206 ?_
          have r112 : bd (m 6) := hbd 6
          refine lv_istore (lv' := [(9, .int (iI (m 6))), (8, .int (iI (x))), (7, .int (iI (wy))), (6, .int (iI (z))), (0, .ref (g 0)), (1, .ref (ga)), (2, .ref (va)), (3, .ref (ea)), (4, .ref (da)), (5, .int (iI (w)))]) hx hb dL_acts_207 hl (by decide) rfl (fun ls hl => ?_)
          refine lv_aload_n hx hb dL_acts_209 rfl (lv_at hl 5 rfl) ?_
          refine j_bi hx hb dL_acts_210 rfl ?_
          refine lv_iload hx hb dL_acts_212 (lv_at hl 3 rfl) ?_
          refine j_ldc (n := 65536) hx hb hown (hts (.constant RL 72 65536) (by decide +kernel)) rfl dL_acts_214 ?_
          refine j_rem hx hb (by omega) (by omega) dL_acts_216 ?_
          refine Gst hx hb hK hW (6) (by omega) (by omega) dL_acts_217 (fun H locs hW => ?_)
          obtain ⟨mu_113, emu_113⟩ : ∃ zz_, zz_ = up m (6) (z % 65536) := ⟨_, rfl⟩
          rw [← emu_113] at hW
          refine lv_aload_n hx hb dL_acts_218 rfl (lv_at hl 4 rfl) ?_
          refine lv_aload_n hx hb dL_acts_219 rfl (lv_at hl 5 rfl) ?_
          refine j_bi hx hb dL_acts_220 rfl ?_
          refine Gld hx hb hK hW.1 (6) (by omega) (by omega) dL_acts_222 ?_
          rw [show mu_113 6 = z % 65536 from by rw [emu_113, up_at rfl]]
          obtain ⟨wL1, hL1, cM, hI1⟩ := ac_setLot l D hL hI (x := z % 65536) (by omega) (by omega)
          refine m_callV (v := some (.int (iI (m 6)))) (ci := 5) (n := 1) (As := [.int (iI (z % 65536))]) (rest := []) (st2 := [.int (iI (m 6))]) (pre := lw2 cI ga va mu_113 (ed2 cL ea da ev dv [])) (post := []) (w2 := lw2 cI ga va mu_113 (ed2 cL ea da ev dv wL1)) ⟨hx, hb, hml, hown, hts⟩ hK2 hW (cM) (by rw [List.append_nil]; rfl) (by rw [List.append_nil]; rfl) (hL.fst hL1) rfl hL.head gL_acts_X5_setLot rfl (by decide +kernel) ⟨Nat.le_of_ble_eq_true rfl, Nat.le_of_ble_eq_true rfl⟩ rfl hl.1 (Nat.le_of_ble_eq_true rfl) dL_acts_223 ⟨Nat.zero_le _, Nat.zero_le _⟩ rfl rfl (fun H locs hW => ?_)
          refine lv_iload hx hb dL_acts_226 (lv_at hl 0 rfl) ?_
          refine j_ine (tgt := 235) hx hb (by omega) (by omega) dL_acts_228 (by decide) (fun c114 => absurd c114 (by omega)) (fun c114 => ?_)
          refine j_c hx hb dL_acts_231 ?_
          refine lv_goto (tgt := 236) hx hb dL_acts_232 (by decide) ?_
          exact e_zret hx hb hr hlocks hW (by subst emu_113; exact LS_keep hS hI1 (fun j hj => by rw [up_ne (by omega)]) ht hL1) (by first | decide | exact b2i_or) (by rfl) dL_acts_236
      · refine j_c hx hb dL_acts_108 ?_
        refine lv_iload hx hb dL_acts_109 (lv_at hl 2 rfl) ?_
        refine j_bi hx hb dL_acts_111 rfl ?_
        refine j_div hx hb (by omega) (by omega) dL_acts_113 ?_
        refine j_c hx hb dL_acts_114 ?_
        refine j_rem hx hb (by omega) (by omega) dL_acts_115 ?_
        refine j_add hx hb dL_acts_116 ?_
        obtain ⟨y, ey⟩ : ∃ zz_ : Int, zz_ = 1 + ((z / 12) % 5) := ⟨_, rfl⟩
        rw [← ey]
        have h_y : 1 ≤ y ∧ y ≤ 5 := by omega
        refine lv_istore (lv' := [(9, .int (iI (y))), (8, .int (iI (x))), (7, .int (iI (wy))), (6, .int (iI (z))), (0, .ref (g 0)), (1, .ref (ga)), (2, .ref (va)), (3, .ref (ea)), (4, .ref (da)), (5, .int (iI (w)))]) hx hb dL_acts_117 hl (by decide) rfl (fun ls hl => ?_)
        refine lv_aload_n hx hb dL_acts_119 rfl (lv_at hl 5 rfl) ?_
        refine j_c hx hb dL_acts_120 ?_
        refine Gld hx hb hK hW.1 (1) (by omega) (by omega) dL_acts_121 ?_
        have r115 : bd (m 1) := hbd 1
        refine j_zgt (tgt := 133) hx hb (by omega) dL_acts_122 (by decide) (fun c116 => ?_) (fun c116 => ?_)
        · refine lv_aload_n hx hb dL_acts_133 rfl (lv_at hl 4 rfl) ?_
          refine lv_iload hx hb dL_acts_134 (lv_at hl 0 rfl) ?_
          obtain ⟨wL1, hL1, cM, hI1⟩ := ac_found_no l D hL hI (x := y) (by omega) h_y (by omega)
          refine m_callV (v := some (.int (iI ((-2))))) (ci := 5) (n := 1) (As := [.int (iI (y))]) (rest := []) (st2 := [.int (iI ((-2)))]) (pre := lw2 cI ga va m (ed2 cL ea da ev dv [])) (post := []) (w2 := lw2 cI ga va m (ed2 cL ea da ev dv wL1)) ⟨hx, hb, hml, hown, hts⟩ hK2 hW (cM) (by rw [List.append_nil]; rfl) (by rw [List.append_nil]; rfl) (hL.fst hL1) rfl hL.head gL_acts_X5_found rfl (by decide +kernel) ⟨Nat.le_of_ble_eq_true rfl, Nat.le_of_ble_eq_true rfl⟩ rfl hl.1 (Nat.le_of_ble_eq_true rfl) dL_acts_136 ⟨Nat.zero_le _, Nat.zero_le _⟩ rfl rfl (fun H locs hW => ?_)
          refine j_bi hx hb dL_acts_139 rfl ?_
          refine j_ine (tgt := 148) hx hb (by omega) (by omega) dL_acts_141 (by decide) (fun c117 => absurd c117 (by decide)) (fun c117 => ?_)
          refine j_c hx hb dL_acts_144 ?_
          refine lv_goto (tgt := 149) hx hb dL_acts_145 (by decide) ?_
          exact e_zret hx hb hr hlocks hW (by exact ⟨m, ev, dv, wL1, hS, by omega, hL1, rfl⟩) (by first | decide | exact b2i_or) (by rfl) dL_acts_149
        · refine lv_aload_n hx hb dL_acts_125 rfl (lv_at hl 5 rfl) ?_
          refine j_c hx hb dL_acts_126 ?_
          refine Gld hx hb hK hW.1 (0) (by omega) (by omega) dL_acts_127 ?_
          have r118 : bd (m 0) := hbd 0
          refine lv_iload hx hb dL_acts_128 (lv_at hl 0 rfl) ?_
          refine j_ige (tgt := 150) hx hb (by omega) (by omega) dL_acts_130 (by decide) (fun c119 => ?_) (fun c119 => ?_)
          · refine lv_aload_n hx hb dL_acts_150 rfl (lv_at hl 5 rfl) ?_
            refine j_c hx hb dL_acts_151 ?_
            refine lv_iload hx hb dL_acts_152 (lv_at hl 0 rfl) ?_
            refine Gst hx hb hK hW (1) (by omega) (by omega) dL_acts_154 (fun H locs hW => ?_)
            obtain ⟨mu_120, emu_120⟩ : ∃ zz_, zz_ = up m (1) (y) := ⟨_, rfl⟩
            rw [← emu_120] at hW
            refine j_c hx hb dL_acts_155 ?_
            refine lv_istore (lv' := [(10, .int (iI (0))), (9, .int (iI (y))), (8, .int (iI (x))), (7, .int (iI (wy))), (6, .int (iI (z))), (0, .ref (g 0)), (1, .ref (ga)), (2, .ref (va)), (3, .ref (ea)), (4, .ref (da)), (5, .int (iI (w)))]) hx hb dL_acts_156 hl (by decide) rfl (fun ls hl => ?_)
            have LP158 : ∀ (fu : Nat) (i : Nat), ((i : Int) ≤ y) → y.toNat - i < fu → ∀ (H : Heap) (locs : List Loc), Wd D (ad (lw2 cI ga va m (ed2 cL ea da ev dv wL))) (lw2 cI ga va (blk mu_120 32 (fun i => (i : Int)) i) (ed2 cL ea da ev dv wL)) s0.heap H locs → ∀ ls : Array Slot, lv_has ls 12 [(10, .int (iI ((i : Int)))), (9, .int (iI (y))), (8, .int (iI (x))), (7, .int (iI (wy))), (6, .int (iI (z))), (0, .ref (g 0)), (1, .ref (ga)), (2, .ref (va)), (3, .ref (ea)), (4, .ref (da)), (5, .int (iI (w)))] → W p l e (headSpec wsL_acts (rmK 8 200)).room s0 mi ([.ref (g 0), .ref (ga), .ref (va), .ref (ea), .ref (da), .int (iI (w))] : List Value).toArray below meth c H locs 0 0 (MQ below (mR D (some (.int (iI (1)))) (LSt cI cV cL g a ra ga va ea da (t + 1)) (ad (lw2 cI ga va m (ed2 cL ea da ev dv wL)))) ([.ref (g 0), .ref (ga), .ref (va), .ref (ea), .ref (da), .int (iI (w))] : List Value).toArray s0 0 0 (ad (lw2 cI ga va m (ed2 cL ea da ev dv wL)))) (F0 mi 158 ls []) := by
              intro fu
              induction fu with
              | zero =>
                intros
                omega
              | succ fu ih158 =>
                intro i   hinv hmeas H locs hW ls hl
                refine lv_iload hx hb dL_acts_158 (lv_at hl 0 rfl) ?_
                refine lv_iload hx hb dL_acts_160 (lv_at hl 1 rfl) ?_
                refine j_ige (tgt := 180) hx hb (by omega) (by omega) dL_acts_162 (by decide) (fun c121 => ?_) (fun c121 => ?_)
                · obtain rfl : i = y.toNat := by omega
                  rw [emu_120] at hW
                  refine lv_aload_n hx hb dL_acts_180 rfl (lv_at hl 5 rfl) ?_
                  refine lv_iload hx hb dL_acts_181 (lv_at hl 1 rfl) ?_
                  obtain ⟨wL1, hL1, cM, hI1⟩ := ac_found l D hL hI (x := y) (by omega) h_y (by omega)
                  refine m_callV (v := some (.int (iI (y)))) (ci := 5) (n := 1) (As := [.int (iI (y))]) (rest := []) (st2 := [.int (iI (y))]) (pre := lw2 cI ga va (blk (up m 1 y) 32 (fun i => (i : Int)) y.toNat) (ed2 cL ea da ev dv [])) (post := []) (w2 := lw2 cI ga va (blk (up m 1 y) 32 (fun i => (i : Int)) y.toNat) (ed2 cL ea da ev dv wL1)) ⟨hx, hb, hml, hown, hts⟩ hK2 hW (cM) (by rw [List.append_nil]; rfl) (by rw [List.append_nil]; rfl) (hL.fst hL1) rfl hL.head gL_acts_X5_found rfl (by decide +kernel) ⟨Nat.le_of_ble_eq_true rfl, Nat.le_of_ble_eq_true rfl⟩ rfl hl.1 (Nat.le_of_ble_eq_true rfl) dL_acts_183 ⟨Nat.zero_le _, Nat.zero_le _⟩ rfl rfl (fun H locs hW => ?_)
                  refine lv_iload hx hb dL_acts_186 (lv_at hl 1 rfl) ?_
                  refine j_ine (tgt := 195) hx hb (by omega) (by omega) dL_acts_188 (by decide) (fun c122 => absurd c122 (by omega)) (fun c122 => ?_)
                  refine j_c hx hb dL_acts_191 ?_
                  refine lv_goto (tgt := 196) hx hb dL_acts_192 (by decide) ?_
                  exact e_zret hx hb hr hlocks hW (by exact ⟨_, ev, dv, wL1, SV_keep hS hI1 (fun j hj => by rw [blk_out (by omega), up_ne (by omega)]) (fun q => absurd (by rw [blk_out (by omega), up_ne (by omega)]; exact hI.h1z (by omega)) q), by rw [blk_out (by omega), up_ne (by omega)]; omega, hL1, rfl⟩) (by first | decide | exact b2i_or) (by rfl) dL_acts_196
                · refine lv_aload_n hx hb dL_acts_165 rfl (lv_at hl 7 rfl) ?_
                  refine j_bi hx hb dL_acts_166 rfl ?_
                  refine lv_iload hx hb dL_acts_168 (lv_at hl 0 rfl) ?_
                  refine j_add hx hb dL_acts_170 ?_
                  refine lv_iload hx hb dL_acts_171 (lv_at hl 0 rfl) ?_
                  refine Vst hx hb hK hW (32 + i) (by omega) (by omega) dL_acts_173 (fun H locs hW => ?_)
                  have hW : Wd D (ad (lw2 cI ga va m (ed2 cL ea da ev dv wL))) (lw2 cI ga va (blk mu_120 32 (fun i => (i : Int)) (i + 1)) (ed2 cL ea da ev dv wL)) s0.heap H locs := by
                    rw [← blk_step]
                    exact hW
                  refine lv_iinc (v := iI ((i : Int) + 1)) (lv' := [(10, .int (iI ((i : Int) + 1))), (9, .int (iI (y))), (8, .int (iI (x))), (7, .int (iI (wy))), (6, .int (iI (z))), (0, .ref (g 0)), (1, .ref (ga)), (2, .ref (va)), (3, .ref (ea)), (4, .ref (da)), (5, .int (iI (w)))]) hx hb dL_acts_174 hl (k := 0) rfl (iI_add _ _) (by decide) rfl (fun ls hl => ?_)
                  refine lv_goto (tgt := 158) hx hb dL_acts_177 (by decide) ?_
                  exact ih158 (i + 1)   (by omega) (by omega) _ _ (hW) ls (lv_sub hl [0, 1, 2, 3, 4, 5, 6, 7, 8, 9, 10] rfl)
            exact LP158 _ 0   (by omega) (Nat.lt_succ_self _) _ _ (by rw [blk_0]; exact hW) ls (lv_sub hl [0, 1, 2, 3, 4, 5, 6, 7, 8, 9, 10] rfl)
          · refine lv_aload_n hx hb dL_acts_133 rfl (lv_at hl 4 rfl) ?_
            refine lv_iload hx hb dL_acts_134 (lv_at hl 0 rfl) ?_
            obtain ⟨wL1, hL1, cM, hI1⟩ := ac_found_no l D hL hI (x := y) (by omega) h_y (by omega)
            refine m_callV (v := some (.int (iI ((-2))))) (ci := 5) (n := 1) (As := [.int (iI (y))]) (rest := []) (st2 := [.int (iI ((-2)))]) (pre := lw2 cI ga va m (ed2 cL ea da ev dv [])) (post := []) (w2 := lw2 cI ga va m (ed2 cL ea da ev dv wL1)) ⟨hx, hb, hml, hown, hts⟩ hK2 hW (cM) (by rw [List.append_nil]; rfl) (by rw [List.append_nil]; rfl) (hL.fst hL1) rfl hL.head gL_acts_X5_found rfl (by decide +kernel) ⟨Nat.le_of_ble_eq_true rfl, Nat.le_of_ble_eq_true rfl⟩ rfl hl.1 (Nat.le_of_ble_eq_true rfl) dL_acts_136 ⟨Nat.zero_le _, Nat.zero_le _⟩ rfl rfl (fun H locs hW => ?_)
            refine j_bi hx hb dL_acts_139 rfl ?_
            refine j_ine (tgt := 148) hx hb (by omega) (by omega) dL_acts_141 (by decide) (fun c123 => absurd c123 (by decide)) (fun c123 => ?_)
            refine j_c hx hb dL_acts_144 ?_
            refine lv_goto (tgt := 149) hx hb dL_acts_145 (by decide) ?_
            exact e_zret hx hb hr hlocks hW (by exact ⟨m, ev, dv, wL1, hS, by omega, hL1, rfl⟩) (by first | decide | exact b2i_or) (by rfl) dL_acts_149
    · refine lv_aload_n hx hb dL_acts_31 rfl (lv_at hl 3 rfl) ?_
      refine j_c hx hb dL_acts_32 ?_
      refine Gld hx hb hK hW.1 (0) (by omega) (by omega) dL_acts_33 ?_
      have r124 : bd (m 0) := hbd 0
      refine j_bi hx hb dL_acts_34 rfl ?_
      refine j_ine (tgt := 54) hx hb (by omega) (by omega) dL_acts_36 (by decide) (fun c125 => ?_) (fun c125 => ?_)
      · refine lv_aload_n hx hb dL_acts_54 rfl (lv_at hl 4 rfl) ?_
        refine lv_aload_n hx hb dL_acts_55 rfl (lv_at hl 3 rfl) ?_
        refine j_c hx hb dL_acts_56 ?_
        refine Gld hx hb hK hW.1 (0) (by omega) (by omega) dL_acts_57 ?_
        have r126 : bd (m 0) := hbd 0
        refine j_c hx hb dL_acts_58 ?_
        refine Vst hx hb hK hW (8 + ((m 0).toNat)) (by omega) (by omega) dL_acts_59 (fun H locs hW => ?_)
        obtain ⟨mu_127, emu_127⟩ : ∃ zz_, zz_ = up m (8 + ((m 0).toNat)) (1) := ⟨_, rfl⟩
        rw [← emu_127] at hW
        refine lv_aload_n hx hb dL_acts_60 rfl (lv_at hl 4 rfl) ?_
        refine j_bi hx hb dL_acts_61 rfl ?_
        refine lv_aload_n hx hb dL_acts_63 rfl (lv_at hl 3 rfl) ?_
        refine j_c hx hb dL_acts_64 ?_
        refine Gld hx hb hK hW.1 (0) (by omega) (by omega) dL_acts_65 ?_
        rw [show mu_127 0 = m 0 from by rw [emu_127, up_ne (by omega)]]
        have r128 : bd (m 0) := hbd 0
        refine j_add hx hb dL_acts_66 ?_
        refine j_c hx hb dL_acts_67 ?_
        refine Vst hx hb hK hW (20 + ((m 0).toNat)) (by omega) (by omega) dL_acts_68 (fun H locs hW => ?_)
        obtain ⟨mu_129, emu_129⟩ : ∃ zz_, zz_ = up mu_127 (20 + ((m 0).toNat)) (0) := ⟨_, rfl⟩
        rw [← emu_129] at hW
        refine lv_aload_n hx hb dL_acts_69 rfl (lv_at hl 3 rfl) ?_
        refine j_c hx hb dL_acts_70 ?_
        refine lv_dup2_11 hx hb dL_acts_71 rfl rfl ?_
        refine Gld hx hb hK hW.1 (0) (by omega) (by omega) dL_acts_72 ?_
        rw [show mu_129 0 = m 0 from by rw [emu_129, up_ne (by omega), emu_127, up_ne (by omega)]]
        have r130 : bd (m 0) := hbd 0
        refine j_c hx hb dL_acts_73 ?_
        refine j_add hx hb dL_acts_74 ?_
        refine Gst hx hb hK hW (0) (by omega) (by omega) dL_acts_75 (fun H locs hW => ?_)
        obtain ⟨mu_131, emu_131⟩ : ∃ zz_, zz_ = up mu_129 (0) ((m 0) + 1) := ⟨_, rfl⟩
        rw [← emu_131] at hW
        refine lv_aload_n hx hb dL_acts_76 rfl (lv_at hl 2 rfl) ?_
        obtain ⟨wL1, hL1, cM, hI1⟩ := ac_come l D hL hI (by omega)
        refine m_callV (v := some (.int (iI (m 0)))) (ci := 5) (n := 0) (As := []) (rest := []) (st2 := [.int (iI (m 0))]) (pre := lw2 cI ga va mu_131 (ed2 cL ea da ev dv [])) (post := []) (w2 := lw2 cI ga va mu_131 (ed2 cL ea da ev dv wL1)) ⟨hx, hb, hml, hown, hts⟩ hK2 hW (cM) (by rw [List.append_nil]; rfl) (by rw [List.append_nil]; rfl) (hL.fst hL1) rfl hL.head gL_acts_X5_come rfl (by decide +kernel) ⟨Nat.le_of_ble_eq_true rfl, Nat.le_of_ble_eq_true rfl⟩ rfl hl.1 (Nat.le_of_ble_eq_true rfl) dL_acts_77 ⟨Nat.zero_le _, Nat.zero_le _⟩ rfl rfl (fun H locs hW => ?_)
        refine lv_aload_n hx hb dL_acts_80 rfl (lv_at hl 3 rfl) ?_
        refine j_c hx hb dL_acts_81 ?_
        refine Gld hx hb hK hW.1 (0) (by omega) (by omega) dL_acts_82 ?_
        rw [show mu_131 0 = (m 0) + 1 from by rw [emu_131, up_at rfl]]
        refine j_c hx hb dL_acts_83 ?_
        refine j_sub hx hb dL_acts_84 ?_
        refine j_ine (tgt := 92) hx hb (by omega) (by omega) dL_acts_85 (by decide) (fun c132 => absurd c132 (by omega)) (fun c132 => ?_)
        refine j_c hx hb dL_acts_88 ?_
        refine lv_goto (tgt := 93) hx hb dL_acts_89 (by decide) ?_
        exact e_zret hx hb hr hlocks hW (by subst emu_131; subst emu_129; subst emu_127; exact LS_keep hS hI1 (fun j hj => by rw [up_ne (by omega), up_ne (by omega), up_ne (by omega)]) ht hL1) (by first | decide | exact b2i_or) (by rfl) dL_acts_93
      · refine lv_aload_n hx hb dL_acts_39 rfl (lv_at hl 2 rfl) ?_
        obtain ⟨wL1, hL1, cM, hI1⟩ := ac_come_no l D hL hI (by omega)
        refine m_callV (v := some (.int (iI ((-3))))) (ci := 5) (n := 0) (As := []) (rest := []) (st2 := [.int (iI ((-3)))]) (pre := lw2 cI ga va m (ed2 cL ea da ev dv [])) (post := []) (w2 := lw2 cI ga va m (ed2 cL ea da ev dv wL1)) ⟨hx, hb, hml, hown, hts⟩ hK2 hW (cM) (by rw [List.append_nil]; rfl) (by rw [List.append_nil]; rfl) (hL.fst hL1) rfl hL.head gL_acts_X5_come rfl (by decide +kernel) ⟨Nat.le_of_ble_eq_true rfl, Nat.le_of_ble_eq_true rfl⟩ rfl hl.1 (Nat.le_of_ble_eq_true rfl) dL_acts_40 ⟨Nat.zero_le _, Nat.zero_le _⟩ rfl rfl (fun H locs hW => ?_)
        refine j_bi hx hb dL_acts_43 rfl ?_
        refine j_ine (tgt := 52) hx hb (by omega) (by omega) dL_acts_45 (by decide) (fun c133 => absurd c133 (by decide)) (fun c133 => ?_)
        refine j_c hx hb dL_acts_48 ?_
        refine lv_goto (tgt := 53) hx hb dL_acts_49 (by decide) ?_
        exact e_zret hx hb hr hlocks hW (by exact ⟨m, ev, dv, wL1, hS, by omega, hL1, rfl⟩) (by first | decide | exact b2i_or) (by rfl) dL_acts_53
