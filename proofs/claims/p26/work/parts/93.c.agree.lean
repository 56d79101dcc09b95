/-! the law: agree -/
set_option maxHeartbeats 4000000 in
set_option maxRecDepth 100000 in
theorem kL_agree (l : Launch) (D : va_G) (cI cV cL : ClassId) (ga va : Nat) (m : Nat → Int) (hI : Inv m) (hX : Xw m) : ML l yL_agree wsL_agree 1 25 [.ref (ga), .ref (va)] (lw2 cI ga va m []) (fun w' => w' = lw2 cI ga va (mgS (m 3 - m 4).toNat m) []) D cI cV cL (some (.int (iI (mgS (m 3 - m 4).toNat m 4 - m 4)))) := by
  obtain ⟨X, hag⟩ : ∃ X, X = mgS (m 3 - m 4).toNat m := ⟨_, rfl⟩
  rw [← hag]
  refine ML.of (cc := cL_agree) (maxL := 6) (ret := (some .int)) (by decide) rfl (Nat.le_of_ble_eq_true rfl) ?_
  intro p e s0 mi below meth c ls hx hb hr hts hown hlocks hml hW hK hl
  have hown : s0.vm.findClass RL = some mi.cls := hown
  have hl : lv_has ls 6 [(0, .ref (ga)), (1, .ref (va))] := hl
  refine j_c hx hb dL_agree_0 ?_
  refine lv_istore_n (lv' := [(2, .int (iI (0))), (0, .ref (ga)), (1, .ref (va))]) hx hb dL_agree_1 rfl hl (by decide) rfl (fun ls hl => ?_)
  refine lv_aload_n hx hb dL_agree_2 rfl (lv_at hl 1 rfl) ?_
  refine j_c hx hb dL_agree_3 ?_
  refine Gld hx hb hK hW.1 (4) (by omega) (by omega) dL_agree_4 ?_
  have r1 : bd (m 4) := hI.1.1 4
  refine lv_istore_n (lv' := [(3, .int (iI (m 4))), (2, .int (iI (0))), (0, .ref (ga)), (1, .ref (va))]) hx hb dL_agree_5 rfl hl (by decide) rfl (fun ls hl => ?_)
  have LP6 : ∀ (fu : Nat) (s : Nat → Int) (x2 : Int), x2 = s 4 - m 4 → (Inv s ∧ Xw s ∧ X = mgS (s 3 - s 4).toNat s) → (s 3 - s 4).toNat < fu → ∀ (H : Heap) (locs : List Loc), Wd D (ad (lw2 cI ga va m [])) (lw2 cI ga va s []) s0.heap H locs → ∀ ls : Array Slot, lv_has ls 6 [(3, .int (iI (s 4))), (2, .int (iI (x2))), (0, .ref (ga)), (1, .ref (va))] → W p l e (headSpec wsL_agree (rmK 1 25)).room s0 mi ([.ref (ga), .ref (va)] : List Value).toArray below meth c H locs 0 0 (MQ below (mR D (some (.int (iI (X 4 - m 4)))) (fun w' => w' = lw2 cI ga va X []) (ad (lw2 cI ga va m []))) ([.ref (ga), .ref (va)] : List Value).toArray s0 0 0 (ad (lw2 cI ga va m []))) (F0 mi 6 ls []) := by
    intro fu
    induction fu with
    | zero =>
      intros
      omega
    | succ fu ih =>
      intro s x2 ex2 hinv hmeas H locs hW ls hl
      obtain ⟨hIs, hXs, hag⟩ := hinv
      obtain ⟨hbs, k0, k12, k1, k15, k3, k360, k4, k43, k7, k76, k6, k66, ho, hn⟩ := id hIs.1
      have h5 : s 5 = -9 ∨ 0 ≤ s 5 := by
        have := hIs.h45
        omega
      have hb3 := hbs 3
      have hb4 := hbs 4
      have hb5 := hbs 5
      have hb1 := hbs 1
      refine lv_iload_n hx hb dL_agree_6 rfl (lv_at hl 0 rfl) ?_
      refine lv_aload_n hx hb dL_agree_7 rfl (lv_at hl 2 rfl) ?_
      refine j_c hx hb dL_agree_8 ?_
      refine Gld hx hb hK hW.1 (3) (by omega) (by omega) dL_agree_9 ?_
      have r2 : bd (s 3) := hbs 3
      refine j_ige (tgt := 131) hx hb (by omega) (by omega) dL_agree_10 (by decide) (fun c3 => ?_) (fun c3 => ?_)
      · have hXe : X = s := by
          rw [hag, show (s 3 - s 4).toNat = 0 by omega]
          rfl
        refine lv_iload_n hx hb dL_agree_131 rfl (lv_at hl 1 rfl) ?_
        exact e_iret hx hb hr hlocks hW (by rw [hXe]) (by rw [hXe]; omega) dL_agree_132
      · refine lv_aload_n hx hb dL_agree_13 rfl (lv_at hl 2 rfl) ?_
        refine lv_aload_n hx hb dL_agree_14 rfl (lv_at hl 3 rfl) ?_
        refine j_bi hx hb dL_agree_15 rfl ?_
        refine lv_iload_n hx hb dL_agree_17 rfl (lv_at hl 0 rfl) ?_
        refine pl_callS (v := .int (iI (sm (fun i => b2i ((s 4) < s (20 + (s (32 + i)).toNat))) (s 1).toNat))) (n := 4) (w := lw2 cI ga va s []) (As := [.ref (ga), .ref (va), .int (iI (24)), .int (iI (s 4))]) (rest := []) ⟨hx, hb, hml, hown, hts⟩ hK (kL_have l D cI cV cL ga va ([]) s hbs ⟨k1, k15⟩ 24 32 (s 4) (by decide) (by decide) (by omega) (fun i hi => ho i (by omega))) hW.1 gL_agree_L_have rfl (by decide +kernel) ⟨Nat.le_of_ble_eq_true rfl, Nat.le_of_ble_eq_true rfl⟩ rfl hl.1 (Nat.le_of_ble_eq_true rfl) dL_agree_18 ⟨Nat.zero_le _, Nat.zero_le _⟩ rfl ?_
        have sm4 := sm_rg (f := (fun i => b2i ((s 4) < s (20 + (s (32 + i)).toNat)))) (fun k => b2i_rg) (s 1).toNat
        refine lv_aload_n hx hb dL_agree_21 rfl (lv_at hl 2 rfl) ?_
        refine lv_aload_n hx hb dL_agree_22 rfl (lv_at hl 3 rfl) ?_
        refine lv_aload_n hx hb dL_agree_23 rfl (lv_at hl 2 rfl) ?_
        refine pl_callS (v := .int (iI (boV s))) (n := 1) (w := lw2 cI ga va s []) (As := [.ref (ga)]) (rest := [.ref (va), .ref (ga), .int (iI (sm (fun i => b2i ((s 4) < s (20 + (s (32 + i)).toNat))) (s 1).toNat))]) ⟨hx, hb, hml, hown, hts⟩ hK (kL_both l D cI cV cL ga va ([]) s hbs) hW.1 gL_agree_L_both rfl (by decide +kernel) ⟨Nat.le_of_ble_eq_true rfl, Nat.le_of_ble_eq_true rfl⟩ rfl hl.1 (Nat.le_of_ble_eq_true rfl) dL_agree_24 ⟨Nat.zero_le _, Nat.zero_le _⟩ rfl ?_
        have bo5 := boV_o h5
        refine lv_iload_n hx hb dL_agree_27 rfl (lv_at hl 0 rfl) ?_
        refine pl_callS (v := .int (iI (sm (fun i => b2i ((s 4) < s (20 + (s ((if s 5 ≠ -9 then (37 : Int) else 32).toNat + i)).toNat))) (s 1).toNat))) (n := 4) (w := lw2 cI ga va s []) (As := [.ref (ga), .ref (va), .int (iI (boV s)), .int (iI (s 4))]) (rest := [.int (iI (sm (fun i => b2i ((s 4) < s (20 + (s (32 + i)).toNat))) (s 1).toNat))]) ⟨hx, hb, hml, hown, hts⟩ hK (kL_have l D cI cV cL ga va ([]) s hbs ⟨k1, k15⟩ (boV s) ((if s 5 ≠ -9 then (37 : Int) else 32).toNat) (s 4) (boV_o h5).1 ⟨(boV_o h5).2.1, (boV_o h5).2.2.1⟩ (by omega) (fun i hi => ⟨(hIs.new hi).1, by have := (hIs.new hi).2; omega⟩)) hW.1 gL_agree_L_have rfl (by decide +kernel) ⟨Nat.le_of_ble_eq_true rfl, Nat.le_of_ble_eq_true rfl⟩ rfl hl.1 (Nat.le_of_ble_eq_true rfl) dL_agree_28 ⟨Nat.zero_le _, Nat.zero_le _⟩ rfl ?_
        have sm6 := sm_rg (f := (fun i => b2i ((s 4) < s (20 + (s ((if s 5 ≠ -9 then (37 : Int) else 32).toNat + i)).toNat)))) (fun k => b2i_rg) (s 1).toNat
        refine j_ige (tgt := 45) hx hb (by omega) (by omega) dL_agree_31 (by decide) (fun c7 => ?_) (fun c7 => ?_)
        · refine lv_aload_n hx hb dL_agree_45 rfl (lv_at hl 2 rfl) ?_
          refine lv_aload_n hx hb dL_agree_46 rfl (lv_at hl 3 rfl) ?_
          refine lv_aload_n hx hb dL_agree_47 rfl (lv_at hl 2 rfl) ?_
          refine pl_callS (v := .int (iI (boV s))) (n := 1) (w := lw2 cI ga va s []) (As := [.ref (ga)]) (rest := [.ref (va), .ref (ga)]) ⟨hx, hb, hml, hown, hts⟩ hK (kL_both l D cI cV cL ga va ([]) s hbs) hW.1 gL_agree_L_both rfl (by decide +kernel) ⟨Nat.le_of_ble_eq_true rfl, Nat.le_of_ble_eq_true rfl⟩ rfl hl.1 (Nat.le_of_ble_eq_true rfl) dL_agree_48 ⟨Nat.zero_le _, Nat.zero_le _⟩ rfl ?_
          have bo8 := boV_o h5
          refine lv_iload_n hx hb dL_agree_51 rfl (lv_at hl 0 rfl) ?_
          refine pl_callS (v := .int (iI (sm (fun i => b2i ((s 4) < s (20 + (s ((if s 5 ≠ -9 then (37 : Int) else 32).toNat + i)).toNat))) (s 1).toNat))) (n := 4) (w := lw2 cI ga va s []) (As := [.ref (ga), .ref (va), .int (iI (boV s)), .int (iI (s 4))]) (rest := []) ⟨hx, hb, hml, hown, hts⟩ hK (kL_have l D cI cV cL ga va ([]) s hbs ⟨k1, k15⟩ (boV s) ((if s 5 ≠ -9 then (37 : Int) else 32).toNat) (s 4) (boV_o h5).1 ⟨(boV_o h5).2.1, (boV_o h5).2.2.1⟩ (by omega) (fun i hi => ⟨(hIs.new hi).1, by have := (hIs.new hi).2; omega⟩)) hW.1 gL_agree_L_have rfl (by decide +kernel) ⟨Nat.le_of_ble_eq_true rfl, Nat.le_of_ble_eq_true rfl⟩ rfl hl.1 (Nat.le_of_ble_eq_true rfl) dL_agree_52 ⟨Nat.zero_le _, Nat.zero_le _⟩ rfl ?_
          have sm9 := sm_rg (f := (fun i => b2i ((s 4) < s (20 + (s ((if s 5 ≠ -9 then (37 : Int) else 32).toNat + i)).toNat)))) (fun k => b2i_rg) (s 1).toNat
          refine lv_istore (lv' := [(4, .int (iI (sm (fun i => b2i ((s 4) < s (20 + (s ((if s 5 ≠ -9 then (37 : Int) else 32).toNat + i)).toNat))) (s 1).toNat))), (3, .int (iI (s 4))), (2, .int (iI (x2))), (0, .ref (ga)), (1, .ref (va))]) hx hb dL_agree_55 hl (by decide) rfl (fun ls hl => ?_)
          refine lv_iload hx hb dL_agree_57 (lv_at hl 0 rfl) ?_
          refine lv_aload_n hx hb dL_agree_59 rfl (lv_at hl 3 rfl) ?_
          refine j_c hx hb dL_agree_60 ?_
          refine Gld hx hb hK hW.1 (1) (by omega) (by omega) dL_agree_61 ?_
          have r10 : bd (s 1) := hbs 1
          refine j_c hx hb dL_agree_62 ?_
          refine j_div hx hb (by omega) (by omega) dL_agree_63 ?_
          refine j_igt (tgt := 69) hx hb (by omega) (by omega) dL_agree_64 (by decide) (fun c11 => ?_) (fun c11 => ?_)
          · refine lv_iinc (v := iI (x2 + 1)) (lv' := [(2, .int (iI (x2 + 1))), (4, .int (iI (sm (fun i => b2i ((s 4) < s (20 + (s ((if s 5 ≠ -9 then (37 : Int) else 32).toNat + i)).toNat))) (s 1).toNat))), (3, .int (iI (s 4))), (0, .ref (ga)), (1, .ref (va))]) hx hb dL_agree_69 hl (k := 2) rfl (iI_add _ _) (by decide) rfl (fun ls hl => ?_)
            refine lv_aload_n hx hb dL_agree_72 rfl (lv_at hl 3 rfl) ?_
            refine j_c hx hb dL_agree_73 ?_
            refine lv_dup2_11 hx hb dL_agree_74 rfl rfl ?_
            refine Gld hx hb hK hW.1 (4) (by omega) (by omega) dL_agree_75 ?_
            have r12 : bd (s 4) := hbs 4
            refine j_c hx hb dL_agree_76 ?_
            refine j_add hx hb dL_agree_77 ?_
            refine Gst hx hb hK hW (4) (by omega) (by omega) dL_agree_78 (fun H locs hW => ?_)
            obtain ⟨mu_13, emu_13⟩ : ∃ zz_, zz_ = up s (4) ((s 4) + 1) := ⟨_, rfl⟩
            rw [← emu_13] at hW
            refine lv_iload_n hx hb dL_agree_79 rfl (lv_at hl 2 rfl) ?_
            refine lv_aload_n hx hb dL_agree_80 rfl (lv_at hl 3 rfl) ?_
            refine j_c hx hb dL_agree_81 ?_
            refine Gld hx hb hK hW.1 (5) (by omega) (by omega) dL_agree_82 ?_
            rw [show mu_13 5 = s 5 from by rw [emu_13, up_ne (by omega)]]
            have r14 : bd (s 5) := hbs 5
            refine j_ine (tgt := 125) hx hb (by omega) (by omega) dL_agree_83 (by decide) (fun c15 => ?_) (fun c15 => ?_)
            · refine lv_iinc (v := iI ((s 4) + 1)) (lv' := [(3, .int (iI ((s 4) + 1))), (2, .int (iI (x2 + 1))), (4, .int (iI (sm (fun i => b2i ((s 4) < s (20 + (s ((if s 5 ≠ -9 then (37 : Int) else 32).toNat + i)).toNat))) (s 1).toNat))), (0, .ref (ga)), (1, .ref (va))]) hx hb dL_agree_125 hl (k := 2) rfl (iI_add _ _) (by decide) rfl (fun ls hl => ?_)
              refine lv_goto (tgt := 6) hx hb dL_agree_128 (by decide) ?_
              have hcn : cnM s := ⟨by omega, by omega, by omega⟩
              have g4 := mgStep_4 ⟨k1, k15⟩
              rw [← g4.1] at hl
              have hz : X = mgS ((mgStep s) 3 - (mgStep s) 4).toNat (mgStep s) := by
                rw [hag, show (s 3 - s 4).toNat = ((mgStep s) 3 - (mgStep s) 4).toNat + 1 by omega]
                exact mgS_pos hcn _
              exact ih (mgStep s) (x2 + 1) (by omega) (by exact ⟨Inv_step hIs hcn, Xw_step ⟨k1, k15⟩ hXs, hz⟩) (by omega) _ _ ((show lw2 cI ga va mu_13 [] = lw2 cI ga va (mgStep s) [] from by have hz : mu_13 = mgStep s := (by unfold mgStep; rw [if_neg (by omega)]; exact emu_13); rw [hz]) ▸ hW) ls (lv_sub hl [0, 1, 3, 4] rfl)
            · refine j_bi hx hb dL_agree_86 rfl ?_
              refine lv_istore (lv' := [(5, .int (iI (24))), (2, .int (iI (x2 + 1))), (4, .int (iI (sm (fun i => b2i ((s 4) < s (20 + (s ((if s 5 ≠ -9 then (37 : Int) else 32).toNat + i)).toNat))) (s 1).toNat))), (3, .int (iI (s 4))), (0, .ref (ga)), (1, .ref (va))]) hx hb dL_agree_88 hl (by decide) rfl (fun ls hl => ?_)
              refine lv_iload hx hb dL_agree_90 (lv_at hl 0 rfl) ?_
              refine j_bi hx hb dL_agree_92 rfl ?_
              refine j_ige (tgt := 113) hx hb (by omega) (by omega) dL_agree_94 (by decide) (fun c16 => absurd c16 (by decide)) (fun c16 => ?_)
              refine lv_aload_n hx hb dL_agree_97 rfl (lv_at hl 5 rfl) ?_
              refine lv_iload hx hb dL_agree_98 (lv_at hl 0 rfl) ?_
              refine lv_aload_n hx hb dL_agree_100 rfl (lv_at hl 5 rfl) ?_
              refine lv_iload hx hb dL_agree_101 (lv_at hl 0 rfl) ?_
              refine j_c hx hb dL_agree_103 ?_
              refine j_add hx hb dL_agree_104 ?_
              refine Vld hx hb hK hW.1 (37) (by omega) (by omega) dL_agree_105 ?_
              rw [show mu_13 37 = s 37 from by rw [emu_13, up_ne (by omega)]]
              have r17 : bd (s 37) := hbs 37
              refine Vst hx hb hK hW (32) (by omega) (by omega) dL_agree_106 (fun H locs hW => ?_)
              obtain ⟨mu_18, emu_18⟩ : ∃ zz_, zz_ = up mu_13 (32) (s 37) := ⟨_, rfl⟩
              rw [← emu_18] at hW
              refine lv_iinc (v := iI (24 + 1)) (lv' := [(5, .int (iI (24 + 1))), (2, .int (iI (x2 + 1))), (4, .int (iI (sm (fun i => b2i ((s 4) < s (20 + (s ((if s 5 ≠ -9 then (37 : Int) else 32).toNat + i)).toNat))) (s 1).toNat))), (3, .int (iI (s 4))), (0, .ref (ga)), (1, .ref (va))]) hx hb dL_agree_107 hl (k := 0) rfl (iI_add _ _) (by decide) rfl (fun ls hl => ?_)
              have hl : lv_has ls 6 [(5, .int (iI (25))), (2, .int (iI (x2 + 1))), (4, .int (iI (sm (fun i => b2i ((s 4) < s (20 + (s ((if s 5 ≠ -9 then (37 : Int) else 32).toNat + i)).toNat))) (s 1).toNat))), (3, .int (iI (s 4))), (0, .ref (ga)), (1, .ref (va))] := hl
              refine lv_goto (tgt := 90) hx hb dL_agree_110 (by decide) ?_
              refine lv_iload hx hb dL_agree_90 (lv_at hl 0 rfl) ?_
              refine j_bi hx hb dL_agree_92 rfl ?_
              refine j_ige (tgt := 113) hx hb (by omega) (by omega) dL_agree_94 (by decide) (fun c19 => absurd c19 (by decide)) (fun c19 => ?_)
              refine lv_aload_n hx hb dL_agree_97 rfl (lv_at hl 5 rfl) ?_
              refine lv_iload hx hb dL_agree_98 (lv_at hl 0 rfl) ?_
              refine lv_aload_n hx hb dL_agree_100 rfl (lv_at hl 5 rfl) ?_
              refine lv_iload hx hb dL_agree_101 (lv_at hl 0 rfl) ?_
              refine j_c hx hb dL_agree_103 ?_
              refine j_add hx hb dL_agree_104 ?_
              refine Vld hx hb hK hW.1 (38) (by omega) (by omega) dL_agree_105 ?_
              rw [show mu_18 38 = s 38 from by rw [emu_18, up_ne (by omega), emu_13, up_ne (by omega)]]
              have r20 : bd (s 38) := hbs 38
              refine Vst hx hb hK hW (33) (by omega) (by omega) dL_agree_106 (fun H locs hW => ?_)
              obtain ⟨mu_21, emu_21⟩ : ∃ zz_, zz_ = up mu_18 (33) (s 38) := ⟨_, rfl⟩
              rw [← emu_21] at hW
              refine lv_iinc (v := iI (25 + 1)) (lv' := [(5, .int (iI (25 + 1))), (2, .int (iI (x2 + 1))), (4, .int (iI (sm (fun i => b2i ((s 4) < s (20 + (s ((if s 5 ≠ -9 then (37 : Int) else 32).toNat + i)).toNat))) (s 1).toNat))), (3, .int (iI (s 4))), (0, .ref (ga)), (1, .ref (va))]) hx hb dL_agree_107 hl (k := 0) rfl (iI_add _ _) (by decide) rfl (fun ls hl => ?_)
              have hl : lv_has ls 6 [(5, .int (iI (26))), (2, .int (iI (x2 + 1))), (4, .int (iI (sm (fun i => b2i ((s 4) < s (20 + (s ((if s 5 ≠ -9 then (37 : Int) else 32).toNat + i)).toNat))) (s 1).toNat))), (3, .int (iI (s 4))), (0, .ref (ga)), (1, .ref (va))] := hl
              refine lv_goto (tgt := 90) hx hb dL_agree_110 (by decide) ?_
              refine lv_iload hx hb dL_agree_90 (lv_at hl 0 rfl) ?_
              refine j_bi hx hb dL_agree_92 rfl ?_
              refine j_ige (tgt := 113) hx hb (by omega) (by omega) dL_agree_94 (by decide) (fun c22 => absurd c22 (by decide)) (fun c22 => ?_)
              refine lv_aload_n hx hb dL_agree_97 rfl (lv_at hl 5 rfl) ?_
              refine lv_iload hx hb dL_agree_98 (lv_at hl 0 rfl) ?_
              refine lv_aload_n hx hb dL_agree_100 rfl (lv_at hl 5 rfl) ?_
              refine lv_iload hx hb dL_agree_101 (lv_at hl 0 rfl) ?_
              refine j_c hx hb dL_agree_103 ?_
              refine j_add hx hb dL_agree_104 ?_
              refine Vld hx hb hK hW.1 (39) (by omega) (by omega) dL_agree_105 ?_
              rw [show mu_21 39 = s 39 from by rw [emu_21, up_ne (by omega), emu_18, up_ne (by omega), emu_13, up_ne (by omega)]]
              have r23 : bd (s 39) := hbs 39
              refine Vst hx hb hK hW (34) (by omega) (by omega) dL_agree_106 (fun H locs hW => ?_)
              obtain ⟨mu_24, emu_24⟩ : ∃ zz_, zz_ = up mu_21 (34) (s 39) := ⟨_, rfl⟩
              rw [← emu_24] at hW
              refine lv_iinc (v := iI (26 + 1)) (lv' := [(5, .int (iI (26 + 1))), (2, .int (iI (x2 + 1))), (4, .int (iI (sm (fun i => b2i ((s 4) < s (20 + (s ((if s 5 ≠ -9 then (37 : Int) else 32).toNat + i)).toNat))) (s 1).toNat))), (3, .int (iI (s 4))), (0, .ref (ga)), (1, .ref (va))]) hx hb dL_agree_107 hl (k := 0) rfl (iI_add _ _) (by decide) rfl (fun ls hl => ?_)
              have hl : lv_has ls 6 [(5, .int (iI (27))), (2, .int (iI (x2 + 1))), (4, .int (iI (sm (fun i => b2i ((s 4) < s (20 + (s ((if s 5 ≠ -9 then (37 : Int) else 32).toNat + i)).toNat))) (s 1).toNat))), (3, .int (iI (s 4))), (0, .ref (ga)), (1, .ref (va))] := hl
              refine lv_goto (tgt := 90) hx hb dL_agree_110 (by decide) ?_
              refine lv_iload hx hb dL_agree_90 (lv_at hl 0 rfl) ?_
              refine j_bi hx hb dL_agree_92 rfl ?_
              refine j_ige (tgt := 113) hx hb (by omega) (by omega) dL_agree_94 (by decide) (fun c25 => absurd c25 (by decide)) (fun c25 => ?_)
              refine lv_aload_n hx hb dL_agree_97 rfl (lv_at hl 5 rfl) ?_
              refine lv_iload hx hb dL_agree_98 (lv_at hl 0 rfl) ?_
              refine lv_aload_n hx hb dL_agree_100 rfl (lv_at hl 5 rfl) ?_
              refine lv_iload hx hb dL_agree_101 (lv_at hl 0 rfl) ?_
              refine j_c hx hb dL_agree_103 ?_
              refine j_add hx hb dL_agree_104 ?_
              refine Vld hx hb hK hW.1 (40) (by omega) (by omega) dL_agree_105 ?_
              rw [show mu_24 40 = s 40 from by rw [emu_24, up_ne (by omega), emu_21, up_ne (by omega), emu_18, up_ne (by omega), emu_13, up_ne (by omega)]]
              have r26 : bd (s 40) := hbs 40
              refine Vst hx hb hK hW (35) (by omega) (by omega) dL_agree_106 (fun H locs hW => ?_)
              obtain ⟨mu_27, emu_27⟩ : ∃ zz_, zz_ = up mu_24 (35) (s 40) := ⟨_, rfl⟩
              rw [← emu_27] at hW
              refine lv_iinc (v := iI (27 + 1)) (lv' := [(5, .int (iI (27 + 1))), (2, .int (iI (x2 + 1))), (4, .int (iI (sm (fun i => b2i ((s 4) < s (20 + (s ((if s 5 ≠ -9 then (37 : Int) else 32).toNat + i)).toNat))) (s 1).toNat))), (3, .int (iI (s 4))), (0, .ref (ga)), (1, .ref (va))]) hx hb dL_agree_107 hl (k := 0) rfl (iI_add _ _) (by decide) rfl (fun ls hl => ?_)
              have hl : lv_has ls 6 [(5, .int (iI (28))), (2, .int (iI (x2 + 1))), (4, .int (iI (sm (fun i => b2i ((s 4) < s (20 + (s ((if s 5 ≠ -9 then (37 : Int) else 32).toNat + i)).toNat))) (s 1).toNat))), (3, .int (iI (s 4))), (0, .ref (ga)), (1, .ref (va))] := hl
              refine lv_goto (tgt := 90) hx hb dL_agree_110 (by decide) ?_
              refine lv_iload hx hb dL_agree_90 (lv_at hl 0 rfl) ?_
              refine j_bi hx hb dL_agree_92 rfl ?_
              refine j_ige (tgt := 113) hx hb (by omega) (by omega) dL_agree_94 (by decide) (fun c28 => absurd c28 (by decide)) (fun c28 => ?_)
              refine lv_aload_n hx hb dL_agree_97 rfl (lv_at hl 5 rfl) ?_
              refine lv_iload hx hb dL_agree_98 (lv_at hl 0 rfl) ?_
              refine lv_aload_n hx hb dL_agree_100 rfl (lv_at hl 5 rfl) ?_
              refine lv_iload hx hb dL_agree_101 (lv_at hl 0 rfl) ?_
              refine j_c hx hb dL_agree_103 ?_
              refine j_add hx hb dL_agree_104 ?_
              refine Vld hx hb hK hW.1 (41) (by omega) (by omega) dL_agree_105 ?_
              rw [show mu_27 41 = s 41 from by rw [emu_27, up_ne (by omega), emu_24, up_ne (by omega), emu_21, up_ne (by omega), emu_18, up_ne (by omega), emu_13, up_ne (by omega)]]
              have r29 : bd (s 41) := hbs 41
              refine Vst hx hb hK hW (36) (by omega) (by omega) dL_agree_106 (fun H locs hW => ?_)
              obtain ⟨mu_30, emu_30⟩ : ∃ zz_, zz_ = up mu_27 (36) (s 41) := ⟨_, rfl⟩
              rw [← emu_30] at hW
              refine lv_iinc (v := iI (28 + 1)) (lv' := [(5, .int (iI (28 + 1))), (2, .int (iI (x2 + 1))), (4, .int (iI (sm (fun i => b2i ((s 4) < s (20 + (s ((if s 5 ≠ -9 then (37 : Int) else 32).toNat + i)).toNat))) (s 1).toNat))), (3, .int (iI (s 4))), (0, .ref (ga)), (1, .ref (va))]) hx hb dL_agree_107 hl (k := 0) rfl (iI_add _ _) (by decide) rfl (fun ls hl => ?_)
              have hl : lv_has ls 6 [(5, .int (iI (29))), (2, .int (iI (x2 + 1))), (4, .int (iI (sm (fun i => b2i ((s 4) < s (20 + (s ((if s 5 ≠ -9 then (37 : Int) else 32).toNat + i)).toNat))) (s 1).toNat))), (3, .int (iI (s 4))), (0, .ref (ga)), (1, .ref (va))] := hl
              refine lv_goto (tgt := 90) hx hb dL_agree_110 (by decide) ?_
              refine lv_iload hx hb dL_agree_90 (lv_at hl 0 rfl) ?_
              refine j_bi hx hb dL_agree_92 rfl ?_
              refine j_ige (tgt := 113) hx hb (by omega) (by omega) dL_agree_94 (by decide) (fun c31 => ?_) (fun c31 => absurd c31 (by decide))
              refine lv_aload_n hx hb dL_agree_113 rfl (lv_at hl 4 rfl) ?_
              refine j_c hx hb dL_agree_114 ?_
              refine j_bi hx hb dL_agree_115 rfl ?_
              refine Gst hx hb hK hW (5) (by omega) (by omega) dL_agree_117 (fun H locs hW => ?_)
              obtain ⟨mu_32, emu_32⟩ : ∃ zz_, zz_ = up mu_30 (5) ((-9)) := ⟨_, rfl⟩
              rw [← emu_32] at hW
              refine lv_aload_n hx hb dL_agree_118 rfl (lv_at hl 4 rfl) ?_
              refine j_c hx hb dL_agree_119 ?_
              refine lv_dup2_11 hx hb dL_agree_120 rfl rfl ?_
              refine Gld hx hb hK hW.1 (2) (by omega) (by omega) dL_agree_121 ?_
              rw [show mu_32 2 = s 2 from by rw [emu_32, up_ne (by omega), emu_30, up_ne (by omega), emu_27, up_ne (by omega), emu_24, up_ne (by omega), emu_21, up_ne (by omega), emu_18, up_ne (by omega), emu_13, up_ne (by omega)]]
              have r33 : bd (s 2) := hbs 2
              refine j_c hx hb dL_agree_122 ?_
              refine j_add hx hb dL_agree_123 ?_
              refine Gst hx hb hK hW (2) (by omega) (by omega) dL_agree_124 (fun H locs hW => ?_)
              obtain ⟨mu_34, emu_34⟩ : ∃ zz_, zz_ = up mu_32 (2) ((s 2) + 1) := ⟨_, rfl⟩
              rw [← emu_34] at hW
              refine lv_iinc (v := iI ((s 4) + 1)) (lv' := [(3, .int (iI ((s 4) + 1))), (5, .int (iI (29))), (2, .int (iI (x2 + 1))), (4, .int (iI (sm (fun i => b2i ((s 4) < s (20 + (s ((if s 5 ≠ -9 then (37 : Int) else 32).toNat + i)).toNat))) (s 1).toNat))), (0, .ref (ga)), (1, .ref (va))]) hx hb dL_agree_125 hl (k := 3) rfl (iI_add _ _) (by decide) rfl (fun ls hl => ?_)
              refine lv_goto (tgt := 6) hx hb dL_agree_128 (by decide) ?_
              have hcn : cnM s := ⟨by omega, by omega, by omega⟩
              have g4 := mgStep_4 ⟨k1, k15⟩
              rw [← g4.1] at hl
              have hz : X = mgS ((mgStep s) 3 - (mgStep s) 4).toNat (mgStep s) := by
                rw [hag, show (s 3 - s 4).toNat = ((mgStep s) 3 - (mgStep s) 4).toNat + 1 by omega]
                exact mgS_pos hcn _
              exact ih (mgStep s) (x2 + 1) (by omega) (by exact ⟨Inv_step hIs hcn, Xw_step ⟨k1, k15⟩ hXs, hz⟩) (by omega) _ _ ((show lw2 cI ga va mu_34 [] = lw2 cI ga va (mgStep s) [] from lw2_congr (fun j hj => by subst emu_34; subst emu_32; subst emu_30; subst emu_27; subst emu_24; subst emu_21; subst emu_18; subst emu_13; exact agree_end ⟨k1, k15⟩ k4 (by omega) hXs hj)) ▸ hW) ls (lv_sub hl [0, 2, 4, 5] rfl)
          · have hXe : X = s := by
              obtain ⟨z, hz⟩ : ∃ z, (s 3 - s 4).toNat = z + 1 := ⟨(s 3 - s 4).toNat - 1, by omega⟩
              rw [hag, hz]
              exact mgS_neg (fun q => by
                have q1 := q.2.1
                have q2 := q.2.2
                omega) _
            refine lv_iload_n hx hb dL_agree_67 rfl (lv_at hl 2 rfl) ?_
            exact e_iret hx hb hr hlocks hW (by rw [hXe]) (by rw [hXe]; omega) dL_agree_68
        · refine lv_aload_n hx hb dL_agree_34 rfl (lv_at hl 2 rfl) ?_
          refine lv_aload_n hx hb dL_agree_35 rfl (lv_at hl 3 rfl) ?_
          refine j_bi hx hb dL_agree_36 rfl ?_
          refine lv_iload_n hx hb dL_agree_38 rfl (lv_at hl 0 rfl) ?_
          refine pl_callS (v := .int (iI (sm (fun i => b2i ((s 4) < s (20 + (s (32 + i)).toNat))) (s 1).toNat))) (n := 4) (w := lw2 cI ga va s []) (As := [.ref (ga), .ref (va), .int (iI (24)), .int (iI (s 4))]) (rest := []) ⟨hx, hb, hml, hown, hts⟩ hK (kL_have l D cI cV cL ga va ([]) s hbs ⟨k1, k15⟩ 24 32 (s 4) (by decide) (by decide) (by omega) (fun i hi => ho i (by omega))) hW.1 gL_agree_L_have rfl (by decide +kernel) ⟨Nat.le_of_ble_eq_true rfl, Nat.le_of_ble_eq_true rfl⟩ rfl hl.1 (Nat.le_of_ble_eq_true rfl) dL_agree_39 ⟨Nat.zero_le _, Nat.zero_le _⟩ rfl ?_
          have sm35 := sm_rg (f := (fun i => b2i ((s 4) < s (20 + (s (32 + i)).toNat)))) (fun k => b2i_rg) (s 1).toNat
          refine lv_goto (tgt := 55) hx hb dL_agree_42 (by decide) ?_
          refine lv_istore (lv' := [(4, .int (iI (sm (fun i => b2i ((s 4) < s (20 + (s (32 + i)).toNat))) (s 1).toNat))), (3, .int (iI (s 4))), (2, .int (iI (x2))), (0, .ref (ga)), (1, .ref (va))]) hx hb dL_agree_55 hl (by decide) rfl (fun ls hl => ?_)
          refine lv_iload hx hb dL_agree_57 (lv_at hl 0 rfl) ?_
          refine lv_aload_n hx hb dL_agree_59 rfl (lv_at hl 3 rfl) ?_
          refine j_c hx hb dL_agree_60 ?_
          refine Gld hx hb hK hW.1 (1) (by omega) (by omega) dL_agree_61 ?_
          have r36 : bd (s 1) := hbs 1
          refine j_c hx hb dL_agree_62 ?_
          refine j_div hx hb (by omega) (by omega) dL_agree_63 ?_
          refine j_igt (tgt := 69) hx hb (by omega) (by omega) dL_agree_64 (by decide) (fun c37 => ?_) (fun c37 => ?_)
          · refine lv_iinc (v := iI (x2 + 1)) (lv' := [(2, .int (iI (x2 + 1))), (4, .int (iI (sm (fun i => b2i ((s 4) < s (20 + (s (32 + i)).toNat))) (s 1).toNat))), (3, .int (iI (s 4))), (0, .ref (ga)), (1, .ref (va))]) hx hb dL_agree_69 hl (k := 2) rfl (iI_add _ _) (by decide) rfl (fun ls hl => ?_)
            refine lv_aload_n hx hb dL_agree_72 rfl (lv_at hl 3 rfl) ?_
            refine j_c hx hb dL_agree_73 ?_
            refine lv_dup2_11 hx hb dL_agree_74 rfl rfl ?_
            refine Gld hx hb hK hW.1 (4) (by omega) (by omega) dL_agree_75 ?_
            have r38 : bd (s 4) := hbs 4
            refine j_c hx hb dL_agree_76 ?_
            refine j_add hx hb dL_agree_77 ?_
            refine Gst hx hb hK hW (4) (by omega) (by omega) dL_agree_78 (fun H locs hW => ?_)
            obtain ⟨mu_39, emu_39⟩ : ∃ zz_, zz_ = up s (4) ((s 4) + 1) := ⟨_, rfl⟩
            rw [← emu_39] at hW
            refine lv_iload_n hx hb dL_agree_79 rfl (lv_at hl 2 rfl) ?_
            refine lv_aload_n hx hb dL_agree_80 rfl (lv_at hl 3 rfl) ?_
            refine j_c hx hb dL_agree_81 ?_
            refine Gld hx hb hK hW.1 (5) (by omega) (by omega) dL_agree_82 ?_
            rw [show mu_39 5 = s 5 from by rw [emu_39, up_ne (by omega)]]
            have r40 : bd (s 5) := hbs 5
            refine j_ine (tgt := 125) hx hb (by omega) (by omega) dL_agree_83 (by decide) (fun c41 => ?_) (fun c41 => ?_)
            · refine lv_iinc (v := iI ((s 4) + 1)) (lv' := [(3, .int (iI ((s 4) + 1))), (2, .int (iI (x2 + 1))), (4, .int (iI (sm (fun i => b2i ((s 4) < s (20 + (s (32 + i)).toNat))) (s 1).toNat))), (0, .ref (ga)), (1, .ref (va))]) hx hb dL_agree_125 hl (k := 2) rfl (iI_add _ _) (by decide) rfl (fun ls hl => ?_)
              refine lv_goto (tgt := 6) hx hb dL_agree_128 (by decide) ?_
              have hcn : cnM s := ⟨by omega, by omega, by omega⟩
              have g4 := mgStep_4 ⟨k1, k15⟩
              rw [← g4.1] at hl
              have hz : X = mgS ((mgStep s) 3 - (mgStep s) 4).toNat (mgStep s) := by
                rw [hag, show (s 3 - s 4).toNat = ((mgStep s) 3 - (mgStep s) 4).toNat + 1 by omega]
                exact mgS_pos hcn _
              exact ih (mgStep s) (x2 + 1) (by omega) (by exact ⟨Inv_step hIs hcn, Xw_step ⟨k1, k15⟩ hXs, hz⟩) (by omega) _ _ ((show lw2 cI ga va mu_39 [] = lw2 cI ga va (mgStep s) [] from by have hz : mu_39 = mgStep s := (by unfold mgStep; rw [if_neg (by omega)]; exact emu_39); rw [hz]) ▸ hW) ls (lv_sub hl [0, 1, 3, 4] rfl)
            · refine j_bi hx hb dL_agree_86 rfl ?_
              refine lv_istore (lv' := [(5, .int (iI (24))), (2, .int (iI (x2 + 1))), (4, .int (iI (sm (fun i => b2i ((s 4) < s (20 + (s (32 + i)).toNat))) (s 1).toNat))), (3, .int (iI (s 4))), (0, .ref (ga)), (1, .ref (va))]) hx hb dL_agree_88 hl (by decide) rfl (fun ls hl => ?_)
              refine lv_iload hx hb dL_agree_90 (lv_at hl 0 rfl) ?_
              refine j_bi hx hb dL_agree_92 rfl ?_
              refine j_ige (tgt := 113) hx hb (by omega) (by omega) dL_agree_94 (by decide) (fun c42 => absurd c42 (by decide)) (fun c42 => ?_)
              refine lv_aload_n hx hb dL_agree_97 rfl (lv_at hl 5 rfl) ?_
              refine lv_iload hx hb dL_agree_98 (lv_at hl 0 rfl) ?_
              refine lv_aload_n hx hb dL_agree_100 rfl (lv_at hl 5 rfl) ?_
              refine lv_iload hx hb dL_agree_101 (lv_at hl 0 rfl) ?_
              refine j_c hx hb dL_agree_103 ?_
              refine j_add hx hb dL_agree_104 ?_
              refine Vld hx hb hK hW.1 (37) (by omega) (by omega) dL_agree_105 ?_
              rw [show mu_39 37 = s 37 from by rw [emu_39, up_ne (by omega)]]
              have r43 : bd (s 37) := hbs 37
              refine Vst hx hb hK hW (32) (by omega) (by omega) dL_agree_106 (fun H locs hW => ?_)
              obtain ⟨mu_44, emu_44⟩ : ∃ zz_, zz_ = up mu_39 (32) (s 37) := ⟨_, rfl⟩
              rw [← emu_44] at hW
              refine lv_iinc (v := iI (24 + 1)) (lv' := [(5, .int (iI (24 + 1))), (2, .int (iI (x2 + 1))), (4, .int (iI (sm (fun i => b2i ((s 4) < s (20 + (s (32 + i)).toNat))) (s 1).toNat))), (3, .int (iI (s 4))), (0, .ref (ga)), (1, .ref (va))]) hx hb dL_agree_107 hl (k := 0) rfl (iI_add _ _) (by decide) rfl (fun ls hl => ?_)
              have hl : lv_has ls 6 [(5, .int (iI (25))), (2, .int (iI (x2 + 1))), (4, .int (iI (sm (fun i => b2i ((s 4) < s (20 + (s (32 + i)).toNat))) (s 1).toNat))), (3, .int (iI (s 4))), (0, .ref (ga)), (1, .ref (va))] := hl
              refine lv_goto (tgt := 90) hx hb dL_agree_110 (by decide) ?_
              refine lv_iload hx hb dL_agree_90 (lv_at hl 0 rfl) ?_
              refine j_bi hx hb dL_agree_92 rfl ?_
              refine j_ige (tgt := 113) hx hb (by omega) (by omega) dL_agree_94 (by decide) (fun c45 => absurd c45 (by decide)) (fun c45 => ?_)
              refine lv_aload_n hx hb dL_agree_97 rfl (lv_at hl 5 rfl) ?_
              refine lv_iload hx hb dL_agree_98 (lv_at hl 0 rfl) ?_
              refine lv_aload_n hx hb dL_agree_100 rfl (lv_at hl 5 rfl) ?_
              refine lv_iload hx hb dL_agree_101 (lv_at hl 0 rfl) ?_
              refine j_c hx hb dL_agree_103 ?_
              refine j_add hx hb dL_agree_104 ?_
              refine Vld hx hb hK hW.1 (38) (by omega) (by omega) dL_agree_105 ?_
              rw [show mu_44 38 = s 38 from by rw [emu_44, up_ne (by omega), emu_39, up_ne (by omega)]]
              have r46 : bd (s 38) := hbs 38
              refine Vst hx hb hK hW (33) (by omega) (by omega) dL_agree_106 (fun H locs hW => ?_)
              obtain ⟨mu_47, emu_47⟩ : ∃ zz_, zz_ = up mu_44 (33) (s 38) := ⟨_, rfl⟩
              rw [← emu_47] at hW
              refine lv_iinc (v := iI (25 + 1)) (lv' := [(5, .int (iI (25 + 1))), (2, .int (iI (x2 + 1))), (4, .int (iI (sm (fun i => b2i ((s 4) < s (20 + (s (32 + i)).toNat))) (s 1).toNat))), (3, .int (iI (s 4))), (0, .ref (ga)), (1, .ref (va))]) hx hb dL_agree_107 hl (k := 0) rfl (iI_add _ _) (by decide) rfl (fun ls hl => ?_)
              have hl : lv_has ls 6 [(5, .int (iI (26))), (2, .int (iI (x2 + 1))), (4, .int (iI (sm (fun i => b2i ((s 4) < s (20 + (s (32 + i)).toNat))) (s 1).toNat))), (3, .int (iI (s 4))), (0, .ref (ga)), (1, .ref (va))] := hl
              refine lv_goto (tgt := 90) hx hb dL_agree_110 (by decide) ?_
              refine lv_iload hx hb dL_agree_90 (lv_at hl 0 rfl) ?_
              refine j_bi hx hb dL_agree_92 rfl ?_
              refine j_ige (tgt := 113) hx hb (by omega) (by omega) dL_agree_94 (by decide) (fun c48 => absurd c48 (by decide)) (fun c48 => ?_)
              refine lv_aload_n hx hb dL_agree_97 rfl (lv_at hl 5 rfl) ?_
              refine lv_iload hx hb dL_agree_98 (lv_at hl 0 rfl) ?_
              refine lv_aload_n hx hb dL_agree_100 rfl (lv_at hl 5 rfl) ?_
              refine lv_iload hx hb dL_agree_101 (lv_at hl 0 rfl) ?_
              refine j_c hx hb dL_agree_103 ?_
              refine j_add hx hb dL_agree_104 ?_
              refine Vld hx hb hK hW.1 (39) (by omega) (by omega) dL_agree_105 ?_
              rw [show mu_47 39 = s 39 from by rw [emu_47, up_ne (by omega), emu_44, up_ne (by omega), emu_39, up_ne (by omega)]]
              have r49 : bd (s 39) := hbs 39
              refine Vst hx hb hK hW (34) (by omega) (by omega) dL_agree_106 (fun H locs hW => ?_)
              obtain ⟨mu_50, emu_50⟩ : ∃ zz_, zz_ = up mu_47 (34) (s 39) := ⟨_, rfl⟩
              rw [← emu_50] at hW
              refine lv_iinc (v := iI (26 + 1)) (lv' := [(5, .int (iI (26 + 1))), (2, .int (iI (x2 + 1))), (4, .int (iI (sm (fun i => b2i ((s 4) < s (20 + (s (32 + i)).toNat))) (s 1).toNat))), (3, .int (iI (s 4))), (0, .ref (ga)), (1, .ref (va))]) hx hb dL_agree_107 hl (k := 0) rfl (iI_add _ _) (by decide) rfl (fun ls hl => ?_)
              have hl : lv_has ls 6 [(5, .int (iI (27))), (2, .int (iI (x2 + 1))), (4, .int (iI (sm (fun i => b2i ((s 4) < s (20 + (s (32 + i)).toNat))) (s 1).toNat))), (3, .int (iI (s 4))), (0, .ref (ga)), (1, .ref (va))] := hl
              refine lv_goto (tgt := 90) hx hb dL_agree_110 (by decide) ?_
              refine lv_iload hx hb dL_agree_90 (lv_at hl 0 rfl) ?_
              refine j_bi hx hb dL_agree_92 rfl ?_
              refine j_ige (tgt := 113) hx hb (by omega) (by omega) dL_agree_94 (by decide) (fun c51 => absurd c51 (by decide)) (fun c51 => ?_)
              refine lv_aload_n hx hb dL_agree_97 rfl (lv_at hl 5 rfl) ?_
              refine lv_iload hx hb dL_agree_98 (lv_at hl 0 rfl) ?_
              refine lv_aload_n hx hb dL_agree_100 rfl (lv_at hl 5 rfl) ?_
              refine lv_iload hx hb dL_agree_101 (lv_at hl 0 rfl) ?_
              refine j_c hx hb dL_agree_103 ?_
              refine j_add hx hb dL_agree_104 ?_
              refine Vld hx hb hK hW.1 (40) (by omega) (by omega) dL_agree_105 ?_
              rw [show mu_50 40 = s 40 from by rw [emu_50, up_ne (by omega), emu_47, up_ne (by omega), emu_44, up_ne (by omega), emu_39, up_ne (by omega)]]
              have r52 : bd (s 40) := hbs 40
              refine Vst hx hb hK hW (35) (by omega) (by omega) dL_agree_106 (fun H locs hW => ?_)
              obtain ⟨mu_53, emu_53⟩ : ∃ zz_, zz_ = up mu_50 (35) (s 40) := ⟨_, rfl⟩
              rw [← emu_53] at hW
              refine lv_iinc (v := iI (27 + 1)) (lv' := [(5, .int (iI (27 + 1))), (2, .int (iI (x2 + 1))), (4, .int (iI (sm (fun i => b2i ((s 4) < s (20 + (s (32 + i)).toNat))) (s 1).toNat))), (3, .int (iI (s 4))), (0, .ref (ga)), (1, .ref (va))]) hx hb dL_agree_107 hl (k := 0) rfl (iI_add _ _) (by decide) rfl (fun ls hl => ?_)
              have hl : lv_has ls 6 [(5, .int (iI (28))), (2, .int (iI (x2 + 1))), (4, .int (iI (sm (fun i => b2i ((s 4) < s (20 + (s (32 + i)).toNat))) (s 1).toNat))), (3, .int (iI (s 4))), (0, .ref (ga)), (1, .ref (va))] := hl
              refine lv_goto (tgt := 90) hx hb dL_agree_110 (by decide) ?_
              refine lv_iload hx hb dL_agree_90 (lv_at hl 0 rfl) ?_
              refine j_bi hx hb dL_agree_92 rfl ?_
              refine j_ige (tgt := 113) hx hb (by omega) (by omega) dL_agree_94 (by decide) (fun c54 => absurd c54 (by decide)) (fun c54 => ?_)
              refine lv_aload_n hx hb dL_agree_97 rfl (lv_at hl 5 rfl) ?_
              refine lv_iload hx hb dL_agree_98 (lv_at hl 0 rfl) ?_
              refine lv_aload_n hx hb dL_agree_100 rfl (lv_at hl 5 rfl) ?_
              refine lv_iload hx hb dL_agree_101 (lv_at hl 0 rfl) ?_
              refine j_c hx hb dL_agree_103 ?_
              refine j_add hx hb dL_agree_104 ?_
              refine Vld hx hb hK hW.1 (41) (by omega) (by omega) dL_agree_105 ?_
              rw [show mu_53 41 = s 41 from by rw [emu_53, up_ne (by omega), emu_50, up_ne (by omega), emu_47, up_ne (by omega), emu_44, up_ne (by omega), emu_39, up_ne (by omega)]]
              have r55 : bd (s 41) := hbs 41
              refine Vst hx hb hK hW (36) (by omega) (by omega) dL_agree_106 (fun H locs hW => ?_)
              obtain ⟨mu_56, emu_56⟩ : ∃ zz_, zz_ = up mu_53 (36) (s 41) := ⟨_, rfl⟩
              rw [← emu_56] at hW
              refine lv_iinc (v := iI (28 + 1)) (lv' := [(5, .int (iI (28 + 1))), (2, .int (iI (x2 + 1))), (4, .int (iI (sm (fun i => b2i ((s 4) < s (20 + (s (32 + i)).toNat))) (s 1).toNat))), (3, .int (iI (s 4))), (0, .ref (ga)), (1, .ref (va))]) hx hb dL_agree_107 hl (k := 0) rfl (iI_add _ _) (by decide) rfl (fun ls hl => ?_)
              have hl : lv_has ls 6 [(5, .int (iI (29))), (2, .int (iI (x2 + 1))), (4, .int (iI (sm (fun i => b2i ((s 4) < s (20 + (s (32 + i)).toNat))) (s 1).toNat))), (3, .int (iI (s 4))), (0, .ref (ga)), (1, .ref (va))] := hl
              refine lv_goto (tgt := 90) hx hb dL_agree_110 (by decide) ?_
              refine lv_iload hx hb dL_agree_90 (lv_at hl 0 rfl) ?_
              refine j_bi hx hb dL_agree_92 rfl ?_
              refine j_ige (tgt := 113) hx hb (by omega) (by omega) dL_agree_94 (by decide) (fun c57 => ?_) (fun c57 => absurd c57 (by decide))
              refine lv_aload_n hx hb dL_agree_113 rfl (lv_at hl 4 rfl) ?_
              refine j_c hx hb dL_agree_114 ?_
              refine j_bi hx hb dL_agree_115 rfl ?_
              refine Gst hx hb hK hW (5) (by omega) (by omega) dL_agree_117 (fun H locs hW => ?_)
              obtain ⟨mu_58, emu_58⟩ : ∃ zz_, zz_ = up mu_56 (5) ((-9)) := ⟨_, rfl⟩
              rw [← emu_58] at hW
              refine lv_aload_n hx hb dL_agree_118 rfl (lv_at hl 4 rfl) ?_
              refine j_c hx hb dL_agree_119 ?_
              refine lv_dup2_11 hx hb dL_agree_120 rfl rfl ?_
              refine Gld hx hb hK hW.1 (2) (by omega) (by omega) dL_agree_121 ?_
              rw [show mu_58 2 = s 2 from by rw [emu_58, up_ne (by omega), emu_56, up_ne (by omega), emu_53, up_ne (by omega), emu_50, up_ne (by omega), emu_47, up_ne (by omega), emu_44, up_ne (by omega), emu_39, up_ne (by omega)]]
              have r59 : bd (s 2) := hbs 2
              refine j_c hx hb dL_agree_122 ?_
              refine j_add hx hb dL_agree_123 ?_
              refine Gst hx hb hK hW (2) (by omega) (by omega) dL_agree_124 (fun H locs hW => ?_)
              obtain ⟨mu_60, emu_60⟩ : ∃ zz_, zz_ = up mu_58 (2) ((s 2) + 1) := ⟨_, rfl⟩
              rw [← emu_60] at hW
              refine lv_iinc (v := iI ((s 4) + 1)) (lv' := [(3, .int (iI ((s 4) + 1))), (5, .int (iI (29))), (2, .int (iI (x2 + 1))), (4, .int (iI (sm (fun i => b2i ((s 4) < s (20 + (s (32 + i)).toNat))) (s 1).toNat))), (0, .ref (ga)), (1, .ref (va))]) hx hb dL_agree_125 hl (k := 3) rfl (iI_add _ _) (by decide) rfl (fun ls hl => ?_)
              refine lv_goto (tgt := 6) hx hb dL_agree_128 (by decide) ?_
              have hcn : cnM s := ⟨by omega, by omega, by omega⟩
              have g4 := mgStep_4 ⟨k1, k15⟩
              rw [← g4.1] at hl
              have hz : X = mgS ((mgStep s) 3 - (mgStep s) 4).toNat (mgStep s) := by
                rw [hag, show (s 3 - s 4).toNat = ((mgStep s) 3 - (mgStep s) 4).toNat + 1 by omega]
                exact mgS_pos hcn _
              exact ih (mgStep s) (x2 + 1) (by omega) (by exact ⟨Inv_step hIs hcn, Xw_step ⟨k1, k15⟩ hXs, hz⟩) (by omega) _ _ ((show lw2 cI ga va mu_60 [] = lw2 cI ga va (mgStep s) [] from lw2_congr (fun j hj => by subst emu_60; subst emu_58; subst emu_56; subst emu_53; subst emu_50; subst emu_47; subst emu_44; subst emu_39; exact agree_end ⟨k1, k15⟩ k4 (by omega) hXs hj)) ▸ hW) ls (lv_sub hl [0, 2, 4, 5] rfl)
          · have hXe : X = s := by
              obtain ⟨z, hz⟩ : ∃ z, (s 3 - s 4).toNat = z + 1 := ⟨(s 3 - s 4).toNat - 1, by omega⟩
              rw [hag, hz]
              exact mgS_neg (fun q => by
                have q1 := q.2.1
                have q2 := q.2.2
                omega) _
            refine lv_iload_n hx hb dL_agree_67 rfl (lv_at hl 2 rfl) ?_
            exact e_iret hx hb hr hlocks hW (by rw [hXe]) (by rw [hXe]; omega) dL_agree_68
  exact LP6 _ m 0 (by omega) (by exact ⟨hI, hX, hag⟩) (Nat.lt_succ_self _) _ _ hW ls (lv_sub hl [0, 1, 2, 3] rfl)
