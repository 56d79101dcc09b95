theorem ite_bd {P : Prop} [Decidable P] {a b : Int} (ha : bd a) (hb : bd b) : bd (if P then a else b) := by
  split
  · exact ha
  · exact hb
theorem MS_37 {s : Nat → Int} {k : Nat} {x : Int} (h : MS s) (hk : k < 5) (hx : 0 ≤ x ∧ x < 12) : MS (up s (37 + k) x) := by
  have h2 := h
  obtain ⟨hb, k0, k1, k2, k3, k4, k5, k6, k7, k8, k9, k10, k11, ho, hn⟩ := h2
  refine MS_ex h (bd_up hb (by omega)) (Or.inl (up_ne (by omega))) (by rw [up_ne (by omega)]; omega) (Or.inl (up_ne (by omega))) (Or.inl (up_ne (by omega))) (by rw [up_ne (by omega)]; omega) (Or.inl (up_ne (by omega))) (fun i hi => by rw [up_ne (by omega)]; exact ho i hi) (fun i hi => ?_)
  by_cases q : i = k
  · rw [up_at (by omega)]
    exact hx
  · rw [up_ne (by omega)]
    exact hn i hi
theorem MS_cp {s v : Nat → Int} {k : Nat} (h : MS s) (hk : k ≤ 12) (hv : ∀ i, bd (v i)) : MS (blk s 20 v k) := by
  have h2 := h
  obtain ⟨hb, k0, k1, k2, k3, k4, k5, k6, k7, k8, k9, k10, k11, ho, hn⟩ := h2
  refine MS_ex h (fun j => ?_) (Or.inl (blk_out (by omega))) (by rw [blk_out (by omega)]; omega) (Or.inl (blk_out (by omega))) (Or.inl (blk_out (by omega))) (by rw [blk_out (by omega)]; omega) (Or.inl (blk_out (by omega))) (fun i hi => by rw [blk_out (by omega)]; exact ho i hi) (fun i hi => by rw [blk_out (by omega)]; exact hn i hi)
  unfold blk
  split
  · exact hv _
  · exact hb j
theorem modw_s {cI : ClassId} {b : Nat → Nat} {s s' pa he t : Nat → Int} {np ru ty at_ rd : Int} (h : ∀ j, j < 522 → s' j = s j) : modw cI b s' pa he np ru t ty at_ rd = modw cI b s pa he np ru t ty at_ rd := by
  unfold modw
  rw [arI_congr (f := s') (g := s) h]
theorem blk_back {s s' he : Nat → Int} {j : Nat} (h : j < 522) : blk s' 0 (blk he 0 s 522) 522 j = s j := by
  unfold blk
  rw [if_pos (by omega)]
  show (if 0 ≤ j - 0 ∧ j - 0 < 0 + 522 then s (j - 0 - 0) else he (j - 0)) = s j
  rw [if_pos (by omega)]
  rfl
set_option maxHeartbeats 4000000 in
set_option maxRecDepth 100000 in
theorem kX6_forge (l : Launch) (D : va_G) (cI cV : ClassId) (b : Nat → Nat) (s pa he : Nat → Int) (np ru : Int) (t : Nat → Int) (ty at_ rd : Int) (x : Int) (hM : MS s) (hru : ru = 0 ∨ ru = 1) (hnp : 0 ≤ np ∧ np ≤ 5) (r_x : rg x) (h24 : s 2 ≤ s 4) (h5f : s 5 ≠ -9 → 0 < s 7 ∧ 0 ≤ s (221 + 5 * (s 7).toNat) ∧ s (221 + 5 * (s 7).toNat) < s 1) : MM l yX6_forge wsX6_forge 3 61 [.ref (b 0), .int (iI (x))] (modw cI b s pa he np ru t ty at_ rd) (modw cI b (if ¬ (0 ≤ x ∧ x < s 0) then (s) else (if s 5 = -9 ∨ (seatL (fun i => s (32 + i)) (x) (s 1).toNat ≠ -9 ∨ seatL (fun i => s ((if s 5 ≠ -9 then (37 : Int) else 32).toNat + i)) (x) (s 1).toNat ≠ -9) then (s) else (mgS ((up (up s (219 + 5 * (s 7).toNat) x) (37 + (s (221 + 5 * (s 7).toNat)).toNat) x) 3 - (up (up s (219 + 5 * (s 7).toNat) x) (37 + (s (221 + 5 * (s 7).toNat)).toNat) x) 4).toNat (up (up s (219 + 5 * (s 7).toNat) x) (37 + (s (221 + 5 * (s 7).toNat)).toNat) x)))) (if ¬ (0 ≤ x ∧ x < s 0) then (pa) else (if s 5 = -9 ∨ (seatL (fun i => s (32 + i)) (x) (s 1).toNat ≠ -9 ∨ seatL (fun i => s ((if s 5 ≠ -9 then (37 : Int) else 32).toNat + i)) (x) (s 1).toNat ≠ -9) then (pa) else (if ru = 0 then actP s pa np else pa))) he (if ¬ (0 ≤ x ∧ x < s 0) then (np) else (if s 5 = -9 ∨ (seatL (fun i => s (32 + i)) (x) (s 1).toNat ≠ -9 ∨ seatL (fun i => s ((if s 5 ≠ -9 then (37 : Int) else 32).toNat + i)) (x) (s 1).toNat ≠ -9) then (np) else (if ru = 0 then actN np + 1 else np))) ru t ty at_ rd) D cI cV (some (.int (iI (if ¬ (0 ≤ x ∧ x < s 0) then (-1) else (if s 5 = -9 ∨ (seatL (fun i => s (32 + i)) (x) (s 1).toNat ≠ -9 ∨ seatL (fun i => s ((if s 5 ≠ -9 then (37 : Int) else 32).toNat + i)) (x) (s 1).toNat ≠ -9) then (-2) else (if (mgS ((up (up s (219 + 5 * (s 7).toNat) x) (37 + (s (221 + 5 * (s 7).toNat)).toNat) x) 3 - (up (up s (219 + 5 * (s 7).toNat) x) (37 + (s (221 + 5 * (s 7).toNat)).toNat) x) 4).toNat (up (up s (219 + 5 * (s 7).toNat) x) (37 + (s (221 + 5 * (s 7).toNat)).toNat) x)) 4 - (up (up s (219 + 5 * (s 7).toNat) x) (37 + (s (221 + 5 * (s 7).toNat)).toNat) x) 4 < 0 then (-9) else (s (219 + 5 * (s 7).toNat)))))))) := by
  refine MM.of (cc := cX6_forge) (maxL := 4) (ret := (some .int)) (by decide) rfl (Nat.le_of_ble_eq_true rfl) ?_
  intro p e s0 m below meth c ls hx hb hr hts hown hlocks hml hW hK hl
  have hWk := hW
  have hown : s0.vm.findClass RX6 = some m.cls := hown
  have hin : ∀ w ∈ u_ws RX6 TX6 9, w ∈ wsX6_forge := by decide +kernel
  have hl : lv_has ls 4 [(0, .ref (b 0)), (1, .int (iI (x)))] := hl
  obtain ⟨hbs, h00, h01, h10, h11, h30, h31, h40, h41, h70, h71, h60, h61, hco, hcn⟩ := id hM
  have hb5 := hbs 5
  have hb2 := hbs 2
  refine lv_aload_n hx hb dX6_forge_0 rfl (lv_at hl 0 rfl) ?_
  refine lv_iload_n hx hb dX6_forge_1 rfl (lv_at hl 1 rfl) ?_
  refine p_callV (v := .int (iI (b2i (0 ≤ x ∧ x < s 0)))) (ci := 6) (n := 1) (As := [.int (iI (x))]) (rest := []) ⟨hx, hb, hml, hown, hts⟩ hK (kX6_isVillager l D cI cV b s pa he np ru t ty at_ rd x hM (by omega)) hW.1 rfl rfl gX6_forge_X6_isVillager rfl (by decide +kernel) ⟨Nat.le_of_ble_eq_true rfl, Nat.le_of_ble_eq_true rfl⟩ rfl hl.1 (Nat.le_of_ble_eq_true rfl) dX6_forge_2 ⟨Nat.zero_le _, Nat.zero_le _⟩ rfl ?_
  refine j_bne (tgt := 10) hx hb dX6_forge_5 (by decide) (fun c1 => ?_) (fun c1 => ?_)
  · refine lv_aload_n hx hb dX6_forge_10 rfl (lv_at hl 0 rfl) ?_
    refine p_callV (v := .int (iI (b2i (s 5 ≠ -9)))) (ci := 6) (n := 0) (As := []) (rest := []) ⟨hx, hb, hml, hown, hts⟩ hK (kX6_goesOn l D cI cV b s pa he np ru t ty at_ rd hM) hW.1 rfl rfl gX6_forge_X6_goesOn rfl (by decide +kernel) ⟨Nat.le_of_ble_eq_true rfl, Nat.le_of_ble_eq_true rfl⟩ rfl hl.1 (Nat.le_of_ble_eq_true rfl) dX6_forge_11 ⟨Nat.zero_le _, Nat.zero_le _⟩ rfl ?_
    refine j_beq (tgt := 25) hx hb dX6_forge_14 (by decide) (fun c2 => ?_) (fun c2 => ?_)
    · refine j_bi hx hb dX6_forge_25 rfl ?_
      exact m_iret hx hb hr hlocks hW (by (by_cases zq0 : ¬ (0 ≤ x ∧ x < s 0) <;> first | (simp only [if_pos zq0]; first | done | (first | rfl | ( rfl) | (exfalso; omega))) | (simp only [if_neg zq0]; first | done | (by_cases zq1 : s 5 = -9 ∨ (seatL (fun i => s (32 + i)) (x) (s 1).toNat ≠ -9 ∨ seatL (fun i => s ((if s 5 ≠ -9 then (37 : Int) else 32).toNat + i)) (x) (s 1).toNat ≠ -9) <;> first | (simp only [if_pos zq1]; first | done | (first | rfl | ( rfl) | (exfalso; omega))) | (simp only [if_neg zq1]; first | done | (first | rfl | ( rfl) | (exfalso; omega))))))) (by (by_cases zq0 : ¬ (0 ≤ x ∧ x < s 0) <;> first | (rw [if_pos zq0]; first | done | (first | done | omega | ( rfl) | ( omega) | (exfalso; omega) | ( exfalso; omega))) | (rw [if_neg zq0]; first | done | (by_cases zq1 : s 5 = -9 ∨ (seatL (fun i => s (32 + i)) (x) (s 1).toNat ≠ -9 ∨ seatL (fun i => s ((if s 5 ≠ -9 then (37 : Int) else 32).toNat + i)) (x) (s 1).toNat ≠ -9) <;> first | (rw [if_pos zq1]; first | done | (first | done | omega | ( rfl) | ( omega) | (exfalso; omega) | ( exfalso; omega))) | (rw [if_neg zq1]; first | done | (by_cases zq2 : (mgS ((up (up s (219 + 5 * (s 7).toNat) x) (37 + (s (221 + 5 * (s 7).toNat)).toNat) x) 3 - (up (up s (219 + 5 * (s 7).toNat) x) (37 + (s (221 + 5 * (s 7).toNat)).toNat) x) 4).toNat (up (up s (219 + 5 * (s 7).toNat) x) (37 + (s (221 + 5 * (s 7).toNat)).toNat) x)) 4 - (up (up s (219 + 5 * (s 7).toNat) x) (37 + (s (221 + 5 * (s 7).toNat)).toNat) x) 4 < 0 <;> first | (rw [if_pos zq2]; first | done | (first | done | omega | ( rfl) | ( omega) | (exfalso; omega) | ( exfalso; omega))) | (rw [if_neg zq2]; first | done | (first | done | omega | ( rfl) | ( omega) | (exfalso; omega) | ( exfalso; omega))))))))) dX6_forge_27
    · refine lv_aload_n hx hb dX6_forge_17 rfl (lv_at hl 0 rfl) ?_
      refine lv_iload_n hx hb dX6_forge_18 rfl (lv_at hl 1 rfl) ?_
      refine p_callV (v := .int (iI (b2i (seatL (fun i => s (32 + i)) (x) (s 1).toNat ≠ -9 ∨ seatL (fun i => s ((if s 5 ≠ -9 then (37 : Int) else 32).toNat + i)) (x) (s 1).toNat ≠ -9)))) (ci := 6) (n := 1) (As := [.int (iI (x))]) (rest := []) ⟨hx, hb, hml, hown, hts⟩ hK (kX6_isElder l D cI cV b s pa he np ru t ty at_ rd x hM (by omega)) hW.1 rfl rfl gX6_forge_X6_isElder rfl (by decide +kernel) ⟨Nat.le_of_ble_eq_true rfl, Nat.le_of_ble_eq_true rfl⟩ rfl hl.1 (Nat.le_of_ble_eq_true rfl) dX6_forge_19 ⟨Nat.zero_le _, Nat.zero_le _⟩ rfl ?_
      refine j_beq (tgt := 28) hx hb dX6_forge_22 (by decide) (fun c3 => ?_) (fun c3 => ?_)
      · have hq5 := h5f (by omega)
        refine lv_aload_n hx hb dX6_forge_28 rfl (lv_at hl 0 rfl) ?_
        refine m_callV (v := none) (ci := 6) (n := 0) (As := []) (rest := []) (st2 := []) (w2 := modw cI b s (if ru = 0 then (actP s pa np) else (pa)) he (if ru = 0 then (actN np + 1) else (np)) ru t ty at_ rd) (pre := []) (post := []) ⟨hx, hb, hml, hown, hts⟩ hK hW (kX6_acts l D cI cV b s pa he np ru t ty at_ rd (by omega) (by omega)) (by rw [List.nil_append, List.append_nil]) (by rw [List.nil_append, List.append_nil]) rfl rfl rfl gX6_forge_X6_acts rfl (by decide +kernel) ⟨Nat.le_of_ble_eq_true rfl, Nat.le_of_ble_eq_true rfl⟩ rfl hl.1 (Nat.le_of_ble_eq_true rfl) dX6_forge_29 ⟨Nat.zero_le _, Nat.zero_le _⟩ rfl rfl (fun H locs hW => ?_)
        obtain ⟨pa_1, epa_1⟩ : ∃ zz_, zz_ = if ru = 0 then (actP s pa np) else (pa) := ⟨_, rfl⟩
        rw [← epa_1] at hW
        refine j_si hx hb dX6_forge_32 rfl ?_
        refine j_c hx hb dX6_forge_35 ?_
        refine lv_aload_n hx hb dX6_forge_36 rfl (lv_at hl 0 rfl) ?_
        refine Mg0 hx hb hts hin hown hK hW.1 (by decide +kernel) dX6_forge_37 ?_
        refine j_bi hx hb dX6_forge_40 rfl ?_
        refine Ma0 hx hb hK hW.1 (by omega) dX6_forge_42 ?_
        rw [show (7 : Int).toNat = 7 from by omega]
        have r3_37 : bd (s 7) := hbs _
        refine j_c hx hb dX6_forge_43 ?_
        refine j_sub hx hb dX6_forge_44 ?_
        refine j_mul hx hb dX6_forge_45 ?_
        refine j_add hx hb dX6_forge_46 ?_
        refine lv_istore_n (lv' := [(2, .int (iI (222 + (5 * ((s 7) - 1))))), (0, .ref (b 0)), (1, .int (iI (x)))]) hx hb dX6_forge_47 rfl hl (by decide) rfl (fun ls hl => ?_)
        refine lv_aload_n hx hb dX6_forge_48 rfl (lv_at hl 1 rfl) ?_
        refine Mg0 hx hb hts hin hown hK hW.1 (by decide +kernel) dX6_forge_49 ?_
        refine lv_iload_n hx hb dX6_forge_52 rfl (lv_at hl 0 rfl) ?_
        refine j_c hx hb dX6_forge_53 ?_
        refine j_add hx hb dX6_forge_54 ?_
        refine Ma0 hx hb hK hW.1 (by omega) dX6_forge_55 ?_
        rw [show ((222 + (5 * ((s 7) - 1))) + 2 : Int).toNat = 219 + 5 * ((s 7).toNat) from by omega]
        have r3_50 : bd (s (219 + 5 * ((s 7).toNat))) := hbs _
        refine lv_istore_n (lv' := [(3, .int (iI (s (219 + 5 * ((s 7).toNat))))), (2, .int (iI (222 + (5 * ((s 7) - 1))))), (0, .ref (b 0)), (1, .int (iI (x)))]) hx hb dX6_forge_56 rfl hl (by decide) rfl (fun ls hl => ?_)
        refine lv_aload_n hx hb dX6_forge_57 rfl (lv_at hl 2 rfl) ?_
        refine Mg0 hx hb hts hin hown hK hW.1 (by decide +kernel) dX6_forge_58 ?_
        refine lv_iload_n hx hb dX6_forge_61 rfl (lv_at hl 1 rfl) ?_
        refine j_c hx hb dX6_forge_62 ?_
        refine j_add hx hb dX6_forge_63 ?_
        refine lv_iload_n hx hb dX6_forge_64 rfl (lv_at hl 3 rfl) ?_
        refine Ms0 hx hb hK hW (by omega) dX6_forge_65 (fun H locs hW => ?_)
        rw [show ((222 + (5 * ((s 7) - 1))) + 2 : Int).toNat = 219 + 5 * ((s 7).toNat) from by omega] at hW
        obtain ⟨s_2, es_2⟩ : ∃ zz_, zz_ = up s (219 + 5 * ((s 7).toNat)) (x) := ⟨_, rfl⟩
        rw [← es_2] at hW
        refine lv_aload_n hx hb dX6_forge_66 rfl (lv_at hl 2 rfl) ?_
        refine Mg0 hx hb hts hin hown hK hW.1 (by decide +kernel) dX6_forge_67 ?_
        refine j_bi hx hb dX6_forge_70 rfl ?_
        refine lv_aload_n hx hb dX6_forge_72 rfl (lv_at hl 2 rfl) ?_
        refine Mg0 hx hb hts hin hown hK hW.1 (by decide +kernel) dX6_forge_73 ?_
        refine lv_iload_n hx hb dX6_forge_76 rfl (lv_at hl 1 rfl) ?_
        refine j_c hx hb dX6_forge_77 ?_
        refine j_add hx hb dX6_forge_78 ?_
        refine Ma0 hx hb hK hW.1 (by omega) dX6_forge_79 ?_
        rw [show ((222 + (5 * ((s 7) - 1))) + 4 : Int).toNat = 221 + 5 * ((s 7).toNat) from by omega]
        rw [show s_2 (221 + 5 * ((s 7).toNat)) = s (221 + 5 * ((s 7).toNat)) from by rw [es_2, up_ne (by omega)]]
        have r3_73 : bd (s (221 + 5 * ((s 7).toNat))) := hbs _
        refine j_add hx hb dX6_forge_80 ?_
        refine lv_iload_n hx hb dX6_forge_81 rfl (lv_at hl 3 rfl) ?_
        refine Ms0 hx hb hK hW (by omega) dX6_forge_82 (fun H locs hW => ?_)
        rw [show (37 + (s (221 + 5 * ((s 7).toNat))) : Int).toNat = 37 + ((s (221 + 5 * ((s 7).toNat))).toNat) from by omega] at hW
        obtain ⟨s_3, es_3⟩ : ∃ zz_, zz_ = up s_2 (37 + ((s (221 + 5 * ((s 7).toNat))).toNat)) (x) := ⟨_, rfl⟩
        rw [← es_3] at hW
        refine lv_aload_n hx hb dX6_forge_83 rfl (lv_at hl 2 rfl) ?_
        have hM1 : MS s_2 := by rw [es_2]; exact MS_up hM (by omega) (by omega)
        have hM : MS s_3 := by rw [es_3]; exact MS_37 hM1 (by omega) (by omega)
        have h24 : s_3 2 ≤ s_3 4 := by rw [es_3, up_ne (by omega), up_ne (by omega), es_2, up_ne (by omega), up_ne (by omega)]; omega
        refine m_callV (v := some (.int (iI ((mgS (s_3 3 - s_3 4).toNat s_3) 4 - s_3 4)))) (ci := 6) (n := 0) (As := []) (rest := []) (st2 := [.int (iI ((mgS (s_3 3 - s_3 4).toNat s_3) 4 - s_3 4))]) (w2 := modw cI b (mgS (s_3 3 - s_3 4).toNat s_3) pa_1 he (if ru = 0 then (actN np + 1) else (np)) ru t ty at_ rd) (pre := []) (post := []) ⟨hx, hb, hml, hown, hts⟩ hK hW (kX6_agrees l D cI cV b s_3 pa_1 he (if ru = 0 then (actN np + 1) else (np)) ru t ty at_ rd hM h24) (by rw [List.nil_append, List.append_nil]) (by rw [List.nil_append, List.append_nil]) rfl rfl rfl gX6_forge_X6_agrees rfl (by decide +kernel) ⟨Nat.le_of_ble_eq_true rfl, Nat.le_of_ble_eq_true rfl⟩ rfl hl.1 (Nat.le_of_ble_eq_true rfl) dX6_forge_84 ⟨Nat.zero_le _, Nat.zero_le _⟩ rfl rfl (fun H locs hW => ?_)
        obtain ⟨s_4, es_4⟩ : ∃ zz_, zz_ = mgS (s_3 3 - s_3 4).toNat s_3 := ⟨_, rfl⟩
        rw [← es_4] at hW
        have hmgr := mg_rg hM h24 (s_3 3 - s_3 4).toNat
        refine j_zge (tgt := 95) hx hb (by omega) dX6_forge_87 (by decide) (fun c4 => ?_) (fun c4 => ?_)
        · refine lv_iload_n hx hb dX6_forge_95 rfl (lv_at hl 0 rfl) ?_
          exact m_iret hx hb hr hlocks hW (by (by_cases zq0 : ¬ (0 ≤ x ∧ x < s 0) <;> first | (simp only [if_pos zq0]; first | done | (first | rfl | (subst es_4; subst es_3; subst es_2; subst epa_1; rfl) | (exfalso; omega))) | (simp only [if_neg zq0]; first | done | (by_cases zq1 : s 5 = -9 ∨ (seatL (fun i => s (32 + i)) (x) (s 1).toNat ≠ -9 ∨ seatL (fun i => s ((if s 5 ≠ -9 then (37 : Int) else 32).toNat + i)) (x) (s 1).toNat ≠ -9) <;> first | (simp only [if_pos zq1]; first | done | (first | rfl | (subst es_4; subst es_3; subst es_2; subst epa_1; rfl) | (exfalso; omega))) | (simp only [if_neg zq1]; first | done | (first | rfl | (subst es_4; subst es_3; subst es_2; subst epa_1; rfl) | (exfalso; omega))))))) (by (by_cases zq0 : ¬ (0 ≤ x ∧ x < s 0) <;> first | (rw [if_pos zq0]; first | done | (first | done | omega | (subst es_4; subst es_3; subst es_2; subst epa_1; rfl) | (subst es_4; subst es_3; subst es_2; subst epa_1; omega) | (exfalso; omega) | (subst es_4; subst es_3; subst es_2; subst epa_1; exfalso; omega))) | (rw [if_neg zq0]; first | done | (by_cases zq1 : s 5 = -9 ∨ (seatL (fun i => s (32 + i)) (x) (s 1).toNat ≠ -9 ∨ seatL (fun i => s ((if s 5 ≠ -9 then (37 : Int) else 32).toNat + i)) (x) (s 1).toNat ≠ -9) <;> first | (rw [if_pos zq1]; first | done | (first | done | omega | (subst es_4; subst es_3; subst es_2; subst epa_1; rfl) | (subst es_4; subst es_3; subst es_2; subst epa_1; omega) | (exfalso; omega) | (subst es_4; subst es_3; subst es_2; subst epa_1; exfalso; omega))) | (rw [if_neg zq1]; first | done | (by_cases zq2 : (mgS ((up (up s (219 + 5 * (s 7).toNat) x) (37 + (s (221 + 5 * (s 7).toNat)).toNat) x) 3 - (up (up s (219 + 5 * (s 7).toNat) x) (37 + (s (221 + 5 * (s 7).toNat)).toNat) x) 4).toNat (up (up s (219 + 5 * (s 7).toNat) x) (37 + (s (221 + 5 * (s 7).toNat)).toNat) x)) 4 - (up (up s (219 + 5 * (s 7).toNat) x) (37 + (s (221 + 5 * (s 7).toNat)).toNat) x) 4 < 0 <;> first | (rw [if_pos zq2]; first | done | (first | done | omega | (subst es_4; subst es_3; subst es_2; subst epa_1; rfl) | (subst es_4; subst es_3; subst es_2; subst epa_1; omega) | (exfalso; omega) | (subst es_4; subst es_3; subst es_2; subst epa_1; exfalso; omega))) | (rw [if_neg zq2]; first | done | (first | done | omega | (subst es_4; subst es_3; subst es_2; subst epa_1; rfl) | (subst es_4; subst es_3; subst es_2; subst epa_1; omega) | (exfalso; omega) | (subst es_4; subst es_3; subst es_2; subst epa_1; exfalso; omega))))))))) dX6_forge_96
        · refine j_bi hx hb dX6_forge_90 rfl ?_
          refine lv_goto (tgt := 96) hx hb dX6_forge_92 (by decide) ?_
          exact m_iret hx hb hr hlocks hW (by (by_cases zq0 : ¬ (0 ≤ x ∧ x < s 0) <;> first | (simp only [if_pos zq0]; first | done | (first | rfl | (subst es_4; subst es_3; subst es_2; subst epa_1; rfl) | (exfalso; omega))) | (simp only [if_neg zq0]; first | done | (by_cases zq1 : s 5 = -9 ∨ (seatL (fun i => s (32 + i)) (x) (s 1).toNat ≠ -9 ∨ seatL (fun i => s ((if s 5 ≠ -9 then (37 : Int) else 32).toNat + i)) (x) (s 1).toNat ≠ -9) <;> first | (simp only [if_pos zq1]; first | done | (first | rfl | (subst es_4; subst es_3; subst es_2; subst epa_1; rfl) | (exfalso; omega))) | (simp only [if_neg zq1]; first | done | (first | rfl | (subst es_4; subst es_3; subst es_2; subst epa_1; rfl) | (exfalso; omega))))))) (by (by_cases zq0 : ¬ (0 ≤ x ∧ x < s 0) <;> first | (rw [if_pos zq0]; first | done | (first | done | omega | (subst es_4; subst es_3; subst es_2; subst epa_1; rfl) | (subst es_4; subst es_3; subst es_2; subst epa_1; omega) | (exfalso; omega) | (subst es_4; subst es_3; subst es_2; subst epa_1; exfalso; omega))) | (rw [if_neg zq0]; first | done | (by_cases zq1 : s 5 = -9 ∨ (seatL (fun i => s (32 + i)) (x) (s 1).toNat ≠ -9 ∨ seatL (fun i => s ((if s 5 ≠ -9 then (37 : Int) else 32).toNat + i)) (x) (s 1).toNat ≠ -9) <;> first | (rw [if_pos zq1]; first | done | (first | done | omega | (subst es_4; subst es_3; subst es_2; subst epa_1; rfl) | (subst es_4; subst es_3; subst es_2; subst epa_1; omega) | (exfalso; omega) | (subst es_4; subst es_3; subst es_2; subst epa_1; exfalso; omega))) | (rw [if_neg zq1]; first | done | (by_cases zq2 : (mgS ((up (up s (219 + 5 * (s 7).toNat) x) (37 + (s (221 + 5 * (s 7).toNat)).toNat) x) 3 - (up (up s (219 + 5 * (s 7).toNat) x) (37 + (s (221 + 5 * (s 7).toNat)).toNat) x) 4).toNat (up (up s (219 + 5 * (s 7).toNat) x) (37 + (s (221 + 5 * (s 7).toNat)).toNat) x)) 4 - (up (up s (219 + 5 * (s 7).toNat) x) (37 + (s (221 + 5 * (s 7).toNat)).toNat) x) 4 < 0 <;> first | (rw [if_pos zq2]; first | done | (first | done | omega | (subst es_4; subst es_3; subst es_2; subst epa_1; rfl) | (subst es_4; subst es_3; subst es_2; subst epa_1; omega) | (exfalso; omega) | (subst es_4; subst es_3; subst es_2; subst epa_1; exfalso; omega))) | (rw [if_neg zq2]; first | done | (first | done | omega | (subst es_4; subst es_3; subst es_2; subst epa_1; rfl) | (subst es_4; subst es_3; subst es_2; subst epa_1; omega) | (exfalso; omega) | (subst es_4; subst es_3; subst es_2; subst epa_1; exfalso; omega))))))))) dX6_forge_96
      · refine j_bi hx hb dX6_forge_25 rfl ?_
        exact m_iret hx hb hr hlocks hW (by (by_cases zq0 : ¬ (0 ≤ x ∧ x < s 0) <;> first | (simp only [if_pos zq0]; first | done | (first | rfl | ( rfl) | (exfalso; omega))) | (simp only [if_neg zq0]; first | done | (by_cases zq1 : s 5 = -9 ∨ (seatL (fun i => s (32 + i)) (x) (s 1).toNat ≠ -9 ∨ seatL (fun i => s ((if s 5 ≠ -9 then (37 : Int) else 32).toNat + i)) (x) (s 1).toNat ≠ -9) <;> first | (simp only [if_pos zq1]; first | done | (first | rfl | ( rfl) | (exfalso; omega))) | (simp only [if_neg zq1]; first | done | (first | rfl | ( rfl) | (exfalso; omega))))))) (by (by_cases zq0 : ¬ (0 ≤ x ∧ x < s 0) <;> first | (rw [if_pos zq0]; first | done | (first | done | omega | ( rfl) | ( omega) | (exfalso; omega) | ( exfalso; omega))) | (rw [if_neg zq0]; first | done | (by_cases zq1 : s 5 = -9 ∨ (seatL (fun i => s (32 + i)) (x) (s 1).toNat ≠ -9 ∨ seatL (fun i => s ((if s 5 ≠ -9 then (37 : Int) else 32).toNat + i)) (x) (s 1).toNat ≠ -9) <;> first | (rw [if_pos zq1]; first | done | (first | done | omega | ( rfl) | ( omega) | (exfalso; omega) | ( exfalso; omega))) | (rw [if_neg zq1]; first | done | (by_cases zq2 : (mgS ((up (up s (219 + 5 * (s 7).toNat) x) (37 + (s (221 + 5 * (s 7).toNat)).toNat) x) 3 - (up (up s (219 + 5 * (s 7).toNat) x) (37 + (s (221 + 5 * (s 7).toNat)).toNat) x) 4).toNat (up (up s (219 + 5 * (s 7).toNat) x) (37 + (s (221 + 5 * (s 7).toNat)).toNat) x)) 4 - (up (up s (219 + 5 * (s 7).toNat) x) (37 + (s (221 + 5 * (s 7).toNat)).toNat) x) 4 < 0 <;> first | (rw [if_pos zq2]; first | done | (first | done | omega | ( rfl) | ( omega) | (exfalso; omega) | ( exfalso; omega))) | (rw [if_neg zq2]; first | done | (first | done | omega | ( rfl) | ( omega) | (exfalso; omega) | ( exfalso; omega))))))))) dX6_forge_27
  · refine j_c hx hb dX6_forge_8 ?_
    exact m_iret hx hb hr hlocks hW (by (by_cases zq0 : ¬ (0 ≤ x ∧ x < s 0) <;> first | (simp only [if_pos zq0]; first | done | (first | rfl | ( rfl) | (exfalso; omega))) | (simp only [if_neg zq0]; first | done | (by_cases zq1 : s 5 = -9 ∨ (seatL (fun i => s (32 + i)) (x) (s 1).toNat ≠ -9 ∨ seatL (fun i => s ((if s 5 ≠ -9 then (37 : Int) else 32).toNat + i)) (x) (s 1).toNat ≠ -9) <;> first | (simp only [if_pos zq1]; first | done | (first | rfl | ( rfl) | (exfalso; omega))) | (simp only [if_neg zq1]; first | done | (first | rfl | ( rfl) | (exfalso; omega))))))) (by (by_cases zq0 : ¬ (0 ≤ x ∧ x < s 0) <;> first | (rw [if_pos zq0]; first | done | (first | done | omega | ( rfl) | ( omega) | (exfalso; omega) | ( exfalso; omega))) | (rw [if_neg zq0]; first | done | (by_cases zq1 : s 5 = -9 ∨ (seatL (fun i => s (32 + i)) (x) (s 1).toNat ≠ -9 ∨ seatL (fun i => s ((if s 5 ≠ -9 then (37 : Int) else 32).toNat + i)) (x) (s 1).toNat ≠ -9) <;> first | (rw [if_pos zq1]; first | done | (first | done | omega | ( rfl) | ( omega) | (exfalso; omega) | ( exfalso; omega))) | (rw [if_neg zq1]; first | done | (by_cases zq2 : (mgS ((up (up s (219 + 5 * (s 7).toNat) x) (37 + (s (221 + 5 * (s 7).toNat)).toNat) x) 3 - (up (up s (219 + 5 * (s 7).toNat) x) (37 + (s (221 + 5 * (s 7).toNat)).toNat) x) 4).toNat (up (up s (219 + 5 * (s 7).toNat) x) (37 + (s (221 + 5 * (s 7).toNat)).toNat) x)) 4 - (up (up s (219 + 5 * (s 7).toNat) x) (37 + (s (221 + 5 * (s 7).toNat)).toNat) x) 4 < 0 <;> first | (rw [if_pos zq2]; first | done | (first | done | omega | ( rfl) | ( omega) | (exfalso; omega) | ( exfalso; omega))) | (rw [if_neg zq2]; first | done | (first | done | omega | ( rfl) | ( omega) | (exfalso; omega) | ( exfalso; omega))))))))) dX6_forge_9
