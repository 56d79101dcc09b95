theorem mgStep_4 {s : Nat → Int} (hs : 0 ≤ s 1 ∧ s 1 ≤ 5) : mgStep s 4 = s 4 + 1 ∧ mgStep s 3 = s 3 := by
  have q3 : up s 4 (s 4 + 1) 3 = s 3 := up_ne (by omega)
  have q4 : up s 4 (s 4 + 1) 4 = s 4 + 1 := up_at rfl
  have q1 : up s 4 (s 4 + 1) 1 = s 1 := up_ne (by omega)
  unfold mgStep
  split
  · rw [endM_ne (by omega) (by omega), endM_ne (by omega) (by omega)]; exact ⟨q4, q3⟩
  · exact ⟨q4, q3⟩
theorem mg_MS : ∀ (n : Nat) {s : Nat → Int}, MS s → s 2 ≤ s 4 → MS (mgS n s) ∧ mgS n s 2 ≤ mgS n s 4 ∧ s 4 ≤ mgS n s 4 ∧ mgS n s 3 = s 3
  | 0, s, hM, h2 => ⟨hM, h2, Int.le_refl _, rfl⟩
  | n + 1, s, hM, h2 => by
    simp only [mgS]
    by_cases hc : s 4 < s 3 ∧ s 1 < 2 * sm (fun i => b2i ((s 4) < s (20 + (s (32 + i)).toNat))) (s 1).toNat ∧ s 1 < 2 * sm (fun i => b2i ((s 4) < s (20 + (s ((if s 5 ≠ -9 then (37 : Int) else 32).toNat + i)).toNat))) (s 1).toNat
    · rw [if_pos hc]
      have h := (mg_inv (X := mgS (s 3 - s 4).toNat s) hM h2 rfl hc rfl).1
      have hq := mgStep_4 (s := s) ⟨hM.2.2.2.1, hM.2.2.2.2.1⟩
      have r := mg_MS n h.1 h.2.1
      exact ⟨r.1, r.2.1, by omega, by omega⟩
    · rw [if_neg hc]
      exact ⟨hM, h2, Int.le_refl _, rfl⟩
theorem mg_rg {s : Nat → Int} (hM : MS s) (h2 : s 2 ≤ s 4) (n : Nat) : 0 ≤ s 4 ∧ s 4 ≤ mgS n s 4 ∧ mgS n s 4 ≤ 60 := by
  have r := mg_MS n hM h2
  have q := r.1.2
  have q2 := hM.2
  omega
set_option maxHeartbeats 4000000 in
set_option maxRecDepth 100000 in
theorem kX6_come (l : Launch) (D : va_G) (cI cV : ClassId) (b : Nat → Nat) (s pa he : Nat → Int) (np ru : Int) (t : Nat → Int) (ty at_ rd : Int)  (hM : MS s) (hru : ru = 0 ∨ ru = 1) (hnp : 0 ≤ np ∧ np ≤ 5) : MM l yX6_come wsX6_come 1 21 [.ref (b 0)] (modw cI b s pa he np ru t ty at_ rd) (modw cI b (if s 0 = 12 then (s) else (comeS s)) (if s 0 = 12 then (pa) else (if ru = 0 then actP s pa np else pa)) he (if s 0 = 12 then (np) else (if ru = 0 then actN np + 1 else np)) ru t ty at_ rd) D cI cV (some (.int (iI (if s 0 = 12 then (-3) else (s 0))))) := by
  refine MM.of (cc := cX6_come) (maxL := 2) (ret := (some .int)) (by decide) rfl (Nat.le_of_ble_eq_true rfl) ?_
  intro p e s0 m below meth c ls hx hb hr hts hown hlocks hml hW hK hl
  have hWk := hW
  have hown : s0.vm.findClass RX6 = some m.cls := hown
  have hin : ∀ w ∈ u_ws RX6 TX6 9, w ∈ wsX6_come := by decide +kernel
  have hl : lv_has ls 2 [(0, .ref (b 0))] := hl
  obtain ⟨hbs, h00, h01, h10, h11, h30, h31, h40, h41, h70, h71, h60, h61, hco, hcn⟩ := id hM
  have hb5 := hbs 5
  have hb2 := hbs 2
  refine lv_aload_n hx hb dX6_come_0 rfl (lv_at hl 0 rfl) ?_
  refine Mg0 hx hb hts hin hown hK hW.1 (by decide +kernel) dX6_come_1 ?_
  refine j_c hx hb dX6_come_4 ?_
  refine Ma0 hx hb hK hW.1 (by omega) dX6_come_5 ?_
  rw [show (0 : Int).toNat = 0 from by omega]
  have r0_17 : bd (s 0) := hbs _
  refine j_bi hx hb dX6_come_6 rfl ?_
  refine j_ine (tgt := 14) hx hb (by omega) (by omega) dX6_come_8 (by decide) (fun c1 => ?_) (fun c1 => ?_)
  · refine lv_aload_n hx hb dX6_come_14 rfl (lv_at hl 0 rfl) ?_
    refine m_callV (v := none) (ci := 6) (n := 0) (As := []) (rest := []) (st2 := []) (w2 := modw cI b s (if ru = 0 then (actP s pa np) else (pa)) he (if ru = 0 then (actN np + 1) else (np)) ru t ty at_ rd) (pre := []) (post := []) ⟨hx, hb, hml, hown, hts⟩ hK hW (kX6_acts l D cI cV b s pa he np ru t ty at_ rd (by omega) (by omega)) (by rw [List.nil_append, List.append_nil]) (by rw [List.nil_append, List.append_nil]) rfl rfl rfl gX6_come_X6_acts rfl (by decide +kernel) ⟨Nat.le_of_ble_eq_true rfl, Nat.le_of_ble_eq_true rfl⟩ rfl hl.1 (Nat.le_of_ble_eq_true rfl) dX6_come_15 ⟨Nat.zero_le _, Nat.zero_le _⟩ rfl rfl (fun H locs hW => ?_)
    obtain ⟨pa_1, epa_1⟩ : ∃ zz_, zz_ = if ru = 0 then (actP s pa np) else (pa) := ⟨_, rfl⟩
    rw [← epa_1] at hW
    refine lv_aload_n hx hb dX6_come_18 rfl (lv_at hl 0 rfl) ?_
    refine Mg0 hx hb hts hin hown hK hW.1 (by decide +kernel) dX6_come_19 ?_
    refine j_c hx hb dX6_come_22 ?_
    refine Ma0 hx hb hK hW.1 (by omega) dX6_come_23 ?_
    rw [show (0 : Int).toNat = 0 from by omega]
    have r1_29 : bd (s 0) := hbs _
    refine lv_istore_n (lv' := [(1, .int (iI (s 0))), (0, .ref (b 0))]) hx hb dX6_come_24 rfl hl (by decide) rfl (fun ls hl => ?_)
    refine lv_aload_n hx hb dX6_come_25 rfl (lv_at hl 1 rfl) ?_
    refine Mg0 hx hb hts hin hown hK hW.1 (by decide +kernel) dX6_come_26 ?_
    refine j_bi hx hb dX6_come_29 rfl ?_
    refine lv_iload_n hx hb dX6_come_31 rfl (lv_at hl 0 rfl) ?_
    refine j_add hx hb dX6_come_32 ?_
    refine j_c hx hb dX6_come_33 ?_
    refine Ms0 hx hb hK hW (by omega) dX6_come_34 (fun H locs hW => ?_)
    rw [show (8 + (s 0) : Int).toNat = 8 + ((s 0).toNat) from by omega] at hW
    obtain ⟨s_2, es_2⟩ : ∃ zz_, zz_ = up s (8 + ((s 0).toNat)) (1) := ⟨_, rfl⟩
    rw [← es_2] at hW
    refine lv_aload_n hx hb dX6_come_35 rfl (lv_at hl 1 rfl) ?_
    refine Mg0 hx hb hts hin hown hK hW.1 (by decide +kernel) dX6_come_36 ?_
    refine j_bi hx hb dX6_come_39 rfl ?_
    refine lv_iload_n hx hb dX6_come_41 rfl (lv_at hl 0 rfl) ?_
    refine j_add hx hb dX6_come_42 ?_
    refine j_c hx hb dX6_come_43 ?_
    refine Ms0 hx hb hK hW (by omega) dX6_come_44 (fun H locs hW => ?_)
    rw [show (20 + (s 0) : Int).toNat = 20 + ((s 0).toNat) from by omega] at hW
    obtain ⟨s_3, es_3⟩ : ∃ zz_, zz_ = up s_2 (20 + ((s 0).toNat)) (0) := ⟨_, rfl⟩
    rw [← es_3] at hW
    refine lv_aload_n hx hb dX6_come_45 rfl (lv_at hl 1 rfl) ?_
    refine Mg0 hx hb hts hin hown hK hW.1 (by decide +kernel) dX6_come_46 ?_
    refine j_c hx hb dX6_come_49 ?_
    refine lv_dup2_11 hx hb dX6_come_50 rfl rfl ?_
    refine Ma0 hx hb hK hW.1 (by omega) dX6_come_51 ?_
    rw [show (0 : Int).toNat = 0 from by omega]
    rw [show s_3 0 = s 0 from by rw [es_3, up_ne (by omega), es_2, up_ne (by omega)]]
    have r1_58 : bd (s 0) := hbs _
    refine j_c hx hb dX6_come_52 ?_
    refine j_add hx hb dX6_come_53 ?_
    refine Ms0 hx hb hK hW (by omega) dX6_come_54 (fun H locs hW => ?_)
    rw [show (0 : Int).toNat = 0 from by omega] at hW
    obtain ⟨s_4, es_4⟩ : ∃ zz_, zz_ = up s_3 (0) ((s 0) + 1) := ⟨_, rfl⟩
    rw [← es_4] at hW
    refine lv_iload_n hx hb dX6_come_55 rfl (lv_at hl 0 rfl) ?_
    exact m_iret hx hb hr hlocks hW (by (by_cases zq0 : s 0 = 12 <;> first | (simp only [if_pos zq0]; first | done | (first | rfl | (subst es_4; subst es_3; subst es_2; subst epa_1; rfl) | (exfalso; omega))) | (simp only [if_neg zq0]; first | done | (first | rfl | (subst es_4; subst es_3; subst es_2; subst epa_1; rfl) | (exfalso; omega))))) (by (by_cases zq0 : s 0 = 12 <;> first | (rw [if_pos zq0]; first | done | (first | done | omega | (subst es_4; subst es_3; subst es_2; subst epa_1; rfl) | (exfalso; omega))) | (rw [if_neg zq0]; first | done | (first | done | omega | (subst es_4; subst es_3; subst es_2; subst epa_1; rfl) | (exfalso; omega))))) dX6_come_56
  · refine j_bi hx hb dX6_come_11 rfl ?_
    exact m_iret hx hb hr hlocks hW (by (by_cases zq0 : s 0 = 12 <;> first | (simp only [if_pos zq0]; first | done | (first | rfl | ( rfl) | (exfalso; omega))) | (simp only [if_neg zq0]; first | done | (first | rfl | ( rfl) | (exfalso; omega))))) (by (by_cases zq0 : s 0 = 12 <;> first | (rw [if_pos zq0]; first | done | (first | done | omega | ( rfl) | (exfalso; omega))) | (rw [if_neg zq0]; first | done | (first | done | omega | ( rfl) | (exfalso; omega))))) dX6_come_13
set_option maxHeartbeats 4000000 in
set_option maxRecDepth 100000 in
theorem kX6_attend (l : Launch) (D : va_G) (cI cV : ClassId) (b : Nat → Nat) (s pa he : Nat → Int) (np ru : Int) (t : Nat → Int) (ty at_ rd : Int) (x : Int) (y : Int) (hM : MS s) (hru : ru = 0 ∨ ru = 1) (hnp : 0 ≤ np ∧ np ≤ 5) (r_x : rg x) (r_y : rg y) : MM l yX6_attend wsX6_attend 1 22 [.ref (b 0), .int (iI (x)), .int (iI (y))] (modw cI b s pa he np ru t ty at_ rd) (modw cI b (if ¬ (0 ≤ x ∧ x < s 0) ∨ ¬ (0 ≤ y ∧ y ≤ 1) then (s) else (if s (8 + x.toNat) = y then (s) else (up s (8 + x.toNat) y))) (if ¬ (0 ≤ x ∧ x < s 0) ∨ ¬ (0 ≤ y ∧ y ≤ 1) then (pa) else (if s (8 + x.toNat) = y then (pa) else (if ru = 0 then actP s pa np else pa))) he (if ¬ (0 ≤ x ∧ x < s 0) ∨ ¬ (0 ≤ y ∧ y ≤ 1) then (np) else (if s (8 + x.toNat) = y then (np) else (if ru = 0 then actN np + 1 else np))) ru t ty at_ rd) D cI cV (some (.int (iI (if ¬ (0 ≤ x ∧ x < s 0) ∨ ¬ (0 ≤ y ∧ y ≤ 1) then (-1) else (if s (8 + x.toNat) = y then (-2) else (sm (fun i => (up s (8 + x.toNat) y) (8 + i)) ((up s (8 + x.toNat) y) 0).toNat)))))) := by
  refine MM.of (cc := cX6_attend) (maxL := 3) (ret := (some .int)) (by decide) rfl (Nat.le_of_ble_eq_true rfl) ?_
  intro p e s0 m below meth c ls hx hb hr hts hown hlocks hml hW hK hl
  have hWk := hW
  have hown : s0.vm.findClass RX6 = some m.cls := hown
  have hin : ∀ w ∈ u_ws RX6 TX6 9, w ∈ wsX6_attend := by decide +kernel
  have hl : lv_has ls 3 [(0, .ref (b 0)), (1, .int (iI (x))), (2, .int (iI (y)))] := hl
  obtain ⟨hbs, h00, h01, h10, h11, h30, h31, h40, h41, h70, h71, h60, h61, hco, hcn⟩ := id hM
  have hb5 := hbs 5
  have hb2 := hbs 2
  refine lv_aload_n hx hb dX6_attend_0 rfl (lv_at hl 0 rfl) ?_
  refine lv_iload_n hx hb dX6_attend_1 rfl (lv_at hl 1 rfl) ?_
  refine p_callV (v := .int (iI (b2i (0 ≤ x ∧ x < s 0)))) (ci := 6) (n := 1) (As := [.int (iI (x))]) (rest := []) ⟨hx, hb, hml, hown, hts⟩ hK (kX6_isVillager l D cI cV b s pa he np ru t ty at_ rd x hM (by omega)) hW.1 rfl rfl gX6_attend_X6_isVillager rfl (by decide +kernel) ⟨Nat.le_of_ble_eq_true rfl, Nat.le_of_ble_eq_true rfl⟩ rfl hl.1 (Nat.le_of_ble_eq_true rfl) dX6_attend_2 ⟨Nat.zero_le _, Nat.zero_le _⟩ rfl ?_
  refine j_beq (tgt := 17) hx hb dX6_attend_5 (by decide) (fun c1 => ?_) (fun c1 => ?_)
  · refine j_c hx hb dX6_attend_17 ?_
    exact m_iret hx hb hr hlocks hW (by (by_cases zq0 : ¬ (0 ≤ x ∧ x < s 0) ∨ ¬ (0 ≤ y ∧ y ≤ 1) <;> first | (simp only [if_pos zq0]; first | done | (first | rfl | ( rfl) | (exfalso; omega))) | (simp only [if_neg zq0]; first | done | (by_cases zq1 : s (8 + x.toNat) = y <;> first | (simp only [if_pos zq1]; first | done | (first | rfl | ( rfl) | (exfalso; omega))) | (simp only [if_neg zq1]; first | done | (first | rfl | ( rfl) | (exfalso; omega))))))) (by (by_cases zq0 : ¬ (0 ≤ x ∧ x < s 0) ∨ ¬ (0 ≤ y ∧ y ≤ 1) <;> first | (rw [if_pos zq0]; first | done | (first | done | omega | ( rfl) | (exfalso; omega))) | (rw [if_neg zq0]; first | done | (by_cases zq1 : s (8 + x.toNat) = y <;> first | (rw [if_pos zq1]; first | done | (first | done | omega | ( rfl) | (exfalso; omega))) | (rw [if_neg zq1]; first | done | (first | done | omega | ( rfl) | (exfalso; omega))))))) dX6_attend_18
  · refine lv_iload_n hx hb dX6_attend_8 rfl (lv_at hl 2 rfl) ?_
    refine j_c hx hb dX6_attend_9 ?_
    refine j_c hx hb dX6_attend_10 ?_
    refine p_callS (v := .int (iI (b2i ((0 : Int) ≤ y ∧ y ≤ (1 : Int))))) (n := 3) (w := []) (As := [.int (iI (y)), .int (iI (0)), .int (iI (1))]) (rest := []) ⟨hx, hb, hml, hown, hts⟩ hK (kX6_in l D cI cV y 0 1 (by omega) (by omega) (by omega)) (fun k q h => by simp at h) gX6_attend_X6_in rfl (by decide +kernel) ⟨Nat.le_of_ble_eq_true rfl, Nat.le_of_ble_eq_true rfl⟩ rfl hl.1 (Nat.le_of_ble_eq_true rfl) dX6_attend_11 ⟨Nat.zero_le _, Nat.zero_le _⟩ rfl ?_
    refine j_bne (tgt := 19) hx hb dX6_attend_14 (by decide) (fun c2 => ?_) (fun c2 => ?_)
    · refine lv_aload_n hx hb dX6_attend_19 rfl (lv_at hl 0 rfl) ?_
      refine Mg0 hx hb hts hin hown hK hW.1 (by decide +kernel) dX6_attend_20 ?_
      refine j_bi hx hb dX6_attend_23 rfl ?_
      refine lv_iload_n hx hb dX6_attend_25 rfl (lv_at hl 1 rfl) ?_
      refine j_add hx hb dX6_attend_26 ?_
      refine Ma0 hx hb hK hW.1 (by omega) dX6_attend_27 ?_
      rw [show (8 + x : Int).toNat = 8 + x.toNat from by omega]
      have r2_30 : bd (s (8 + x.toNat)) := hbs _
      refine lv_iload_n hx hb dX6_attend_28 rfl (lv_at hl 2 rfl) ?_
      refine j_ine (tgt := 35) hx hb (by omega) (by omega) dX6_attend_29 (by decide) (fun c3 => ?_) (fun c3 => ?_)
      · refine lv_aload_n hx hb dX6_attend_35 rfl (lv_at hl 0 rfl) ?_
        refine m_callV (v := none) (ci := 6) (n := 0) (As := []) (rest := []) (st2 := []) (w2 := modw cI b s (if ru = 0 then (actP s pa np) else (pa)) he (if ru = 0 then (actN np + 1) else (np)) ru t ty at_ rd) (pre := []) (post := []) ⟨hx, hb, hml, hown, hts⟩ hK hW (kX6_acts l D cI cV b s pa he np ru t ty at_ rd (by omega) (by omega)) (by rw [List.nil_append, List.append_nil]) (by rw [List.nil_append, List.append_nil]) rfl rfl rfl gX6_attend_X6_acts rfl (by decide +kernel) ⟨Nat.le_of_ble_eq_true rfl, Nat.le_of_ble_eq_true rfl⟩ rfl hl.1 (Nat.le_of_ble_eq_true rfl) dX6_attend_36 ⟨Nat.zero_le _, Nat.zero_le _⟩ rfl rfl (fun H locs hW => ?_)
        obtain ⟨pa_1, epa_1⟩ : ∃ zz_, zz_ = if ru = 0 then (actP s pa np) else (pa) := ⟨_, rfl⟩
        rw [← epa_1] at hW
        refine lv_aload_n hx hb dX6_attend_39 rfl (lv_at hl 0 rfl) ?_
        refine Mg0 hx hb hts hin hown hK hW.1 (by decide +kernel) dX6_attend_40 ?_
        refine j_bi hx hb dX6_attend_43 rfl ?_
        refine lv_iload_n hx hb dX6_attend_45 rfl (lv_at hl 1 rfl) ?_
        refine j_add hx hb dX6_attend_46 ?_
        refine lv_iload_n hx hb dX6_attend_47 rfl (lv_at hl 2 rfl) ?_
        refine Ms0 hx hb hK hW (by omega) dX6_attend_48 (fun H locs hW => ?_)
        rw [show (8 + x : Int).toNat = 8 + x.toNat from by omega] at hW
        obtain ⟨s_2, es_2⟩ : ∃ zz_, zz_ = up s (8 + x.toNat) (y) := ⟨_, rfl⟩
        rw [← es_2] at hW
        have hM : MS s_2 := by rw [es_2]; exact MS_up hM (by omega) (by omega)
        refine lv_aload_n hx hb dX6_attend_49 rfl (lv_at hl 0 rfl) ?_
        refine p_callV (v := .int (iI (sm (fun i => s_2 (8 + i)) (s_2 0).toNat))) (ci := 6) (n := 0) (As := []) (rest := []) ⟨hx, hb, hml, hown, hts⟩ hK (kX6_present l D cI cV b s_2 pa_1 he (if ru = 0 then (actN np + 1) else (np)) ru t ty at_ rd hM) hW.1 rfl rfl gX6_attend_X6_present rfl (by decide +kernel) ⟨Nat.le_of_ble_eq_true rfl, Nat.le_of_ble_eq_true rfl⟩ rfl hl.1 (Nat.le_of_ble_eq_true rfl) dX6_attend_50 ⟨Nat.zero_le _, Nat.zero_le _⟩ rfl ?_
        exact m_iret hx hb hr hlocks hW (by (by_cases zq0 : ¬ (0 ≤ x ∧ x < s 0) ∨ ¬ (0 ≤ y ∧ y ≤ 1) <;> first | (simp only [if_pos zq0]; first | done | (first | rfl | (subst es_2; subst epa_1; rfl) | (exfalso; omega))) | (simp only [if_neg zq0]; first | done | (by_cases zq1 : s (8 + x.toNat) = y <;> first | (simp only [if_pos zq1]; first | done | (first | rfl | (subst es_2; subst epa_1; rfl) | (exfalso; omega))) | (simp only [if_neg zq1]; first | done | (first | rfl | (subst es_2; subst epa_1; rfl) | (exfalso; omega))))))) (by (by_cases zq0 : ¬ (0 ≤ x ∧ x < s 0) ∨ ¬ (0 ≤ y ∧ y ≤ 1) <;> first | (rw [if_pos zq0]; first | done | (first | done | omega | (subst es_2; subst epa_1; rfl) | (exfalso; omega))) | (rw [if_neg zq0]; first | done | (by_cases zq1 : s (8 + x.toNat) = y <;> first | (rw [if_pos zq1]; first | done | (first | done | omega | (subst es_2; subst epa_1; rfl) | (exfalso; omega))) | (rw [if_neg zq1]; first | done | (first | done | omega | (subst es_2; subst epa_1; rfl) | (exfalso; omega))))))) dX6_attend_53
      · refine j_bi hx hb dX6_attend_32 rfl ?_
        exact m_iret hx hb hr hlocks hW (by (by_cases zq0 : ¬ (0 ≤ x ∧ x < s 0) ∨ ¬ (0 ≤ y ∧ y ≤ 1) <;> first | (simp only [if_pos zq0]; first | done | (first | rfl | ( rfl) | (exfalso; omega))) | (simp only [if_neg zq0]; first | done | (by_cases zq1 : s (8 + x.toNat) = y <;> first | (simp only [if_pos zq1]; first | done | (first | rfl | ( rfl) | (exfalso; omega))) | (simp only [if_neg zq1]; first | done | (first | rfl | ( rfl) | (exfalso; omega))))))) (by (by_cases zq0 : ¬ (0 ≤ x ∧ x < s 0) ∨ ¬ (0 ≤ y ∧ y ≤ 1) <;> first | (rw [if_pos zq0]; first | done | (first | done | omega | ( rfl) | (exfalso; omega))) | (rw [if_neg zq0]; first | done | (by_cases zq1 : s (8 + x.toNat) = y <;> first | (rw [if_pos zq1]; first | done | (first | done | omega | ( rfl) | (exfalso; omega))) | (rw [if_neg zq1]; first | done | (first | done | omega | ( rfl) | (exfalso; omega))))))) dX6_attend_34
    · refine j_c hx hb dX6_attend_17 ?_
      exact m_iret hx hb hr hlocks hW (by (by_cases zq0 : ¬ (0 ≤ x ∧ x < s 0) ∨ ¬ (0 ≤ y ∧ y ≤ 1) <;> first | (simp only [if_pos zq0]; first | done | (first | rfl | ( rfl) | (exfalso; omega))) | (simp only [if_neg zq0]; first | done | (by_cases zq1 : s (8 + x.toNat) = y <;> first | (simp only [if_pos zq1]; first | done | (first | rfl | ( rfl) | (exfalso; omega))) | (simp only [if_neg zq1]; first | done | (first | rfl | ( rfl) | (exfalso; omega))))))) (by (by_cases zq0 : ¬ (0 ≤ x ∧ x < s 0) ∨ ¬ (0 ≤ y ∧ y ≤ 1) <;> first | (rw [if_pos zq0]; first | done | (first | done | omega | ( rfl) | (exfalso; omega))) | (rw [if_neg zq0]; first | done | (by_cases zq1 : s (8 + x.toNat) = y <;> first | (rw [if_pos zq1]; first | done | (first | done | omega | ( rfl) | (exfalso; omega))) | (rw [if_neg zq1]; first | done | (first | done | omega | ( rfl) | (exfalso; omega))))))) dX6_attend_18
set_option maxHeartbeats 4000000 in
set_option maxRecDepth 100000 in
theorem kX6_setLot (l : Launch) (D : va_G) (cI cV : ClassId) (b : Nat → Nat) (s pa he : Nat → Int) (np ru : Int) (t : Nat → Int) (ty at_ rd : Int) (x : Int) (hM : MS s) (hru : ru = 0 ∨ ru = 1) (hnp : 0 ≤ np ∧ np ≤ 5) (r_x : rg x) : MM l yX6_setLot wsX6_setLot 1 22 [.ref (b 0), .int (iI (x))] (modw cI b s pa he np ru t ty at_ rd) (modw cI b (if ¬ (0 ≤ x ∧ x ≤ 65535) then (s) else (up s 6 x)) (if ¬ (0 ≤ x ∧ x ≤ 65535) then (pa) else (if ru = 0 then actP s pa np else pa)) he (if ¬ (0 ≤ x ∧ x ≤ 65535) then (np) else (if ru = 0 then actN np + 1 else np)) ru t ty at_ rd) D cI cV (some (.int (iI (if ¬ (0 ≤ x ∧ x ≤ 65535) then (-1) else (s 6))))) := by
  refine MM.of (cc := cX6_setLot) (maxL := 3) (ret := (some .int)) (by decide) rfl (Nat.le_of_ble_eq_true rfl) ?_
  intro p e s0 m below meth c ls hx hb hr hts hown hlocks hml hW hK hl
  have hWk := hW
  have hown : s0.vm.findClass RX6 = some m.cls := hown
  have hin : ∀ w ∈ u_ws RX6 TX6 9, w ∈ wsX6_setLot := by decide +kernel
  have hl : lv_has ls 3 [(0, .ref (b 0)), (1, .int (iI (x)))] := hl
  obtain ⟨hbs, h00, h01, h10, h11, h30, h31, h40, h41, h70, h71, h60, h61, hco, hcn⟩ := id hM
  have hb5 := hbs 5
  have hb2 := hbs 2
  refine lv_iload_n hx hb dX6_setLot_0 rfl (lv_at hl 1 rfl) ?_
  refine j_c hx hb dX6_setLot_1 ?_
  refine j_ldc (n := 65535) hx hb hown (hts (.constant RX6 65 65535) (by decide +kernel)) rfl dX6_setLot_2 ?_
  refine p_callS (v := .int (iI (b2i ((0 : Int) ≤ x ∧ x ≤ (65535 : Int))))) (n := 3) (w := []) (As := [.int (iI (x)), .int (iI (0)), .int (iI (65535))]) (rest := []) ⟨hx, hb, hml, hown, hts⟩ hK (kX6_in l D cI cV x 0 65535 (by omega) (by omega) (by omega)) (fun k q h => by simp at h) gX6_setLot_X6_in rfl (by decide +kernel) ⟨Nat.le_of_ble_eq_true rfl, Nat.le_of_ble_eq_true rfl⟩ rfl hl.1 (Nat.le_of_ble_eq_true rfl) dX6_setLot_4 ⟨Nat.zero_le _, Nat.zero_le _⟩ rfl ?_
  refine j_bne (tgt := 12) hx hb dX6_setLot_7 (by decide) (fun c1 => ?_) (fun c1 => ?_)
  · refine lv_aload_n hx hb dX6_setLot_12 rfl (lv_at hl 0 rfl) ?_
    refine m_callV (v := none) (ci := 6) (n := 0) (As := []) (rest := []) (st2 := []) (w2 := modw cI b s (if ru = 0 then (actP s pa np) else (pa)) he (if ru = 0 then (actN np + 1) else (np)) ru t ty at_ rd) (pre := []) (post := []) ⟨hx, hb, hml, hown, hts⟩ hK hW (kX6_acts l D cI cV b s pa he np ru t ty at_ rd (by omega) (by omega)) (by rw [List.nil_append, List.append_nil]) (by rw [List.nil_append, List.append_nil]) rfl rfl rfl gX6_setLot_X6_acts rfl (by decide +kernel) ⟨Nat.le_of_ble_eq_true rfl, Nat.le_of_ble_eq_true rfl⟩ rfl hl.1 (Nat.le_of_ble_eq_true rfl) dX6_setLot_13 ⟨Nat.zero_le _, Nat.zero_le _⟩ rfl rfl (fun H locs hW => ?_)
    obtain ⟨pa_1, epa_1⟩ : ∃ zz_, zz_ = if ru = 0 then (actP s pa np) else (pa) := ⟨_, rfl⟩
    rw [← epa_1] at hW
    refine lv_aload_n hx hb dX6_setLot_16 rfl (lv_at hl 0 rfl) ?_
    refine Mg0 hx hb hts hin hown hK hW.1 (by decide +kernel) dX6_setLot_17 ?_
    refine j_bi hx hb dX6_setLot_20 rfl ?_
    refine Ma0 hx hb hK hW.1 (by omega) dX6_setLot_22 ?_
    rw [show (6 : Int).toNat = 6 from by omega]
    have r1_26 : bd (s 6) := hbs _
    refine lv_istore_n (lv' := [(2, .int (iI (s 6))), (0, .ref (b 0)), (1, .int (iI (x)))]) hx hb dX6_setLot_23 rfl hl (by decide) rfl (fun ls hl => ?_)
    refine lv_aload_n hx hb dX6_setLot_24 rfl (lv_at hl 1 rfl) ?_
    refine Mg0 hx hb hts hin hown hK hW.1 (by decide +kernel) dX6_setLot_25 ?_
    refine j_bi hx hb dX6_setLot_28 rfl ?_
    refine lv_iload_n hx hb dX6_setLot_30 rfl (lv_at hl 2 rfl) ?_
    refine Ms0 hx hb hK hW (by omega) dX6_setLot_31 (fun H locs hW => ?_)
    rw [show (6 : Int).toNat = 6 from by omega] at hW
    obtain ⟨s_2, es_2⟩ : ∃ zz_, zz_ = up s (6) (x) := ⟨_, rfl⟩
    rw [← es_2] at hW
    refine lv_iload_n hx hb dX6_setLot_32 rfl (lv_at hl 0 rfl) ?_
    exact m_iret hx hb hr hlocks hW (by (by_cases zq0 : ¬ (0 ≤ x ∧ x ≤ 65535) <;> first | (simp only [if_pos zq0]; first | done | (first | rfl | (subst es_2; subst epa_1; rfl) | (exfalso; omega))) | (simp only [if_neg zq0]; first | done | (first | rfl | (subst es_2; subst epa_1; rfl) | (exfalso; omega))))) (by (by_cases zq0 : ¬ (0 ≤ x ∧ x ≤ 65535) <;> first | (rw [if_pos zq0]; first | done | (first | done | omega | (subst es_2; subst epa_1; rfl) | (exfalso; omega))) | (rw [if_neg zq0]; first | done | (first | done | omega | (subst es_2; subst epa_1; rfl) | (exfalso; omega))))) dX6_setLot_33
  · refine j_c hx hb dX6_setLot_10 ?_
    exact m_iret hx hb hr hlocks hW (by (by_cases zq0 : ¬ (0 ≤ x ∧ x ≤ 65535) <;> first | (simp only [if_pos zq0]; first | done | (first | rfl | ( rfl) | (exfalso; omega))) | (simp only [if_neg zq0]; first | done | (first | rfl | ( rfl) | (exfalso; omega))))) (by (by_cases zq0 : ¬ (0 ≤ x ∧ x ≤ 65535) <;> first | (rw [if_pos zq0]; first | done | (first | done | omega | ( rfl) | (exfalso; omega))) | (rw [if_neg zq0]; first | done | (first | done | omega | ( rfl) | (exfalso; omega))))) dX6_setLot_11
set_option maxHeartbeats 4000000 in
set_option maxRecDepth 100000 in
theorem kX6_found (l : Launch) (D : va_G) (cI cV : ClassId) (b : Nat → Nat) (s pa he : Nat → Int) (np ru : Int) (t : Nat → Int) (ty at_ rd : Int) (x : Int) (hM : MS s) (hru : ru = 0 ∨ ru = 1) (hnp : 0 ≤ np ∧ np ≤ 5) (r_x : rg x) : MM l yX6_found wsX6_found 1 22 [.ref (b 0), .int (iI (x))] (modw cI b s pa he np ru t ty at_ rd) (modw cI b (if ¬ (1 ≤ x ∧ x ≤ 5) then (s) else (if 0 < s 1 ∨ s 0 < x then (s) else (blk (up s 1 x) 32 (fun i => (i : Int)) x.toNat))) (if ¬ (1 ≤ x ∧ x ≤ 5) then (pa) else (if 0 < s 1 ∨ s 0 < x then (pa) else (if ru = 0 then actP s pa np else pa))) he (if ¬ (1 ≤ x ∧ x ≤ 5) then (np) else (if 0 < s 1 ∨ s 0 < x then (np) else (if ru = 0 then actN np + 1 else np))) ru t ty at_ rd) D cI cV (some (.int (iI (if ¬ (1 ≤ x ∧ x ≤ 5) then (-1) else (if 0 < s 1 ∨ s 0 < x then (-2) else (x)))))) := by
  refine MM.of (cc := cX6_found) (maxL := 3) (ret := (some .int)) (by decide) rfl (Nat.le_of_ble_eq_true rfl) ?_
  intro p e s0 m below meth c ls hx hb hr hts hown hlocks hml hW hK hl
  have hWk := hW
  have hown : s0.vm.findClass RX6 = some m.cls := hown
  have hin : ∀ w ∈ u_ws RX6 TX6 9, w ∈ wsX6_found := by decide +kernel
  have hl : lv_has ls 3 [(0, .ref (b 0)), (1, .int (iI (x)))] := hl
  obtain ⟨hbs, h00, h01, h10, h11, h30, h31, h40, h41, h70, h71, h60, h61, hco, hcn⟩ := id hM
  have hb5 := hbs 5
  have hb2 := hbs 2
  refine lv_iload_n hx hb dX6_found_0 rfl (lv_at hl 1 rfl) ?_
  refine j_c hx hb dX6_found_1 ?_
  refine j_c hx hb dX6_found_2 ?_
  refine p_callS (v := .int (iI (b2i ((1 : Int) ≤ x ∧ x ≤ (5 : Int))))) (n := 3) (w := []) (As := [.int (iI (x)), .int (iI (1)), .int (iI (5))]) (rest := []) ⟨hx, hb, hml, hown, hts⟩ hK (kX6_in l D cI cV x 1 5 (by omega) (by omega) (by omega)) (fun k q h => by simp at h) gX6_found_X6_in rfl (by decide +kernel) ⟨Nat.le_of_ble_eq_true rfl, Nat.le_of_ble_eq_true rfl⟩ rfl hl.1 (Nat.le_of_ble_eq_true rfl) dX6_found_3 ⟨Nat.zero_le _, Nat.zero_le _⟩ rfl ?_
  refine j_bne (tgt := 11) hx hb dX6_found_6 (by decide) (fun c1 => ?_) (fun c1 => ?_)
  · refine lv_aload_n hx hb dX6_found_11 rfl (lv_at hl 0 rfl) ?_
    refine Mg0 hx hb hts hin hown hK hW.1 (by decide +kernel) dX6_found_12 ?_
    refine j_c hx hb dX6_found_15 ?_
    refine Ma0 hx hb hK hW.1 (by omega) dX6_found_16 ?_
    rw [show (1 : Int).toNat = 1 from by omega]
    have r1_22 : bd (s 1) := hbs _
    refine j_zgt (tgt := 30) hx hb (by omega) dX6_found_17 (by decide) (fun c2 => ?_) (fun c2 => ?_)
    · refine j_bi hx hb dX6_found_30 rfl ?_
      exact m_iret hx hb hr hlocks hW (by (by_cases zq0 : ¬ (1 ≤ x ∧ x ≤ 5) <;> first | (simp only [if_pos zq0]; first | done | (first | done | rfl | (rw [hinv.2, show j = x.toNat from by omega]; done) | (exfalso; omega))) | (simp only [if_neg zq0]; first | done | (by_cases zq1 : 0 < s 1 ∨ s 0 < x <;> first | (simp only [if_pos zq1]; first | done | (first | done | rfl | (rw [hinv.2, show j = x.toNat from by omega]; done) | (exfalso; omega))) | (simp only [if_neg zq1]; first | done | (first | done | rfl | (rw [hinv.2, show j = x.toNat from by omega]; done) | (exfalso; omega))))))) (by (by_cases zq0 : ¬ (1 ≤ x ∧ x ≤ 5) <;> first | (rw [if_pos zq0]; first | done | (first | done | omega | ( rfl) | (exfalso; omega))) | (rw [if_neg zq0]; first | done | (by_cases zq1 : 0 < s 1 ∨ s 0 < x <;> first | (rw [if_pos zq1]; first | done | (first | done | omega | ( rfl) | (exfalso; omega))) | (rw [if_neg zq1]; first | done | (first | done | omega | ( rfl) | (exfalso; omega))))))) dX6_found_32
    · refine lv_aload_n hx hb dX6_found_20 rfl (lv_at hl 0 rfl) ?_
      refine Mg0 hx hb hts hin hown hK hW.1 (by decide +kernel) dX6_found_21 ?_
      refine j_c hx hb dX6_found_24 ?_
      refine Ma0 hx hb hK hW.1 (by omega) dX6_found_25 ?_
      rw [show (0 : Int).toNat = 0 from by omega]
      have r2_31 : bd (s 0) := hbs _
      refine lv_iload_n hx hb dX6_found_26 rfl (lv_at hl 1 rfl) ?_
      refine j_ige (tgt := 33) hx hb (by omega) (by omega) dX6_found_27 (by decide) (fun c3 => ?_) (fun c3 => ?_)
      · refine lv_aload_n hx hb dX6_found_33 rfl (lv_at hl 0 rfl) ?_
        refine m_callV (v := none) (ci := 6) (n := 0) (As := []) (rest := []) (st2 := []) (w2 := modw cI b s (if ru = 0 then (actP s pa np) else (pa)) he (if ru = 0 then (actN np + 1) else (np)) ru t ty at_ rd) (pre := []) (post := []) ⟨hx, hb, hml, hown, hts⟩ hK hW (kX6_acts l D cI cV b s pa he np ru t ty at_ rd (by omega) (by omega)) (by rw [List.nil_append, List.append_nil]) (by rw [List.nil_append, List.append_nil]) rfl rfl rfl gX6_found_X6_acts rfl (by decide +kernel) ⟨Nat.le_of_ble_eq_true rfl, Nat.le_of_ble_eq_true rfl⟩ rfl hl.1 (Nat.le_of_ble_eq_true rfl) dX6_found_34 ⟨Nat.zero_le _, Nat.zero_le _⟩ rfl rfl (fun H locs hW => ?_)
        obtain ⟨pa_1, epa_1⟩ : ∃ zz_, zz_ = if ru = 0 then (actP s pa np) else (pa) := ⟨_, rfl⟩
        rw [← epa_1] at hW
        refine lv_aload_n hx hb dX6_found_37 rfl (lv_at hl 0 rfl) ?_
        refine Mg0 hx hb hts hin hown hK hW.1 (by decide +kernel) dX6_found_38 ?_
        refine j_c hx hb dX6_found_41 ?_
        refine lv_iload_n hx hb dX6_found_42 rfl (lv_at hl 1 rfl) ?_
        refine Ms0 hx hb hK hW (by omega) dX6_found_43 (fun H locs hW => ?_)
        rw [show (1 : Int).toNat = 1 from by omega] at hW
        obtain ⟨s_2, es_2⟩ : ∃ zz_, zz_ = up s (1) (x) := ⟨_, rfl⟩
        rw [← es_2] at hW
        refine j_c hx hb dX6_found_44 ?_
        refine lv_istore_n (lv' := [(2, .int (iI (0))), (0, .ref (b 0)), (1, .int (iI (x)))]) hx hb dX6_found_45 rfl hl (by decide) rfl (fun ls hl => ?_)
        have LP46 : ∀ (fu : Nat) (j : Nat) (sj : Nat → Int) (x2 : Int), x2 = (j : Int) → ((j : Int) ≤ x ∧ sj = blk (up s 1 x) 32 (fun i => (i : Int)) j) → x.toNat - j < fu → ∀ (H : Heap) (locs : List Loc), Wd D (ad (modw cI b s pa he np ru t ty at_ rd)) (modw cI b sj (if ru = 0 then actP s pa np else pa) he (if ru = 0 then actN np + 1 else np) ru t ty at_ rd) s0.heap H locs → ∀ ls : Array Slot, lv_has ls 3 [(2, .int (iI (x2))), (0, .ref (b 0)), (1, .int (iI (x)))] → W p l e (headSpec wsX6_found (rmK 1 22)).room s0 m ([.ref (b 0), .int (iI (x))] : List Value).toArray below meth c H locs 0 0 (MQ below (mQ D (some (.int (iI (if ¬ (1 ≤ x ∧ x ≤ 5) then (-1) else (if 0 < s 1 ∨ s 0 < x then (-2) else (x)))))) (modw cI b (if ¬ (1 ≤ x ∧ x ≤ 5) then (s) else (if 0 < s 1 ∨ s 0 < x then (s) else (blk (up s 1 x) 32 (fun i => (i : Int)) x.toNat))) (if ¬ (1 ≤ x ∧ x ≤ 5) then (pa) else (if 0 < s 1 ∨ s 0 < x then (pa) else (if ru = 0 then actP s pa np else pa))) he (if ¬ (1 ≤ x ∧ x ≤ 5) then (np) else (if 0 < s 1 ∨ s 0 < x then (np) else (if ru = 0 then actN np + 1 else np))) ru t ty at_ rd) (ad (modw cI b s pa he np ru t ty at_ rd))) ([.ref (b 0), .int (iI (x))] : List Value).toArray s0 0 0 (ad (modw cI b s pa he np ru t ty at_ rd))) (F0 m 46 ls []) := by
          intro fu
          induction fu with
          | zero =>
            intros
            omega
          | succ fu ih =>
            intro j sj x2 ex2 hinv hmeas H locs hW ls hl
            subst ex2
            refine lv_iload_n hx hb dX6_found_46 rfl (lv_at hl 0 rfl) ?_
            refine lv_iload_n hx hb dX6_found_47 rfl (lv_at hl 2 rfl) ?_
            refine j_ige (tgt := 67) hx hb (by omega) (by omega) dX6_found_48 (by decide) (fun c4 => ?_) (fun c4 => ?_)
            · refine lv_iload_n hx hb dX6_found_67 rfl (lv_at hl 2 rfl) ?_
              exact m_iret hx hb hr hlocks hW (by (by_cases zq0 : ¬ (1 ≤ x ∧ x ≤ 5) <;> first | (simp only [if_pos zq0]; first | done | (first | done | rfl | (rw [hinv.2, show j = x.toNat from by omega]; done) | (exfalso; omega))) | (simp only [if_neg zq0]; first | done | (by_cases zq1 : 0 < s 1 ∨ s 0 < x <;> first | (simp only [if_pos zq1]; first | done | (first | done | rfl | (rw [hinv.2, show j = x.toNat from by omega]; done) | (exfalso; omega))) | (simp only [if_neg zq1]; first | done | (first | done | rfl | (rw [hinv.2, show j = x.toNat from by omega]; done) | (exfalso; omega))))))) (by (by_cases zq0 : ¬ (1 ≤ x ∧ x ≤ 5) <;> first | (rw [if_pos zq0]; first | done | (first | done | omega | ( rfl) | (exfalso; omega))) | (rw [if_neg zq0]; first | done | (by_cases zq1 : 0 < s 1 ∨ s 0 < x <;> first | (rw [if_pos zq1]; first | done | (first | done | omega | ( rfl) | (exfalso; omega))) | (rw [if_neg zq1]; first | done | (first | done | omega | ( rfl) | (exfalso; omega))))))) dX6_found_68
            · refine lv_aload_n hx hb dX6_found_51 rfl (lv_at hl 1 rfl) ?_
              refine Mg0 hx hb hts hin hown hK hW.1 (by decide +kernel) dX6_found_52 ?_
              refine j_bi hx hb dX6_found_55 rfl ?_
              refine lv_iload_n hx hb dX6_found_57 rfl (lv_at hl 0 rfl) ?_
              refine j_add hx hb dX6_found_58 ?_
              refine lv_iload_n hx hb dX6_found_59 rfl (lv_at hl 0 rfl) ?_
              refine Ms0 hx hb hK hW (by omega) dX6_found_60 (fun H locs hW => ?_)
              rw [show (32 + (j : Int) : Int).toNat = 32 + j from by omega] at hW
              obtain ⟨s_3, es_3⟩ : ∃ zz_, zz_ = up sj (32 + j) ((j : Int)) := ⟨_, rfl⟩
              rw [← es_3] at hW
              refine lv_iinc (v := iI ((j : Int) + 1)) (lv' := [(2, .int (iI ((j : Int) + 1))), (0, .ref (b 0)), (1, .int (iI (x)))]) hx hb dX6_found_61 hl (k := 0) rfl (iI_add _ _) (by decide) rfl (fun ls hl => ?_)
              refine lv_goto (tgt := 46) hx hb dX6_found_64 (by decide) ?_
              exact ih (j + 1) s_3 ((j : Int) + 1) (by first | rfl | omega | (simp only [sm, b2i]; (repeat' split) <;> first | rfl | omega | (exfalso; omega) | (exfalso; simp_all))) (by exact ⟨by omega, by rw [es_3, hinv.2]; exact blk_step⟩) (by omega) _ _ (hW) ls (lv_sub hl [0, 1, 2] rfl)
        exact LP46 (_) 0 s_2 0 (by first | rfl | omega) (by exact ⟨by omega, by rw [es_2, blk_0]⟩) (by exact Nat.lt_succ_self _) _ _ (by subst epa_1; exact hW) ls (lv_sub hl [0, 1, 2] rfl)
      · refine j_bi hx hb dX6_found_30 rfl ?_
        exact m_iret hx hb hr hlocks hW (by (by_cases zq0 : ¬ (1 ≤ x ∧ x ≤ 5) <;> first | (simp only [if_pos zq0]; first | done | (first | done | rfl | (rw [hinv.2, show j = x.toNat from by omega]; done) | (exfalso; omega))) | (simp only [if_neg zq0]; first | done | (by_cases zq1 : 0 < s 1 ∨ s 0 < x <;> first | (simp only [if_pos zq1]; first | done | (first | done | rfl | (rw [hinv.2, show j = x.toNat from by omega]; done) | (exfalso; omega))) | (simp only [if_neg zq1]; first | done | (first | done | rfl | (rw [hinv.2, show j = x.toNat from by omega]; done) | (exfalso; omega))))))) (by (by_cases zq0 : ¬ (1 ≤ x ∧ x ≤ 5) <;> first | (rw [if_pos zq0]; first | done | (first | done | omega | ( rfl) | (exfalso; omega))) | (rw [if_neg zq0]; first | done | (by_cases zq1 : 0 < s 1 ∨ s 0 < x <;> first | (rw [if_pos zq1]; first | done | (first | done | omega | ( rfl) | (exfalso; omega))) | (rw [if_neg zq1]; first | done | (first | done | omega | ( rfl) | (exfalso; omega))))))) dX6_found_32
  · refine j_c hx hb dX6_found_9 ?_
    exact m_iret hx hb hr hlocks hW (by (by_cases zq0 : ¬ (1 ≤ x ∧ x ≤ 5) <;> first | (simp only [if_pos zq0]; first | done | (first | done | rfl | (rw [hinv.2, show j = x.toNat from by omega]; done) | (exfalso; omega))) | (simp only [if_neg zq0]; first | done | (by_cases zq1 : 0 < s 1 ∨ s 0 < x <;> first | (simp only [if_pos zq1]; first | done | (first | done | rfl | (rw [hinv.2, show j = x.toNat from by omega]; done) | (exfalso; omega))) | (simp only [if_neg zq1]; first | done | (first | done | rfl | (rw [hinv.2, show j = x.toNat from by omega]; done) | (exfalso; omega))))))) (by (by_cases zq0 : ¬ (1 ≤ x ∧ x ≤ 5) <;> first | (rw [if_pos zq0]; first | done | (first | done | omega | ( rfl) | (exfalso; omega))) | (rw [if_neg zq0]; first | done | (by_cases zq1 : 0 < s 1 ∨ s 0 < x <;> first | (rw [if_pos zq1]; first | done | (first | done | omega | ( rfl) | (exfalso; omega))) | (rw [if_neg zq1]; first | done | (first | done | omega | ( rfl) | (exfalso; omega))))))) dX6_found_10
set_option maxHeartbeats 4000000 in
set_option maxRecDepth 100000 in
theorem kX6_second (l : Launch) (D : va_G) (cI cV : ClassId) (b : Nat → Nat) (s pa he : Nat → Int) (np ru : Int) (t : Nat → Int) (ty at_ rd : Int) (x : Int) (y : Int) (hM : MS s) (hru : ru = 0 ∨ ru = 1) (hnp : 0 ≤ np ∧ np ≤ 5) (r_x : rg x) (r_y : rg y) (h24 : s 2 ≤ s 4) : MM l yX6_second wsX6_second 3 61 [.ref (b 0), .int (iI (x)), .int (iI (y))] (modw cI b s pa he np ru t ty at_ rd) (modw cI b (if ¬ (0 ≤ x ∧ x < s 0) ∨ ¬ (0 ≤ y ∧ y < s 3) then (s) else (if ¬ ((seatL (fun i => s (32 + i)) (x) (s 1).toNat ≠ -9 ∨ seatL (fun i => s ((if s 5 ≠ -9 then (37 : Int) else 32).toNat + i)) (x) (s 1).toNat ≠ -9) ∧ s (8 + x.toNat) = 1) ∨ s (20 + x.toNat) ≠ y then (s) else (mgS ((up s (20 + x.toNat) (s (20 + x.toNat) + 1)) 3 - (up s (20 + x.toNat) (s (20 + x.toNat) + 1)) 4).toNat (up s (20 + x.toNat) (s (20 + x.toNat) + 1))))) (if ¬ (0 ≤ x ∧ x < s 0) ∨ ¬ (0 ≤ y ∧ y < s 3) then (pa) else (if ¬ ((seatL (fun i => s (32 + i)) (x) (s 1).toNat ≠ -9 ∨ seatL (fun i => s ((if s 5 ≠ -9 then (37 : Int) else 32).toNat + i)) (x) (s 1).toNat ≠ -9) ∧ s (8 + x.toNat) = 1) ∨ s (20 + x.toNat) ≠ y then (pa) else (if ru = 0 then actP s pa np else pa))) he (if ¬ (0 ≤ x ∧ x < s 0) ∨ ¬ (0 ≤ y ∧ y < s 3) then (np) else (if ¬ ((seatL (fun i => s (32 + i)) (x) (s 1).toNat ≠ -9 ∨ seatL (fun i => s ((if s 5 ≠ -9 then (37 : Int) else 32).toNat + i)) (x) (s 1).toNat ≠ -9) ∧ s (8 + x.toNat) = 1) ∨ s (20 + x.toNat) ≠ y then (np) else (if ru = 0 then actN np + 1 else np))) ru t ty at_ rd) D cI cV (some (.int (iI (if ¬ (0 ≤ x ∧ x < s 0) ∨ ¬ (0 ≤ y ∧ y < s 3) then (-1) else (if ¬ ((seatL (fun i => s (32 + i)) (x) (s 1).toNat ≠ -9 ∨ seatL (fun i => s ((if s 5 ≠ -9 then (37 : Int) else 32).toNat + i)) (x) (s 1).toNat ≠ -9) ∧ s (8 + x.toNat) = 1) ∨ s (20 + x.toNat) ≠ y then (-2) else ((mgS ((up s (20 + x.toNat) (s (20 + x.toNat) + 1)) 3 - (up s (20 + x.toNat) (s (20 + x.toNat) + 1)) 4).toNat (up s (20 + x.toNat) (s (20 + x.toNat) + 1))) 4 - (up s (20 + x.toNat) (s (20 + x.toNat) + 1)) 4)))))) := by
  refine MM.of (cc := cX6_second) (maxL := 3) (ret := (some .int)) (by decide) rfl (Nat.le_of_ble_eq_true rfl) ?_
  intro p e s0 m below meth c ls hx hb hr hts hown hlocks hml hW hK hl
  have hWk := hW
  have hown : s0.vm.findClass RX6 = some m.cls := hown
  have hin : ∀ w ∈ u_ws RX6 TX6 9, w ∈ wsX6_second := by decide +kernel
  have hl : lv_has ls 3 [(0, .ref (b 0)), (1, .int (iI (x))), (2, .int (iI (y)))] := hl
  obtain ⟨hbs, h00, h01, h10, h11, h30, h31, h40, h41, h70, h71, h60, h61, hco, hcn⟩ := id hM
  have hb5 := hbs 5
  have hb2 := hbs 2
  refine lv_aload_n hx hb dX6_second_0 rfl (lv_at hl 0 rfl) ?_
  refine lv_iload_n hx hb dX6_second_1 rfl (lv_at hl 1 rfl) ?_
  refine p_callV (v := .int (iI (b2i (0 ≤ x ∧ x < s 0)))) (ci := 6) (n := 1) (As := [.int (iI (x))]) (rest := []) ⟨hx, hb, hml, hown, hts⟩ hK (kX6_isVillager l D cI cV b s pa he np ru t ty at_ rd x hM (by omega)) hW.1 rfl rfl gX6_second_X6_isVillager rfl (by decide +kernel) ⟨Nat.le_of_ble_eq_true rfl, Nat.le_of_ble_eq_true rfl⟩ rfl hl.1 (Nat.le_of_ble_eq_true rfl) dX6_second_2 ⟨Nat.zero_le _, Nat.zero_le _⟩ rfl ?_
  refine j_beq (tgt := 16) hx hb dX6_second_5 (by decide) (fun c1 => ?_) (fun c1 => ?_)
  · refine j_c hx hb dX6_second_16 ?_
    exact m_iret hx hb hr hlocks hW (by (by_cases zq0 : ¬ (0 ≤ x ∧ x < s 0) ∨ ¬ (0 ≤ y ∧ y < s 3) <;> first | (simp only [if_pos zq0]; first | done | (first | rfl | ( rfl) | (exfalso; omega))) | (simp only [if_neg zq0]; first | done | (by_cases zq1 : ¬ ((seatL (fun i => s (32 + i)) (x) (s 1).toNat ≠ -9 ∨ seatL (fun i => s ((if s 5 ≠ -9 then (37 : Int) else 32).toNat + i)) (x) (s 1).toNat ≠ -9) ∧ s (8 + x.toNat) = 1) ∨ s (20 + x.toNat) ≠ y <;> first | (simp only [if_pos zq1]; first | done | (first | rfl | ( rfl) | (exfalso; omega))) | (simp only [if_neg zq1]; first | done | (first | rfl | ( rfl) | (exfalso; omega))))))) (by (by_cases zq0 : ¬ (0 ≤ x ∧ x < s 0) ∨ ¬ (0 ≤ y ∧ y < s 3) <;> first | (rw [if_pos zq0]; first | done | (first | done | omega | ( rfl) | (exfalso; omega))) | (rw [if_neg zq0]; first | done | (by_cases zq1 : ¬ ((seatL (fun i => s (32 + i)) (x) (s 1).toNat ≠ -9 ∨ seatL (fun i => s ((if s 5 ≠ -9 then (37 : Int) else 32).toNat + i)) (x) (s 1).toNat ≠ -9) ∧ s (8 + x.toNat) = 1) ∨ s (20 + x.toNat) ≠ y <;> first | (rw [if_pos zq1]; first | done | (first | done | omega | ( rfl) | (exfalso; omega))) | (rw [if_neg zq1]; first | done | (first | done | omega | ( rfl) | (exfalso; omega))))))) dX6_second_17
  · refine lv_aload_n hx hb dX6_second_8 rfl (lv_at hl 0 rfl) ?_
    refine lv_iload_n hx hb dX6_second_9 rfl (lv_at hl 2 rfl) ?_
    refine p_callV (v := .int (iI (b2i (0 ≤ y ∧ y < s 3)))) (ci := 6) (n := 1) (As := [.int (iI (y))]) (rest := []) ⟨hx, hb, hml, hown, hts⟩ hK (kX6_isEntry l D cI cV b s pa he np ru t ty at_ rd y hM (by omega)) hW.1 rfl rfl gX6_second_X6_isEntry rfl (by decide +kernel) ⟨Nat.le_of_ble_eq_true rfl, Nat.le_of_ble_eq_true rfl⟩ rfl hl.1 (Nat.le_of_ble_eq_true rfl) dX6_second_10 ⟨Nat.zero_le _, Nat.zero_le _⟩ rfl ?_
    refine j_bne (tgt := 18) hx hb dX6_second_13 (by decide) (fun c2 => ?_) (fun c2 => ?_)
    · refine lv_aload_n hx hb dX6_second_18 rfl (lv_at hl 0 rfl) ?_
      refine lv_iload_n hx hb dX6_second_19 rfl (lv_at hl 1 rfl) ?_
      refine p_callV (v := .int (iI (b2i (seatL (fun i => s (32 + i)) (x) (s 1).toNat ≠ -9 ∨ seatL (fun i => s ((if s 5 ≠ -9 then (37 : Int) else 32).toNat + i)) (x) (s 1).toNat ≠ -9)))) (ci := 6) (n := 1) (As := [.int (iI (x))]) (rest := []) ⟨hx, hb, hml, hown, hts⟩ hK (kX6_isElder l D cI cV b s pa he np ru t ty at_ rd x hM (by omega)) hW.1 rfl rfl gX6_second_X6_isElder rfl (by decide +kernel) ⟨Nat.le_of_ble_eq_true rfl, Nat.le_of_ble_eq_true rfl⟩ rfl hl.1 (Nat.le_of_ble_eq_true rfl) dX6_second_20 ⟨Nat.zero_le _, Nat.zero_le _⟩ rfl ?_
      refine j_beq (tgt := 47) hx hb dX6_second_23 (by decide) (fun c3 => ?_) (fun c3 => ?_)
      · refine j_bi hx hb dX6_second_47 rfl ?_
        exact m_iret hx hb hr hlocks hW (by (by_cases zq0 : ¬ (0 ≤ x ∧ x < s 0) ∨ ¬ (0 ≤ y ∧ y < s 3) <;> first | (simp only [if_pos zq0]; first | done | (first | rfl | ( rfl) | (exfalso; omega))) | (simp only [if_neg zq0]; first | done | (by_cases zq1 : ¬ ((seatL (fun i => s (32 + i)) (x) (s 1).toNat ≠ -9 ∨ seatL (fun i => s ((if s 5 ≠ -9 then (37 : Int) else 32).toNat + i)) (x) (s 1).toNat ≠ -9) ∧ s (8 + x.toNat) = 1) ∨ s (20 + x.toNat) ≠ y <;> first | (simp only [if_pos zq1]; first | done | (first | rfl | ( rfl) | (exfalso; omega))) | (simp only [if_neg zq1]; first | done | (first | rfl | ( rfl) | (exfalso; omega))))))) (by (by_cases zq0 : ¬ (0 ≤ x ∧ x < s 0) ∨ ¬ (0 ≤ y ∧ y < s 3) <;> first | (rw [if_pos zq0]; first | done | (first | done | omega | ( rfl) | (exfalso; omega))) | (rw [if_neg zq0]; first | done | (by_cases zq1 : ¬ ((seatL (fun i => s (32 + i)) (x) (s 1).toNat ≠ -9 ∨ seatL (fun i => s ((if s 5 ≠ -9 then (37 : Int) else 32).toNat + i)) (x) (s 1).toNat ≠ -9) ∧ s (8 + x.toNat) = 1) ∨ s (20 + x.toNat) ≠ y <;> first | (rw [if_pos zq1]; first | done | (first | done | omega | ( rfl) | (exfalso; omega))) | (rw [if_neg zq1]; first | done | (first | done | omega | ( rfl) | (exfalso; omega))))))) dX6_second_49
      · refine lv_aload_n hx hb dX6_second_26 rfl (lv_at hl 0 rfl) ?_
        refine lv_iload_n hx hb dX6_second_27 rfl (lv_at hl 1 rfl) ?_
        refine p_callV (v := .int (iI (b2i (s (8 + x.toNat) = 1)))) (ci := 6) (n := 1) (As := [.int (iI (x))]) (rest := []) ⟨hx, hb, hml, hown, hts⟩ hK (kX6_isPresent l D cI cV b s pa he np ru t ty at_ rd x hM (by omega)) hW.1 rfl rfl gX6_second_X6_isPresent rfl (by decide +kernel) ⟨Nat.le_of_ble_eq_true rfl, Nat.le_of_ble_eq_true rfl⟩ rfl hl.1 (Nat.le_of_ble_eq_true rfl) dX6_second_28 ⟨Nat.zero_le _, Nat.zero_le _⟩ rfl ?_
        refine j_beq (tgt := 47) hx hb dX6_second_31 (by decide) (fun c4 => ?_) (fun c4 => ?_)
        · refine j_bi hx hb dX6_second_47 rfl ?_
          exact m_iret hx hb hr hlocks hW (by (by_cases zq0 : ¬ (0 ≤ x ∧ x < s 0) ∨ ¬ (0 ≤ y ∧ y < s 3) <;> first | (simp only [if_pos zq0]; first | done | (first | rfl | ( rfl) | (exfalso; omega))) | (simp only [if_neg zq0]; first | done | (by_cases zq1 : ¬ ((seatL (fun i => s (32 + i)) (x) (s 1).toNat ≠ -9 ∨ seatL (fun i => s ((if s 5 ≠ -9 then (37 : Int) else 32).toNat + i)) (x) (s 1).toNat ≠ -9) ∧ s (8 + x.toNat) = 1) ∨ s (20 + x.toNat) ≠ y <;> first | (simp only [if_pos zq1]; first | done | (first | rfl | ( rfl) | (exfalso; omega))) | (simp only [if_neg zq1]; first | done | (first | rfl | ( rfl) | (exfalso; omega))))))) (by (by_cases zq0 : ¬ (0 ≤ x ∧ x < s 0) ∨ ¬ (0 ≤ y ∧ y < s 3) <;> first | (rw [if_pos zq0]; first | done | (first | done | omega | ( rfl) | (exfalso; omega))) | (rw [if_neg zq0]; first | done | (by_cases zq1 : ¬ ((seatL (fun i => s (32 + i)) (x) (s 1).toNat ≠ -9 ∨ seatL (fun i => s ((if s 5 ≠ -9 then (37 : Int) else 32).toNat + i)) (x) (s 1).toNat ≠ -9) ∧ s (8 + x.toNat) = 1) ∨ s (20 + x.toNat) ≠ y <;> first | (rw [if_pos zq1]; first | done | (first | done | omega | ( rfl) | (exfalso; omega))) | (rw [if_neg zq1]; first | done | (first | done | omega | ( rfl) | (exfalso; omega))))))) dX6_second_49
        · refine lv_aload_n hx hb dX6_second_34 rfl (lv_at hl 0 rfl) ?_
          refine Mg0 hx hb hts hin hown hK hW.1 (by decide +kernel) dX6_second_35 ?_
          refine j_bi hx hb dX6_second_38 rfl ?_
          refine lv_iload_n hx hb dX6_second_40 rfl (lv_at hl 1 rfl) ?_
          refine j_add hx hb dX6_second_41 ?_
          refine Ma0 hx hb hK hW.1 (by omega) dX6_second_42 ?_
          rw [show (20 + x : Int).toNat = 20 + x.toNat from by omega]
          have r4_41 : bd (s (20 + x.toNat)) := hbs _
          refine lv_iload_n hx hb dX6_second_43 rfl (lv_at hl 2 rfl) ?_
          refine j_ieq (tgt := 50) hx hb (by omega) (by omega) dX6_second_44 (by decide) (fun c5 => ?_) (fun c5 => ?_)
          · refine lv_aload_n hx hb dX6_second_50 rfl (lv_at hl 0 rfl) ?_
            refine m_callV (v := none) (ci := 6) (n := 0) (As := []) (rest := []) (st2 := []) (w2 := modw cI b s (if ru = 0 then (actP s pa np) else (pa)) he (if ru = 0 then (actN np + 1) else (np)) ru t ty at_ rd) (pre := []) (post := []) ⟨hx, hb, hml, hown, hts⟩ hK hW (kX6_acts l D cI cV b s pa he np ru t ty at_ rd (by omega) (by omega)) (by rw [List.nil_append, List.append_nil]) (by rw [List.nil_append, List.append_nil]) rfl rfl rfl gX6_second_X6_acts rfl (by decide +kernel) ⟨Nat.le_of_ble_eq_true rfl, Nat.le_of_ble_eq_true rfl⟩ rfl hl.1 (Nat.le_of_ble_eq_true rfl) dX6_second_51 ⟨Nat.zero_le _, Nat.zero_le _⟩ rfl rfl (fun H locs hW => ?_)
            obtain ⟨pa_1, epa_1⟩ : ∃ zz_, zz_ = if ru = 0 then (actP s pa np) else (pa) := ⟨_, rfl⟩
            rw [← epa_1] at hW
            refine lv_aload_n hx hb dX6_second_54 rfl (lv_at hl 0 rfl) ?_
            refine Mg0 hx hb hts hin hown hK hW.1 (by decide +kernel) dX6_second_55 ?_
            refine j_bi hx hb dX6_second_58 rfl ?_
            refine lv_iload_n hx hb dX6_second_60 rfl (lv_at hl 1 rfl) ?_
            refine j_add hx hb dX6_second_61 ?_
            refine lv_dup2_11 hx hb dX6_second_62 rfl rfl ?_
            refine Ma0 hx hb hK hW.1 (by omega) dX6_second_63 ?_
            rw [show (20 + x : Int).toNat = 20 + x.toNat from by omega]
            have r5_56 : bd (s (20 + x.toNat)) := hbs _
            refine j_c hx hb dX6_second_64 ?_
            refine j_add hx hb dX6_second_65 ?_
            refine Ms0 hx hb hK hW (by omega) dX6_second_66 (fun H locs hW => ?_)
            rw [show (20 + x : Int).toNat = 20 + x.toNat from by omega] at hW
            obtain ⟨s_2, es_2⟩ : ∃ zz_, zz_ = up s (20 + x.toNat) ((s (20 + x.toNat)) + 1) := ⟨_, rfl⟩
            rw [← es_2] at hW
            have hM : MS s_2 := by rw [es_2]; exact MS_up hM (by omega) (by omega)
            have h24 : s_2 2 ≤ s_2 4 := by rw [es_2, up_ne (by omega), up_ne (by omega)]; omega
            refine lv_aload_n hx hb dX6_second_67 rfl (lv_at hl 0 rfl) ?_
            refine m_callV (v := some (.int (iI ((mgS (s_2 3 - s_2 4).toNat s_2) 4 - s_2 4)))) (ci := 6) (n := 0) (As := []) (rest := []) (st2 := [.int (iI ((mgS (s_2 3 - s_2 4).toNat s_2) 4 - s_2 4))]) (w2 := modw cI b (mgS (s_2 3 - s_2 4).toNat s_2) pa_1 he (if ru = 0 then (actN np + 1) else (np)) ru t ty at_ rd) (pre := []) (post := []) ⟨hx, hb, hml, hown, hts⟩ hK hW (kX6_agrees l D cI cV b s_2 pa_1 he (if ru = 0 then (actN np + 1) else (np)) ru t ty at_ rd hM h24) (by rw [List.nil_append, List.append_nil]) (by rw [List.nil_append, List.append_nil]) rfl rfl rfl gX6_second_X6_agrees rfl (by decide +kernel) ⟨Nat.le_of_ble_eq_true rfl, Nat.le_of_ble_eq_true rfl⟩ rfl hl.1 (Nat.le_of_ble_eq_true rfl) dX6_second_68 ⟨Nat.zero_le _, Nat.zero_le _⟩ rfl rfl (fun H locs hW => ?_)
            obtain ⟨s_3, es_3⟩ : ∃ zz_, zz_ = mgS (s_2 3 - s_2 4).toNat s_2 := ⟨_, rfl⟩
            rw [← es_3] at hW
            have hmgr := mg_rg hM h24 (s_2 3 - s_2 4).toNat
            exact m_iret hx hb hr hlocks hW (by (by_cases zq0 : ¬ (0 ≤ x ∧ x < s 0) ∨ ¬ (0 ≤ y ∧ y < s 3) <;> first | (simp only [if_pos zq0]; first | done | (first | rfl | (subst es_3; subst es_2; subst epa_1; rfl) | (exfalso; omega))) | (simp only [if_neg zq0]; first | done | (by_cases zq1 : ¬ ((seatL (fun i => s (32 + i)) (x) (s 1).toNat ≠ -9 ∨ seatL (fun i => s ((if s 5 ≠ -9 then (37 : Int) else 32).toNat + i)) (x) (s 1).toNat ≠ -9) ∧ s (8 + x.toNat) = 1) ∨ s (20 + x.toNat) ≠ y <;> first | (simp only [if_pos zq1]; first | done | (first | rfl | (subst es_3; subst es_2; subst epa_1; rfl) | (exfalso; omega))) | (simp only [if_neg zq1]; first | done | (first | rfl | (subst es_3; subst es_2; subst epa_1; rfl) | (exfalso; omega))))))) (by (by_cases zq0 : ¬ (0 ≤ x ∧ x < s 0) ∨ ¬ (0 ≤ y ∧ y < s 3) <;> first | (rw [if_pos zq0]; first | done | (first | done | omega | (subst es_3; subst es_2; subst epa_1; rfl) | (exfalso; omega))) | (rw [if_neg zq0]; first | done | (by_cases zq1 : ¬ ((seatL (fun i => s (32 + i)) (x) (s 1).toNat ≠ -9 ∨ seatL (fun i => s ((if s 5 ≠ -9 then (37 : Int) else 32).toNat + i)) (x) (s 1).toNat ≠ -9) ∧ s (8 + x.toNat) = 1) ∨ s (20 + x.toNat) ≠ y <;> first | (rw [if_pos zq1]; first | done | (first | done | omega | (subst es_3; subst es_2; subst epa_1; rfl) | (exfalso; omega))) | (rw [if_neg zq1]; first | done | (first | done | omega | (subst es_3; subst es_2; subst epa_1; rfl) | (exfalso; omega))))))) dX6_second_71
          · refine j_bi hx hb dX6_second_47 rfl ?_
            exact m_iret hx hb hr hlocks hW (by (by_cases zq0 : ¬ (0 ≤ x ∧ x < s 0) ∨ ¬ (0 ≤ y ∧ y < s 3) <;> first | (simp only [if_pos zq0]; first | done | (first | rfl | ( rfl) | (exfalso; omega))) | (simp only [if_neg zq0]; first | done | (by_cases zq1 : ¬ ((seatL (fun i => s (32 + i)) (x) (s 1).toNat ≠ -9 ∨ seatL (fun i => s ((if s 5 ≠ -9 then (37 : Int) else 32).toNat + i)) (x) (s 1).toNat ≠ -9) ∧ s (8 + x.toNat) = 1) ∨ s (20 + x.toNat) ≠ y <;> first | (simp only [if_pos zq1]; first | done | (first | rfl | ( rfl) | (exfalso; omega))) | (simp only [if_neg zq1]; first | done | (first | rfl | ( rfl) | (exfalso; omega))))))) (by (by_cases zq0 : ¬ (0 ≤ x ∧ x < s 0) ∨ ¬ (0 ≤ y ∧ y < s 3) <;> first | (rw [if_pos zq0]; first | done | (first | done | omega | ( rfl) | (exfalso; omega))) | (rw [if_neg zq0]; first | done | (by_cases zq1 : ¬ ((seatL (fun i => s (32 + i)) (x) (s 1).toNat ≠ -9 ∨ seatL (fun i => s ((if s 5 ≠ -9 then (37 : Int) else 32).toNat + i)) (x) (s 1).toNat ≠ -9) ∧ s (8 + x.toNat) = 1) ∨ s (20 + x.toNat) ≠ y <;> first | (rw [if_pos zq1]; first | done | (first | done | omega | ( rfl) | (exfalso; omega))) | (rw [if_neg zq1]; first | done | (first | done | omega | ( rfl) | (exfalso; omega))))))) dX6_second_49
    · refine j_c hx hb dX6_second_16 ?_
      exact m_iret hx hb hr hlocks hW (by (by_cases zq0 : ¬ (0 ≤ x ∧ x < s 0) ∨ ¬ (0 ≤ y ∧ y < s 3) <;> first | (simp only [if_pos zq0]; first | done | (first | rfl | ( rfl) | (exfalso; omega))) | (simp only [if_neg zq0]; first | done | (by_cases zq1 : ¬ ((seatL (fun i => s (32 + i)) (x) (s 1).toNat ≠ -9 ∨ seatL (fun i => s ((if s 5 ≠ -9 then (37 : Int) else 32).toNat + i)) (x) (s 1).toNat ≠ -9) ∧ s (8 + x.toNat) = 1) ∨ s (20 + x.toNat) ≠ y <;> first | (simp only [if_pos zq1]; first | done | (first | rfl | ( rfl) | (exfalso; omega))) | (simp only [if_neg zq1]; first | done | (first | rfl | ( rfl) | (exfalso; omega))))))) (by (by_cases zq0 : ¬ (0 ≤ x ∧ x < s 0) ∨ ¬ (0 ≤ y ∧ y < s 3) <;> first | (rw [if_pos zq0]; first | done | (first | done | omega | ( rfl) | (exfalso; omega))) | (rw [if_neg zq0]; first | done | (by_cases zq1 : ¬ ((seatL (fun i => s (32 + i)) (x) (s 1).toNat ≠ -9 ∨ seatL (fun i => s ((if s 5 ≠ -9 then (37 : Int) else 32).toNat + i)) (x) (s 1).toNat ≠ -9) ∧ s (8 + x.toNat) = 1) ∨ s (20 + x.toNat) ≠ y <;> first | (rw [if_pos zq1]; first | done | (first | done | omega | ( rfl) | (exfalso; omega))) | (rw [if_neg zq1]; first | done | (first | done | omega | ( rfl) | (exfalso; omega))))))) dX6_second_17
set_option maxHeartbeats 4000000 in
set_option maxRecDepth 100000 in
theorem kX6_learn (l : Launch) (D : va_G) (cI cV : ClassId) (b : Nat → Nat) (s pa he : Nat → Int) (np ru : Int) (t : Nat → Int) (ty at_ rd : Int) (x : Int) (hM : MS s) (hru : ru = 0 ∨ ru = 1) (hnp : 0 ≤ np ∧ np ≤ 5) (r_x : rg x) : MM l yX6_learn wsX6_learn 1 21 [.ref (b 0), .int (iI (x))] (modw cI b s pa he np ru t ty at_ rd) (modw cI b (if ¬ (0 ≤ x ∧ x < s 0) then (s) else (if s (8 + x.toNat) ≠ 1 then (s) else (up s (20 + x.toNat) (s (20 + x.toNat) + max 0 (s 4 - s (20 + x.toNat)))))) (if ¬ (0 ≤ x ∧ x < s 0) then (pa) else (if s (8 + x.toNat) ≠ 1 then (pa) else (if ru = 0 then actP s pa np else pa))) he (if ¬ (0 ≤ x ∧ x < s 0) then (np) else (if s (8 + x.toNat) ≠ 1 then (np) else (if ru = 0 then actN np + 1 else np))) ru t ty at_ rd) D cI cV (some (.int (iI (if ¬ (0 ≤ x ∧ x < s 0) then (-1) else (if s (8 + x.toNat) ≠ 1 then (-2) else (max 0 (s 4 - s (20 + x.toNat)))))))) := by
  refine MM.of (cc := cX6_learn) (maxL := 3) (ret := (some .int)) (by decide) rfl (Nat.le_of_ble_eq_true rfl) ?_
  intro p e s0 m below meth c ls hx hb hr hts hown hlocks hml hW hK hl
  have hWk := hW
  have hown : s0.vm.findClass RX6 = some m.cls := hown
  have hin : ∀ w ∈ u_ws RX6 TX6 9, w ∈ wsX6_learn := by decide +kernel
  have hl : lv_has ls 3 [(0, .ref (b 0)), (1, .int (iI (x)))] := hl
  obtain ⟨hbs, h00, h01, h10, h11, h30, h31, h40, h41, h70, h71, h60, h61, hco, hcn⟩ := id hM
  have hb5 := hbs 5
  have hb2 := hbs 2
  refine lv_aload_n hx hb dX6_learn_0 rfl (lv_at hl 0 rfl) ?_
  refine lv_iload_n hx hb dX6_learn_1 rfl (lv_at hl 1 rfl) ?_
  refine p_callV (v := .int (iI (b2i (0 ≤ x ∧ x < s 0)))) (ci := 6) (n := 1) (As := [.int (iI (x))]) (rest := []) ⟨hx, hb, hml, hown, hts⟩ hK (kX6_isVillager l D cI cV b s pa he np ru t ty at_ rd x hM (by omega)) hW.1 rfl rfl gX6_learn_X6_isVillager rfl (by decide +kernel) ⟨Nat.le_of_ble_eq_true rfl, Nat.le_of_ble_eq_true rfl⟩ rfl hl.1 (Nat.le_of_ble_eq_true rfl) dX6_learn_2 ⟨Nat.zero_le _, Nat.zero_le _⟩ rfl ?_
  refine j_bne (tgt := 10) hx hb dX6_learn_5 (by decide) (fun c1 => ?_) (fun c1 => ?_)
  · refine lv_aload_n hx hb dX6_learn_10 rfl (lv_at hl 0 rfl) ?_
    refine lv_iload_n hx hb dX6_learn_11 rfl (lv_at hl 1 rfl) ?_
    refine p_callV (v := .int (iI (b2i (s (8 + x.toNat) = 1)))) (ci := 6) (n := 1) (As := [.int (iI (x))]) (rest := []) ⟨hx, hb, hml, hown, hts⟩ hK (kX6_isPresent l D cI cV b s pa he np ru t ty at_ rd x hM (by omega)) hW.1 rfl rfl gX6_learn_X6_isPresent rfl (by decide +kernel) ⟨Nat.le_of_ble_eq_true rfl, Nat.le_of_ble_eq_true rfl⟩ rfl hl.1 (Nat.le_of_ble_eq_true rfl) dX6_learn_12 ⟨Nat.zero_le _, Nat.zero_le _⟩ rfl ?_
    refine j_bne (tgt := 21) hx hb dX6_learn_15 (by decide) (fun c2 => ?_) (fun c2 => ?_)
    · refine lv_aload_n hx hb dX6_learn_21 rfl (lv_at hl 0 rfl) ?_
      refine m_callV (v := none) (ci := 6) (n := 0) (As := []) (rest := []) (st2 := []) (w2 := modw cI b s (if ru = 0 then (actP s pa np) else (pa)) he (if ru = 0 then (actN np + 1) else (np)) ru t ty at_ rd) (pre := []) (post := []) ⟨hx, hb, hml, hown, hts⟩ hK hW (kX6_acts l D cI cV b s pa he np ru t ty at_ rd (by omega) (by omega)) (by rw [List.nil_append, List.append_nil]) (by rw [List.nil_append, List.append_nil]) rfl rfl rfl gX6_learn_X6_acts rfl (by decide +kernel) ⟨Nat.le_of_ble_eq_true rfl, Nat.le_of_ble_eq_true rfl⟩ rfl hl.1 (Nat.le_of_ble_eq_true rfl) dX6_learn_22 ⟨Nat.zero_le _, Nat.zero_le _⟩ rfl rfl (fun H locs hW => ?_)
      obtain ⟨pa_1, epa_1⟩ : ∃ zz_, zz_ = if ru = 0 then (actP s pa np) else (pa) := ⟨_, rfl⟩
      rw [← epa_1] at hW
      refine lv_aload_n hx hb dX6_learn_25 rfl (lv_at hl 0 rfl) ?_
      refine Mg0 hx hb hts hin hown hK hW.1 (by decide +kernel) dX6_learn_26 ?_
      refine j_c hx hb dX6_learn_29 ?_
      refine Ma0 hx hb hK hW.1 (by omega) dX6_learn_30 ?_
      rw [show (4 : Int).toNat = 4 from by omega]
      have r2_29 : bd (s 4) := hbs _
      refine lv_aload_n hx hb dX6_learn_31 rfl (lv_at hl 0 rfl) ?_
      refine Mg0 hx hb hts hin hown hK hW.1 (by decide +kernel) dX6_learn_32 ?_
      refine j_bi hx hb dX6_learn_35 rfl ?_
      refine lv_iload_n hx hb dX6_learn_37 rfl (lv_at hl 1 rfl) ?_
      refine j_add hx hb dX6_learn_38 ?_
      refine Ma0 hx hb hK hW.1 (by omega) dX6_learn_39 ?_
      rw [show (20 + x : Int).toNat = 20 + x.toNat from by omega]
      have r2_37 : bd (s (20 + x.toNat)) := hbs _
      refine j_sub hx hb dX6_learn_40 ?_
      refine lv_istore_n (lv' := [(2, .int (iI ((s 4) - (s (20 + x.toNat))))), (0, .ref (b 0)), (1, .int (iI (x)))]) hx hb dX6_learn_41 rfl hl (by decide) rfl (fun ls hl => ?_)
      refine lv_iload_n hx hb dX6_learn_42 rfl (lv_at hl 0 rfl) ?_
      refine j_zge (tgt := 50) hx hb (by omega) dX6_learn_43 (by decide) (fun c3 => ?_) (fun c3 => ?_)
      · refine lv_iload_n hx hb dX6_learn_50 rfl (lv_at hl 0 rfl) ?_
        refine lv_istore_n (lv' := [(2, .int (iI ((s 4) - (s (20 + x.toNat))))), (0, .ref (b 0)), (1, .int (iI (x)))]) hx hb dX6_learn_51 rfl hl (by decide) rfl (fun ls hl => ?_)
        refine lv_aload_n hx hb dX6_learn_52 rfl (lv_at hl 1 rfl) ?_
        refine Mg0 hx hb hts hin hown hK hW.1 (by decide +kernel) dX6_learn_53 ?_
        refine j_bi hx hb dX6_learn_56 rfl ?_
        refine lv_iload_n hx hb dX6_learn_58 rfl (lv_at hl 2 rfl) ?_
        refine j_add hx hb dX6_learn_59 ?_
        refine lv_dup2_11 hx hb dX6_learn_60 rfl rfl ?_
        refine Ma0 hx hb hK hW.1 (by omega) dX6_learn_61 ?_
        rw [show (20 + x : Int).toNat = 20 + x.toNat from by omega]
        have r3_52 : bd (s (20 + x.toNat)) := hbs _
        refine lv_iload_n hx hb dX6_learn_62 rfl (lv_at hl 0 rfl) ?_
        refine j_add hx hb dX6_learn_63 ?_
        refine Ms0 hx hb hK hW (by omega) dX6_learn_64 (fun H locs hW => ?_)
        rw [show (20 + x : Int).toNat = 20 + x.toNat from by omega] at hW
        obtain ⟨s_2, es_2⟩ : ∃ zz_, zz_ = up s (20 + x.toNat) ((s (20 + x.toNat)) + ((s 4) - (s (20 + x.toNat)))) := ⟨_, rfl⟩
        rw [← es_2] at hW
        refine lv_iload_n hx hb dX6_learn_65 rfl (lv_at hl 0 rfl) ?_
        exact m_iret hx hb hr hlocks hW (by (by_cases zq0 : ¬ (0 ≤ x ∧ x < s 0) <;> first | (simp only [if_pos zq0]; first | done | (first | done | rfl | (subst es_2; subst epa_1; rw [show max 0 (s 4 - s (20 + x.toNat)) = s 4 - s (20 + x.toNat) from by omega]; first | done | rfl) | (subst es_2; subst epa_1; rw [show max 0 (s 4 - s (20 + x.toNat)) = 0 from by omega]; first | done | rfl) | (exfalso; omega))) | (simp only [if_neg zq0]; first | done | (by_cases zq1 : s (8 + x.toNat) ≠ 1 <;> first | (simp only [if_pos zq1]; first | done | (first | done | rfl | (subst es_2; subst epa_1; rw [show max 0 (s 4 - s (20 + x.toNat)) = s 4 - s (20 + x.toNat) from by omega]; first | done | rfl) | (subst es_2; subst epa_1; rw [show max 0 (s 4 - s (20 + x.toNat)) = 0 from by omega]; first | done | rfl) | (exfalso; omega))) | (simp only [if_neg zq1]; first | done | (first | done | rfl | (subst es_2; subst epa_1; rw [show max 0 (s 4 - s (20 + x.toNat)) = s 4 - s (20 + x.toNat) from by omega]; first | done | rfl) | (subst es_2; subst epa_1; rw [show max 0 (s 4 - s (20 + x.toNat)) = 0 from by omega]; first | done | rfl) | (exfalso; omega))))))) (by (by_cases zq0 : ¬ (0 ≤ x ∧ x < s 0) <;> first | (rw [if_pos zq0]; first | done | (first | done | omega | (subst es_2; subst epa_1; rfl) | (exfalso; omega))) | (rw [if_neg zq0]; first | done | (by_cases zq1 : s (8 + x.toNat) ≠ 1 <;> first | (rw [if_pos zq1]; first | done | (first | done | omega | (subst es_2; subst epa_1; rfl) | (exfalso; omega))) | (rw [if_neg zq1]; first | done | (first | done | omega | (subst es_2; subst epa_1; rfl) | (exfalso; omega))))))) dX6_learn_66
      · refine j_c hx hb dX6_learn_46 ?_
        refine lv_goto (tgt := 51) hx hb dX6_learn_47 (by decide) ?_
        refine lv_istore_n (lv' := [(2, .int (iI (0))), (0, .ref (b 0)), (1, .int (iI (x)))]) hx hb dX6_learn_51 rfl hl (by decide) rfl (fun ls hl => ?_)
        refine lv_aload_n hx hb dX6_learn_52 rfl (lv_at hl 1 rfl) ?_
        refine Mg0 hx hb hts hin hown hK hW.1 (by decide +kernel) dX6_learn_53 ?_
        refine j_bi hx hb dX6_learn_56 rfl ?_
        refine lv_iload_n hx hb dX6_learn_58 rfl (lv_at hl 2 rfl) ?_
        refine j_add hx hb dX6_learn_59 ?_
        refine lv_dup2_11 hx hb dX6_learn_60 rfl rfl ?_
        refine Ma0 hx hb hK hW.1 (by omega) dX6_learn_61 ?_
        rw [show (20 + x : Int).toNat = 20 + x.toNat from by omega]
        have r3_72 : bd (s (20 + x.toNat)) := hbs _
        refine lv_iload_n hx hb dX6_learn_62 rfl (lv_at hl 0 rfl) ?_
        refine j_add hx hb dX6_learn_63 ?_
        refine Ms0 hx hb hK hW (by omega) dX6_learn_64 (fun H locs hW => ?_)
        rw [show (20 + x : Int).toNat = 20 + x.toNat from by omega] at hW
        obtain ⟨s_3, es_3⟩ : ∃ zz_, zz_ = up s (20 + x.toNat) ((s (20 + x.toNat)) + 0) := ⟨_, rfl⟩
        rw [← es_3] at hW
        refine lv_iload_n hx hb dX6_learn_65 rfl (lv_at hl 0 rfl) ?_
        exact m_iret hx hb hr hlocks hW (by (by_cases zq0 : ¬ (0 ≤ x ∧ x < s 0) <;> first | (simp only [if_pos zq0]; first | done | (first | done | rfl | (subst es_3; subst epa_1; rw [show max 0 (s 4 - s (20 + x.toNat)) = s 4 - s (20 + x.toNat) from by omega]; first | done | rfl) | (subst es_3; subst epa_1; rw [show max 0 (s 4 - s (20 + x.toNat)) = 0 from by omega]; first | done | rfl) | (exfalso; omega))) | (simp only [if_neg zq0]; first | done | (by_cases zq1 : s (8 + x.toNat) ≠ 1 <;> first | (simp only [if_pos zq1]; first | done | (first | done | rfl | (subst es_3; subst epa_1; rw [show max 0 (s 4 - s (20 + x.toNat)) = s 4 - s (20 + x.toNat) from by omega]; first | done | rfl) | (subst es_3; subst epa_1; rw [show max 0 (s 4 - s (20 + x.toNat)) = 0 from by omega]; first | done | rfl) | (exfalso; omega))) | (simp only [if_neg zq1]; first | done | (first | done | rfl | (subst es_3; subst epa_1; rw [show max 0 (s 4 - s (20 + x.toNat)) = s 4 - s (20 + x.toNat) from by omega]; first | done | rfl) | (subst es_3; subst epa_1; rw [show max 0 (s 4 - s (20 + x.toNat)) = 0 from by omega]; first | done | rfl) | (exfalso; omega))))))) (by (by_cases zq0 : ¬ (0 ≤ x ∧ x < s 0) <;> first | (rw [if_pos zq0]; first | done | (first | done | omega | (subst es_3; subst epa_1; rfl) | (exfalso; omega))) | (rw [if_neg zq0]; first | done | (by_cases zq1 : s (8 + x.toNat) ≠ 1 <;> first | (rw [if_pos zq1]; first | done | (first | done | omega | (subst es_3; subst epa_1; rfl) | (exfalso; omega))) | (rw [if_neg zq1]; first | done | (first | done | omega | (subst es_3; subst epa_1; rfl) | (exfalso; omega))))))) dX6_learn_66
    · refine j_bi hx hb dX6_learn_18 rfl ?_
      exact m_iret hx hb hr hlocks hW (by (by_cases zq0 : ¬ (0 ≤ x ∧ x < s 0) <;> first | (simp only [if_pos zq0]; first | done | (first | done | rfl | ( rw [show max 0 (s 4 - s (20 + x.toNat)) = s 4 - s (20 + x.toNat) from by omega]; first | done | rfl) | ( rw [show max 0 (s 4 - s (20 + x.toNat)) = 0 from by omega]; first | done | rfl) | (exfalso; omega))) | (simp only [if_neg zq0]; first | done | (by_cases zq1 : s (8 + x.toNat) ≠ 1 <;> first | (simp only [if_pos zq1]; first | done | (first | done | rfl | ( rw [show max 0 (s 4 - s (20 + x.toNat)) = s 4 - s (20 + x.toNat) from by omega]; first | done | rfl) | ( rw [show max 0 (s 4 - s (20 + x.toNat)) = 0 from by omega]; first | done | rfl) | (exfalso; omega))) | (simp only [if_neg zq1]; first | done | (first | done | rfl | ( rw [show max 0 (s 4 - s (20 + x.toNat)) = s 4 - s (20 + x.toNat) from by omega]; first | done | rfl) | ( rw [show max 0 (s 4 - s (20 + x.toNat)) = 0 from by omega]; first | done | rfl) | (exfalso; omega))))))) (by (by_cases zq0 : ¬ (0 ≤ x ∧ x < s 0) <;> first | (rw [if_pos zq0]; first | done | (first | done | omega | ( rfl) | (exfalso; omega))) | (rw [if_neg zq0]; first | done | (by_cases zq1 : s (8 + x.toNat) ≠ 1 <;> first | (rw [if_pos zq1]; first | done | (first | done | omega | ( rfl) | (exfalso; omega))) | (rw [if_neg zq1]; first | done | (first | done | omega | ( rfl) | (exfalso; omega))))))) dX6_learn_20
  · refine j_c hx hb dX6_learn_8 ?_
    exact m_iret hx hb hr hlocks hW (by (by_cases zq0 : ¬ (0 ≤ x ∧ x < s 0) <;> first | (simp only [if_pos zq0]; first | done | (first | done | rfl | ( rw [show max 0 (s 4 - s (20 + x.toNat)) = s 4 - s (20 + x.toNat) from by omega]; first | done | rfl) | ( rw [show max 0 (s 4 - s (20 + x.toNat)) = 0 from by omega]; first | done | rfl) | (exfalso; omega))) | (simp only [if_neg zq0]; first | done | (by_cases zq1 : s (8 + x.toNat) ≠ 1 <;> first | (simp only [if_pos zq1]; first | done | (first | done | rfl | ( rw [show max 0 (s 4 - s (20 + x.toNat)) = s 4 - s (20 + x.toNat) from by omega]; first | done | rfl) | ( rw [show max 0 (s 4 - s (20 + x.toNat)) = 0 from by omega]; first | done | rfl) | (exfalso; omega))) | (simp only [if_neg zq1]; first | done | (first | done | rfl | ( rw [show max 0 (s 4 - s (20 + x.toNat)) = s 4 - s (20 + x.toNat) from by omega]; first | done | rfl) | ( rw [show max 0 (s 4 - s (20 + x.toNat)) = 0 from by omega]; first | done | rfl) | (exfalso; omega))))))) (by (by_cases zq0 : ¬ (0 ≤ x ∧ x < s 0) <;> first | (rw [if_pos zq0]; first | done | (first | done | omega | ( rfl) | (exfalso; omega))) | (rw [if_neg zq0]; first | done | (by_cases zq1 : s (8 + x.toNat) ≠ 1 <;> first | (rw [if_pos zq1]; first | done | (first | done | omega | ( rfl) | (exfalso; omega))) | (rw [if_neg zq1]; first | done | (first | done | omega | ( rfl) | (exfalso; omega))))))) dX6_learn_9
set_option maxHeartbeats 4000000 in
set_option maxRecDepth 100000 in
theorem kX6_propose (l : Launch) (D : va_G) (cI cV : ClassId) (b : Nat → Nat) (s pa he : Nat → Int) (np ru : Int) (t : Nat → Int) (ty at_ rd : Int) (x : Int) (y : Int) (hM : MS s) (hru : ru = 0 ∨ ru = 1) (hnp : 0 ≤ np ∧ np ≤ 5) (r_x : rg x) (r_y : rg y) (h24 : s 2 ≤ s 4) : MM l yX6_propose wsX6_propose 4 82 [.ref (b 0), .int (iI (x)), .int (iI (y))] (modw cI b s pa he np ru t ty at_ rd) (modw cI b (if ¬ (0 ≤ x ∧ x < s 0) ∨ ¬ (0 ≤ y ∧ y ≤ 999) then (s) else (if ¬ ((seatL (fun i => s (32 + i)) (x) (s 1).toNat ≠ -9 ∨ seatL (fun i => s ((if s 5 ≠ -9 then (37 : Int) else 32).toNat + i)) (x) (s 1).toNat ≠ -9) ∧ s (8 + x.toNat) = 1 ∧ s (20 + x.toNat) = s 3) then (s) else (if s 3 = 60 then (s) else (mgS ((wtS s x y) 3 - (wtS s x y) 4).toNat (wtS s x y))))) (if ¬ (0 ≤ x ∧ x < s 0) ∨ ¬ (0 ≤ y ∧ y ≤ 999) then (pa) else (if ¬ ((seatL (fun i => s (32 + i)) (x) (s 1).toNat ≠ -9 ∨ seatL (fun i => s ((if s 5 ≠ -9 then (37 : Int) else 32).toNat + i)) (x) (s 1).toNat ≠ -9) ∧ s (8 + x.toNat) = 1 ∧ s (20 + x.toNat) = s 3) then (pa) else (if s 3 = 60 then (pa) else (if ru = 0 then actP s pa np else pa)))) he (if ¬ (0 ≤ x ∧ x < s 0) ∨ ¬ (0 ≤ y ∧ y ≤ 999) then (np) else (if ¬ ((seatL (fun i => s (32 + i)) (x) (s 1).toNat ≠ -9 ∨ seatL (fun i => s ((if s 5 ≠ -9 then (37 : Int) else 32).toNat + i)) (x) (s 1).toNat ≠ -9) ∧ s (8 + x.toNat) = 1 ∧ s (20 + x.toNat) = s 3) then (np) else (if s 3 = 60 then (np) else (if ru = 0 then actN np + 1 else np)))) ru t ty at_ rd) D cI cV (some (.int (iI (if ¬ (0 ≤ x ∧ x < s 0) ∨ ¬ (0 ≤ y ∧ y ≤ 999) then (-1) else (if ¬ ((seatL (fun i => s (32 + i)) (x) (s 1).toNat ≠ -9 ∨ seatL (fun i => s ((if s 5 ≠ -9 then (37 : Int) else 32).toNat + i)) (x) (s 1).toNat ≠ -9) ∧ s (8 + x.toNat) = 1 ∧ s (20 + x.toNat) = s 3) then (-2) else (if s 3 = 60 then (-3) else (if (mgS ((wtS s x y) 3 - (wtS s x y) 4).toNat (wtS s x y)) 4 - (wtS s x y) 4 < 0 then (-9) else (s 3)))))))) := by
  refine MM.of (cc := cX6_propose) (maxL := 4) (ret := (some .int)) (by decide) rfl (Nat.le_of_ble_eq_true rfl) ?_
  intro p e s0 m below meth c ls hx hb hr hts hown hlocks hml hW hK hl
  have hWk := hW
  have hown : s0.vm.findClass RX6 = some m.cls := hown
  have hin : ∀ w ∈ u_ws RX6 TX6 9, w ∈ wsX6_propose := by decide +kernel
  have hl : lv_has ls 4 [(0, .ref (b 0)), (1, .int (iI (x))), (2, .int (iI (y)))] := hl
  obtain ⟨hbs, h00, h01, h10, h11, h30, h31, h40, h41, h70, h71, h60, h61, hco, hcn⟩ := id hM
  have hb5 := hbs 5
  have hb2 := hbs 2
  refine lv_aload_n hx hb dX6_propose_0 rfl (lv_at hl 0 rfl) ?_
  refine lv_iload_n hx hb dX6_propose_1 rfl (lv_at hl 1 rfl) ?_
  refine p_callV (v := .int (iI (b2i (0 ≤ x ∧ x < s 0)))) (ci := 6) (n := 1) (As := [.int (iI (x))]) (rest := []) ⟨hx, hb, hml, hown, hts⟩ hK (kX6_isVillager l D cI cV b s pa he np ru t ty at_ rd x hM (by omega)) hW.1 rfl rfl gX6_propose_X6_isVillager rfl (by decide +kernel) ⟨Nat.le_of_ble_eq_true rfl, Nat.le_of_ble_eq_true rfl⟩ rfl hl.1 (Nat.le_of_ble_eq_true rfl) dX6_propose_2 ⟨Nat.zero_le _, Nat.zero_le _⟩ rfl ?_
  refine j_beq (tgt := 19) hx hb dX6_propose_5 (by decide) (fun c1 => ?_) (fun c1 => ?_)
  · refine j_c hx hb dX6_propose_19 ?_
    exact m_iret hx hb hr hlocks hW (by (by_cases zq0 : ¬ (0 ≤ x ∧ x < s 0) ∨ ¬ (0 ≤ y ∧ y ≤ 999) <;> first | (simp only [if_pos zq0]; first | done | (first | rfl | ( rfl) | (exfalso; omega))) | (simp only [if_neg zq0]; first | done | (by_cases zq1 : ¬ ((seatL (fun i => s (32 + i)) (x) (s 1).toNat ≠ -9 ∨ seatL (fun i => s ((if s 5 ≠ -9 then (37 : Int) else 32).toNat + i)) (x) (s 1).toNat ≠ -9) ∧ s (8 + x.toNat) = 1 ∧ s (20 + x.toNat) = s 3) <;> first | (simp only [if_pos zq1]; first | done | (first | rfl | ( rfl) | (exfalso; omega))) | (simp only [if_neg zq1]; first | done | (by_cases zq2 : s 3 = 60 <;> first | (simp only [if_pos zq2]; first | done | (first | rfl | ( rfl) | (exfalso; omega))) | (simp only [if_neg zq2]; first | done | (first | rfl | ( rfl) | (exfalso; omega))))))))) (by (by_cases zq0 : ¬ (0 ≤ x ∧ x < s 0) ∨ ¬ (0 ≤ y ∧ y ≤ 999) <;> first | (rw [if_pos zq0]; first | done | (first | done | omega | ( rfl) | ( omega) | (exfalso; omega) | ( exfalso; omega))) | (rw [if_neg zq0]; first | done | (by_cases zq1 : ¬ ((seatL (fun i => s (32 + i)) (x) (s 1).toNat ≠ -9 ∨ seatL (fun i => s ((if s 5 ≠ -9 then (37 : Int) else 32).toNat + i)) (x) (s 1).toNat ≠ -9) ∧ s (8 + x.toNat) = 1 ∧ s (20 + x.toNat) = s 3) <;> first | (rw [if_pos zq1]; first | done | (first | done | omega | ( rfl) | ( omega) | (exfalso; omega) | ( exfalso; omega))) | (rw [if_neg zq1]; first | done | (by_cases zq2 : s 3 = 60 <;> first | (rw [if_pos zq2]; first | done | (first | done | omega | ( rfl) | ( omega) | (exfalso; omega) | ( exfalso; omega))) | (rw [if_neg zq2]; first | done | (by_cases zq3 : (mgS ((wtS s x y) 3 - (wtS s x y) 4).toNat (wtS s x y)) 4 - (wtS s x y) 4 < 0 <;> first | (rw [if_pos zq3]; first | done | (first | done | omega | ( rfl) | ( omega) | (exfalso; omega) | ( exfalso; omega))) | (rw [if_neg zq3]; first | done | (first | done | omega | ( rfl) | ( omega) | (exfalso; omega) | ( exfalso; omega))))))))))) dX6_propose_20
  · refine lv_iload_n hx hb dX6_propose_8 rfl (lv_at hl 2 rfl) ?_
    refine j_c hx hb dX6_propose_9 ?_
    refine j_si hx hb dX6_propose_10 rfl ?_
    refine p_callS (v := .int (iI (b2i ((0 : Int) ≤ y ∧ y ≤ (999 : Int))))) (n := 3) (w := []) (As := [.int (iI (y)), .int (iI (0)), .int (iI (999))]) (rest := []) ⟨hx, hb, hml, hown, hts⟩ hK (kX6_in l D cI cV y 0 999 (by omega) (by omega) (by omega)) (fun k q h => by simp at h) gX6_propose_X6_in rfl (by decide +kernel) ⟨Nat.le_of_ble_eq_true rfl, Nat.le_of_ble_eq_true rfl⟩ rfl hl.1 (Nat.le_of_ble_eq_true rfl) dX6_propose_13 ⟨Nat.zero_le _, Nat.zero_le _⟩ rfl ?_
    refine j_bne (tgt := 21) hx hb dX6_propose_16 (by decide) (fun c2 => ?_) (fun c2 => ?_)
    · refine lv_aload_n hx hb dX6_propose_21 rfl (lv_at hl 0 rfl) ?_
      refine lv_iload_n hx hb dX6_propose_22 rfl (lv_at hl 1 rfl) ?_
      refine p_callV (v := .int (iI (b2i ((seatL (fun i => s (32 + i)) (x) (s 1).toNat ≠ -9 ∨ seatL (fun i => s ((if s 5 ≠ -9 then (37 : Int) else 32).toNat + i)) (x) (s 1).toNat ≠ -9) ∧ s (8 + x.toNat) = 1 ∧ s (20 + x.toNat) = s 3)))) (ci := 6) (n := 1) (As := [.int (iI (x))]) (rest := []) ⟨hx, hb, hml, hown, hts⟩ hK (kX6_canWrite l D cI cV b s pa he np ru t ty at_ rd x hM (by omega)) hW.1 rfl rfl gX6_propose_X6_canWrite rfl (by decide +kernel) ⟨Nat.le_of_ble_eq_true rfl, Nat.le_of_ble_eq_true rfl⟩ rfl hl.1 (Nat.le_of_ble_eq_true rfl) dX6_propose_23 ⟨Nat.zero_le _, Nat.zero_le _⟩ rfl ?_
      refine j_bne (tgt := 32) hx hb dX6_propose_26 (by decide) (fun c3 => ?_) (fun c3 => ?_)
      · refine lv_aload_n hx hb dX6_propose_32 rfl (lv_at hl 0 rfl) ?_
        refine Mg0 hx hb hts hin hown hK hW.1 (by decide +kernel) dX6_propose_33 ?_
        refine j_c hx hb dX6_propose_36 ?_
        refine Ma0 hx hb hK hW.1 (by omega) dX6_propose_37 ?_
        rw [show (3 : Int).toNat = 3 from by omega]
        have r3_32 : bd (s 3) := hbs _
        refine j_bi hx hb dX6_propose_38 rfl ?_
        refine j_ine (tgt := 46) hx hb (by omega) (by omega) dX6_propose_40 (by decide) (fun c4 => ?_) (fun c4 => ?_)
        · refine lv_aload_n hx hb dX6_propose_46 rfl (lv_at hl 0 rfl) ?_
          refine m_callV (v := none) (ci := 6) (n := 0) (As := []) (rest := []) (st2 := []) (w2 := modw cI b s (if ru = 0 then (actP s pa np) else (pa)) he (if ru = 0 then (actN np + 1) else (np)) ru t ty at_ rd) (pre := []) (post := []) ⟨hx, hb, hml, hown, hts⟩ hK hW (kX6_acts l D cI cV b s pa he np ru t ty at_ rd (by omega) (by omega)) (by rw [List.nil_append, List.append_nil]) (by rw [List.nil_append, List.append_nil]) rfl rfl rfl gX6_propose_X6_acts rfl (by decide +kernel) ⟨Nat.le_of_ble_eq_true rfl, Nat.le_of_ble_eq_true rfl⟩ rfl hl.1 (Nat.le_of_ble_eq_true rfl) dX6_propose_47 ⟨Nat.zero_le _, Nat.zero_le _⟩ rfl rfl (fun H locs hW => ?_)
          obtain ⟨pa_1, epa_1⟩ : ∃ zz_, zz_ = if ru = 0 then (actP s pa np) else (pa) := ⟨_, rfl⟩
          rw [← epa_1] at hW
          refine lv_aload_n hx hb dX6_propose_50 rfl (lv_at hl 0 rfl) ?_
          refine lv_iload_n hx hb dX6_propose_51 rfl (lv_at hl 1 rfl) ?_
          refine lv_iload_n hx hb dX6_propose_52 rfl (lv_at hl 2 rfl) ?_
          refine m_callV (v := some (.int (iI (s 3)))) (ci := 6) (n := 2) (As := [.int (iI (x)), .int (iI (y))]) (rest := []) (st2 := [.int (iI (s 3))]) (w2 := modw cI b (wtS s x y) pa_1 he (if ru = 0 then (actN np + 1) else (np)) ru t ty at_ rd) (pre := []) (post := []) ⟨hx, hb, hml, hown, hts⟩ hK hW (kX6_writes l D cI cV b s pa_1 he (if ru = 0 then (actN np + 1) else (np)) ru t ty at_ rd x y hM (by omega) (by omega)) (by rw [List.nil_append, List.append_nil]) (by rw [List.nil_append, List.append_nil]) rfl rfl rfl gX6_propose_X6_writes rfl (by decide +kernel) ⟨Nat.le_of_ble_eq_true rfl, Nat.le_of_ble_eq_true rfl⟩ rfl hl.1 (Nat.le_of_ble_eq_true rfl) dX6_propose_53 ⟨Nat.zero_le _, Nat.zero_le _⟩ rfl rfl (fun H locs hW => ?_)
          obtain ⟨s_2, es_2⟩ : ∃ zz_, zz_ = wtS s x y := ⟨_, rfl⟩
          rw [← es_2] at hW
          have hM : MS s_2 := by rw [es_2]; exact MS_wt hM (by omega) (by omega) (by omega) (by omega)
          have h24 : s_2 2 ≤ s_2 4 := by rw [es_2, wtS_ne (by omega) (by omega), wtS_ne (by omega) (by omega)]; omega
          refine lv_istore_n (lv' := [(3, .int (iI (s 3))), (0, .ref (b 0)), (1, .int (iI (x))), (2, .int (iI (y)))]) hx hb dX6_propose_56 rfl hl (by decide) rfl (fun ls hl => ?_)
          refine lv_aload_n hx hb dX6_propose_57 rfl (lv_at hl 1 rfl) ?_
          refine m_callV (v := some (.int (iI ((mgS (s_2 3 - s_2 4).toNat s_2) 4 - s_2 4)))) (ci := 6) (n := 0) (As := []) (rest := []) (st2 := [.int (iI ((mgS (s_2 3 - s_2 4).toNat s_2) 4 - s_2 4))]) (w2 := modw cI b (mgS (s_2 3 - s_2 4).toNat s_2) pa_1 he (if ru = 0 then (actN np + 1) else (np)) ru t ty at_ rd) (pre := []) (post := []) ⟨hx, hb, hml, hown, hts⟩ hK hW (kX6_agrees l D cI cV b s_2 pa_1 he (if ru = 0 then (actN np + 1) else (np)) ru t ty at_ rd hM h24) (by rw [List.nil_append, List.append_nil]) (by rw [List.nil_append, List.append_nil]) rfl rfl rfl gX6_propose_X6_agrees rfl (by decide +kernel) ⟨Nat.le_of_ble_eq_true rfl, Nat.le_of_ble_eq_true rfl⟩ rfl hl.1 (Nat.le_of_ble_eq_true rfl) dX6_propose_58 ⟨Nat.zero_le _, Nat.zero_le _⟩ rfl rfl (fun H locs hW => ?_)
          obtain ⟨s_3, es_3⟩ : ∃ zz_, zz_ = mgS (s_2 3 - s_2 4).toNat s_2 := ⟨_, rfl⟩
          rw [← es_3] at hW
          have hmgr := mg_rg hM h24 (s_2 3 - s_2 4).toNat
          refine j_zge (tgt := 69) hx hb (by omega) dX6_propose_61 (by decide) (fun c5 => ?_) (fun c5 => ?_)
          · refine lv_iload_n hx hb dX6_propose_69 rfl (lv_at hl 0 rfl) ?_
            exact m_iret hx hb hr hlocks hW (by (by_cases zq0 : ¬ (0 ≤ x ∧ x < s 0) ∨ ¬ (0 ≤ y ∧ y ≤ 999) <;> first | (simp only [if_pos zq0]; first | done | (first | rfl | (subst es_3; subst es_2; subst epa_1; rfl) | (exfalso; omega))) | (simp only [if_neg zq0]; first | done | (by_cases zq1 : ¬ ((seatL (fun i => s (32 + i)) (x) (s 1).toNat ≠ -9 ∨ seatL (fun i => s ((if s 5 ≠ -9 then (37 : Int) else 32).toNat + i)) (x) (s 1).toNat ≠ -9) ∧ s (8 + x.toNat) = 1 ∧ s (20 + x.toNat) = s 3) <;> first | (simp only [if_pos zq1]; first | done | (first | rfl | (subst es_3; subst es_2; subst epa_1; rfl) | (exfalso; omega))) | (simp only [if_neg zq1]; first | done | (by_cases zq2 : s 3 = 60 <;> first | (simp only [if_pos zq2]; first | done | (first | rfl | (subst es_3; subst es_2; subst epa_1; rfl) | (exfalso; omega))) | (simp only [if_neg zq2]; first | done | (first | rfl | (subst es_3; subst es_2; subst epa_1; rfl) | (exfalso; omega))))))))) (by (by_cases zq0 : ¬ (0 ≤ x ∧ x < s 0) ∨ ¬ (0 ≤ y ∧ y ≤ 999) <;> first | (rw [if_pos zq0]; first | done | (first | done | omega | (subst es_3; subst es_2; subst epa_1; rfl) | (subst es_3; subst es_2; subst epa_1; omega) | (exfalso; omega) | (subst es_3; subst es_2; subst epa_1; exfalso; omega))) | (rw [if_neg zq0]; first | done | (by_cases zq1 : ¬ ((seatL (fun i => s (32 + i)) (x) (s 1).toNat ≠ -9 ∨ seatL (fun i => s ((if s 5 ≠ -9 then (37 : Int) else 32).toNat + i)) (x) (s 1).toNat ≠ -9) ∧ s (8 + x.toNat) = 1 ∧ s (20 + x.toNat) = s 3) <;> first | (rw [if_pos zq1]; first | done | (first | done | omega | (subst es_3; subst es_2; subst epa_1; rfl) | (subst es_3; subst es_2; subst epa_1; omega) | (exfalso; omega) | (subst es_3; subst es_2; subst epa_1; exfalso; omega))) | (rw [if_neg zq1]; first | done | (by_cases zq2 : s 3 = 60 <;> first | (rw [if_pos zq2]; first | done | (first | done | omega | (subst es_3; subst es_2; subst epa_1; rfl) | (subst es_3; subst es_2; subst epa_1; omega) | (exfalso; omega) | (subst es_3; subst es_2; subst epa_1; exfalso; omega))) | (rw [if_neg zq2]; first | done | (by_cases zq3 : (mgS ((wtS s x y) 3 - (wtS s x y) 4).toNat (wtS s x y)) 4 - (wtS s x y) 4 < 0 <;> first | (rw [if_pos zq3]; first | done | (first | done | omega | (subst es_3; subst es_2; subst epa_1; rfl) | (subst es_3; subst es_2; subst epa_1; omega) | (exfalso; omega) | (subst es_3; subst es_2; subst epa_1; exfalso; omega))) | (rw [if_neg zq3]; first | done | (first | done | omega | (subst es_3; subst es_2; subst epa_1; rfl) | (subst es_3; subst es_2; subst epa_1; omega) | (exfalso; omega) | (subst es_3; subst es_2; subst epa_1; exfalso; omega))))))))))) dX6_propose_70
          · refine j_bi hx hb dX6_propose_64 rfl ?_
            refine lv_goto (tgt := 70) hx hb dX6_propose_66 (by decide) ?_
            exact m_iret hx hb hr hlocks hW (by (by_cases zq0 : ¬ (0 ≤ x ∧ x < s 0) ∨ ¬ (0 ≤ y ∧ y ≤ 999) <;> first | (simp only [if_pos zq0]; first | done | (first | rfl | (subst es_3; subst es_2; subst epa_1; rfl) | (exfalso; omega))) | (simp only [if_neg zq0]; first | done | (by_cases zq1 : ¬ ((seatL (fun i => s (32 + i)) (x) (s 1).toNat ≠ -9 ∨ seatL (fun i => s ((if s 5 ≠ -9 then (37 : Int) else 32).toNat + i)) (x) (s 1).toNat ≠ -9) ∧ s (8 + x.toNat) = 1 ∧ s (20 + x.toNat) = s 3) <;> first | (simp only [if_pos zq1]; first | done | (first | rfl | (subst es_3; subst es_2; subst epa_1; rfl) | (exfalso; omega))) | (simp only [if_neg zq1]; first | done | (by_cases zq2 : s 3 = 60 <;> first | (simp only [if_pos zq2]; first | done | (first | rfl | (subst es_3; subst es_2; subst epa_1; rfl) | (exfalso; omega))) | (simp only [if_neg zq2]; first | done | (first | rfl | (subst es_3; subst es_2; subst epa_1; rfl) | (exfalso; omega))))))))) (by (by_cases zq0 : ¬ (0 ≤ x ∧ x < s 0) ∨ ¬ (0 ≤ y ∧ y ≤ 999) <;> first | (rw [if_pos zq0]; first | done | (first | done | omega | (subst es_3; subst es_2; subst epa_1; rfl) | (subst es_3; subst es_2; subst epa_1; omega) | (exfalso; omega) | (subst es_3; subst es_2; subst epa_1; exfalso; omega))) | (rw [if_neg zq0]; first | done | (by_cases zq1 : ¬ ((seatL (fun i => s (32 + i)) (x) (s 1).toNat ≠ -9 ∨ seatL (fun i => s ((if s 5 ≠ -9 then (37 : Int) else 32).toNat + i)) (x) (s 1).toNat ≠ -9) ∧ s (8 + x.toNat) = 1 ∧ s (20 + x.toNat) = s 3) <;> first | (rw [if_pos zq1]; first | done | (first | done | omega | (subst es_3; subst es_2; subst epa_1; rfl) | (subst es_3; subst es_2; subst epa_1; omega) | (exfalso; omega) | (subst es_3; subst es_2; subst epa_1; exfalso; omega))) | (rw [if_neg zq1]; first | done | (by_cases zq2 : s 3 = 60 <;> first | (rw [if_pos zq2]; first | done | (first | done | omega | (subst es_3; subst es_2; subst epa_1; rfl) | (subst es_3; subst es_2; subst epa_1; omega) | (exfalso; omega) | (subst es_3; subst es_2; subst epa_1; exfalso; omega))) | (rw [if_neg zq2]; first | done | (by_cases zq3 : (mgS ((wtS s x y) 3 - (wtS s x y) 4).toNat (wtS s x y)) 4 - (wtS s x y) 4 < 0 <;> first | (rw [if_pos zq3]; first | done | (first | done | omega | (subst es_3; subst es_2; subst epa_1; rfl) | (subst es_3; subst es_2; subst epa_1; omega) | (exfalso; omega) | (subst es_3; subst es_2; subst epa_1; exfalso; omega))) | (rw [if_neg zq3]; first | done | (first | done | omega | (subst es_3; subst es_2; subst epa_1; rfl) | (subst es_3; subst es_2; subst epa_1; omega) | (exfalso; omega) | (subst es_3; subst es_2; subst epa_1; exfalso; omega))))))))))) dX6_propose_70
        · refine j_bi hx hb dX6_propose_43 rfl ?_
          exact m_iret hx hb hr hlocks hW (by (by_cases zq0 : ¬ (0 ≤ x ∧ x < s 0) ∨ ¬ (0 ≤ y ∧ y ≤ 999) <;> first | (simp only [if_pos zq0]; first | done | (first | rfl | ( rfl) | (exfalso; omega))) | (simp only [if_neg zq0]; first | done | (by_cases zq1 : ¬ ((seatL (fun i => s (32 + i)) (x) (s 1).toNat ≠ -9 ∨ seatL (fun i => s ((if s 5 ≠ -9 then (37 : Int) else 32).toNat + i)) (x) (s 1).toNat ≠ -9) ∧ s (8 + x.toNat) = 1 ∧ s (20 + x.toNat) = s 3) <;> first | (simp only [if_pos zq1]; first | done | (first | rfl | ( rfl) | (exfalso; omega))) | (simp only [if_neg zq1]; first | done | (by_cases zq2 : s 3 = 60 <;> first | (simp only [if_pos zq2]; first | done | (first | rfl | ( rfl) | (exfalso; omega))) | (simp only [if_neg zq2]; first | done | (first | rfl | ( rfl) | (exfalso; omega))))))))) (by (by_cases zq0 : ¬ (0 ≤ x ∧ x < s 0) ∨ ¬ (0 ≤ y ∧ y ≤ 999) <;> first | (rw [if_pos zq0]; first | done | (first | done | omega | ( rfl) | ( omega) | (exfalso; omega) | ( exfalso; omega))) | (rw [if_neg zq0]; first | done | (by_cases zq1 : ¬ ((seatL (fun i => s (32 + i)) (x) (s 1).toNat ≠ -9 ∨ seatL (fun i => s ((if s 5 ≠ -9 then (37 : Int) else 32).toNat + i)) (x) (s 1).toNat ≠ -9) ∧ s (8 + x.toNat) = 1 ∧ s (20 + x.toNat) = s 3) <;> first | (rw [if_pos zq1]; first | done | (first | done | omega | ( rfl) | ( omega) | (exfalso; omega) | ( exfalso; omega))) | (rw [if_neg zq1]; first | done | (by_cases zq2 : s 3 = 60 <;> first | (rw [if_pos zq2]; first | done | (first | done | omega | ( rfl) | ( omega) | (exfalso; omega) | ( exfalso; omega))) | (rw [if_neg zq2]; first | done | (by_cases zq3 : (mgS ((wtS s x y) 3 - (wtS s x y) 4).toNat (wtS s x y)) 4 - (wtS s x y) 4 < 0 <;> first | (rw [if_pos zq3]; first | done | (first | done | omega | ( rfl) | ( omega) | (exfalso; omega) | ( exfalso; omega))) | (rw [if_neg zq3]; first | done | (first | done | omega | ( rfl) | ( omega) | (exfalso; omega) | ( exfalso; omega))))))))))) dX6_propose_45
      · refine j_bi hx hb dX6_propose_29 rfl ?_
        exact m_iret hx hb hr hlocks hW (by (by_cases zq0 : ¬ (0 ≤ x ∧ x < s 0) ∨ ¬ (0 ≤ y ∧ y ≤ 999) <;> first | (simp only [if_pos zq0]; first | done | (first | rfl | ( rfl) | (exfalso; omega))) | (simp only [if_neg zq0]; first | done | (by_cases zq1 : ¬ ((seatL (fun i => s (32 + i)) (x) (s 1).toNat ≠ -9 ∨ seatL (fun i => s ((if s 5 ≠ -9 then (37 : Int) else 32).toNat + i)) (x) (s 1).toNat ≠ -9) ∧ s (8 + x.toNat) = 1 ∧ s (20 + x.toNat) = s 3) <;> first | (simp only [if_pos zq1]; first | done | (first | rfl | ( rfl) | (exfalso; omega))) | (simp only [if_neg zq1]; first | done | (by_cases zq2 : s 3 = 60 <;> first | (simp only [if_pos zq2]; first | done | (first | rfl | ( rfl) | (exfalso; omega))) | (simp only [if_neg zq2]; first | done | (first | rfl | ( rfl) | (exfalso; omega))))))))) (by (by_cases zq0 : ¬ (0 ≤ x ∧ x < s 0) ∨ ¬ (0 ≤ y ∧ y ≤ 999) <;> first | (rw [if_pos zq0]; first | done | (first | done | omega | ( rfl) | ( omega) | (exfalso; omega) | ( exfalso; omega))) | (rw [if_neg zq0]; first | done | (by_cases zq1 : ¬ ((seatL (fun i => s (32 + i)) (x) (s 1).toNat ≠ -9 ∨ seatL (fun i => s ((if s 5 ≠ -9 then (37 : Int) else 32).toNat + i)) (x) (s 1).toNat ≠ -9) ∧ s (8 + x.toNat) = 1 ∧ s (20 + x.toNat) = s 3) <;> first | (rw [if_pos zq1]; first | done | (first | done | omega | ( rfl) | ( omega) | (exfalso; omega) | ( exfalso; omega))) | (rw [if_neg zq1]; first | done | (by_cases zq2 : s 3 = 60 <;> first | (rw [if_pos zq2]; first | done | (first | done | omega | ( rfl) | ( omega) | (exfalso; omega) | ( exfalso; omega))) | (rw [if_neg zq2]; first | done | (by_cases zq3 : (mgS ((wtS s x y) 3 - (wtS s x y) 4).toNat (wtS s x y)) 4 - (wtS s x y) 4 < 0 <;> first | (rw [if_pos zq3]; first | done | (first | done | omega | ( rfl) | ( omega) | (exfalso; omega) | ( exfalso; omega))) | (rw [if_neg zq3]; first | done | (first | done | omega | ( rfl) | ( omega) | (exfalso; omega) | ( exfalso; omega))))))))))) dX6_propose_31
    · refine j_c hx hb dX6_propose_19 ?_
      exact m_iret hx hb hr hlocks hW (by (by_cases zq0 : ¬ (0 ≤ x ∧ x < s 0) ∨ ¬ (0 ≤ y ∧ y ≤ 999) <;> first | (simp only [if_pos zq0]; first | done | (first | rfl | ( rfl) | (exfalso; omega))) | (simp only [if_neg zq0]; first | done | (by_cases zq1 : ¬ ((seatL (fun i => s (32 + i)) (x) (s 1).toNat ≠ -9 ∨ seatL (fun i => s ((if s 5 ≠ -9 then (37 : Int) else 32).toNat + i)) (x) (s 1).toNat ≠ -9) ∧ s (8 + x.toNat) = 1 ∧ s (20 + x.toNat) = s 3) <;> first | (simp only [if_pos zq1]; first | done | (first | rfl | ( rfl) | (exfalso; omega))) | (simp only [if_neg zq1]; first | done | (by_cases zq2 : s 3 = 60 <;> first | (simp only [if_pos zq2]; first | done | (first | rfl | ( rfl) | (exfalso; omega))) | (simp only [if_neg zq2]; first | done | (first | rfl | ( rfl) | (exfalso; omega))))))))) (by (by_cases zq0 : ¬ (0 ≤ x ∧ x < s 0) ∨ ¬ (0 ≤ y ∧ y ≤ 999) <;> first | (rw [if_pos zq0]; first | done | (first | done | omega | ( rfl) | ( omega) | (exfalso; omega) | ( exfalso; omega))) | (rw [if_neg zq0]; first | done | (by_cases zq1 : ¬ ((seatL (fun i => s (32 + i)) (x) (s 1).toNat ≠ -9 ∨ seatL (fun i => s ((if s 5 ≠ -9 then (37 : Int) else 32).toNat + i)) (x) (s 1).toNat ≠ -9) ∧ s (8 + x.toNat) = 1 ∧ s (20 + x.toNat) = s 3) <;> first | (rw [if_pos zq1]; first | done | (first | done | omega | ( rfl) | ( omega) | (exfalso; omega) | ( exfalso; omega))) | (rw [if_neg zq1]; first | done | (by_cases zq2 : s 3 = 60 <;> first | (rw [if_pos zq2]; first | done | (first | done | omega | ( rfl) | ( omega) | (exfalso; omega) | ( exfalso; omega))) | (rw [if_neg zq2]; first | done | (by_cases zq3 : (mgS ((wtS s x y) 3 - (wtS s x y) 4).toNat (wtS s x y)) 4 - (wtS s x y) 4 < 0 <;> first | (rw [if_pos zq3]; first | done | (first | done | omega | ( rfl) | ( omega) | (exfalso; omega) | ( exfalso; omega))) | (rw [if_neg zq3]; first | done | (first | done | omega | ( rfl) | ( omega) | (exfalso; omega) | ( exfalso; omega))))))))))) dX6_propose_20
set_option maxHeartbeats 4000000 in
set_option maxRecDepth 100000 in
theorem kX6_append (l : Launch) (D : va_G) (cI cV : ClassId) (b : Nat → Nat) (s pa he : Nat → Int) (np ru : Int) (t : Nat → Int) (ty at_ rd : Int) (x : Int) (r_x : rg x) (hT : MT t ty) : MM l yX6_append wsX6_append 1 22 [.ref (b 0), .int (iI (x))] (modw cI b s pa he np ru t ty at_ rd) (modw cI b s pa he np ru (if ¬ (1 ≤ x ∧ x ≤ 255) then (t) else (if ty = 60 then (t) else (up t ty.toNat x))) (if ¬ (1 ≤ x ∧ x ≤ 255) then (ty) else (if ty = 60 then (ty) else (ty + 1))) at_ rd) D cI cV (some (.int (iI (if ¬ (1 ≤ x ∧ x ≤ 255) then (-1) else (if ty = 60 then (-3) else (ty + 1)))))) := by
  refine MM.of (cc := cX6_append) (maxL := 2) (ret := (some .int)) (by decide) rfl (Nat.le_of_ble_eq_true rfl) ?_
  intro p e s0 m below meth c ls hx hb hr hts hown hlocks hml hW hK hl
  have hWk := hW
  have hown : s0.vm.findClass RX6 = some m.cls := hown
  have hin : ∀ w ∈ u_ws RX6 TX6 9, w ∈ wsX6_append := by decide +kernel
  have hl : lv_has ls 2 [(0, .ref (b 0)), (1, .int (iI (x)))] := hl
  obtain ⟨hbt, ht0, ht1⟩ := id hT
  refine lv_iload_n hx hb dX6_append_0 rfl (lv_at hl 1 rfl) ?_
  refine j_c hx hb dX6_append_1 ?_
  refine j_si hx hb dX6_append_2 rfl ?_
  refine p_callS (v := .int (iI (b2i ((1 : Int) ≤ x ∧ x ≤ (255 : Int))))) (n := 3) (w := []) (As := [.int (iI (x)), .int (iI (1)), .int (iI (255))]) (rest := []) ⟨hx, hb, hml, hown, hts⟩ hK (kX6_in l D cI cV x 1 255 (by omega) (by omega) (by omega)) (fun k q h => by simp at h) gX6_append_X6_in rfl (by decide +kernel) ⟨Nat.le_of_ble_eq_true rfl, Nat.le_of_ble_eq_true rfl⟩ rfl hl.1 (Nat.le_of_ble_eq_true rfl) dX6_append_5 ⟨Nat.zero_le _, Nat.zero_le _⟩ rfl ?_
  refine j_bne (tgt := 13) hx hb dX6_append_8 (by decide) (fun c1 => ?_) (fun c1 => ?_)
  · refine lv_aload_n hx hb dX6_append_13 rfl (lv_at hl 0 rfl) ?_
    refine Mg6 hx hb hts hin hown hK hW.1 (by decide +kernel) dX6_append_14 ?_
    refine j_bi hx hb dX6_append_17 rfl ?_
    refine j_ine (tgt := 25) hx hb (by omega) (by omega) dX6_append_19 (by decide) (fun c2 => ?_) (fun c2 => ?_)
    · refine lv_aload_n hx hb dX6_append_25 rfl (lv_at hl 0 rfl) ?_
      refine Mg5 hx hb hts hin hown hK hW.1 (by decide +kernel) dX6_append_26 ?_
      refine lv_aload_n hx hb dX6_append_29 rfl (lv_at hl 0 rfl) ?_
      refine Mg6 hx hb hts hin hown hK hW.1 (by decide +kernel) dX6_append_30 ?_
      refine lv_iload_n hx hb dX6_append_33 rfl (lv_at hl 1 rfl) ?_
      refine Ms3 hx hb hK hW (by omega) dX6_append_34 (fun H locs hW => ?_)
      obtain ⟨t_1, et_1⟩ : ∃ zz_, zz_ = up t (ty.toNat) (x) := ⟨_, rfl⟩
      rw [← et_1] at hW
      refine lv_aload_n hx hb dX6_append_35 rfl (lv_at hl 0 rfl) ?_
      refine lv_dup hx hb dX6_append_36 rfl ?_
      refine Mg6 hx hb hts hin hown hK hW.1 (by decide +kernel) dX6_append_37 ?_
      refine j_c hx hb dX6_append_40 ?_
      refine j_add hx hb dX6_append_41 ?_
      refine Mp6 hx hb hts hin hown hK hW (by decide +kernel) dX6_append_42 (fun H locs hW => ?_)
      refine lv_aload_n hx hb dX6_append_45 rfl (lv_at hl 0 rfl) ?_
      refine Mg6 hx hb hts hin hown hK hW.1 (by decide +kernel) dX6_append_46 ?_
      exact m_iret hx hb hr hlocks hW (by (by_cases zq0 : ¬ (1 ≤ x ∧ x ≤ 255) <;> first | (simp only [if_pos zq0]; first | done | (first | rfl | (subst et_1; rfl) | (exfalso; omega))) | (simp only [if_neg zq0]; first | done | (by_cases zq1 : ty = 60 <;> first | (simp only [if_pos zq1]; first | done | (first | rfl | (subst et_1; rfl) | (exfalso; omega))) | (simp only [if_neg zq1]; first | done | (first | rfl | (subst et_1; rfl) | (exfalso; omega))))))) (by (by_cases zq0 : ¬ (1 ≤ x ∧ x ≤ 255) <;> first | (rw [if_pos zq0]; first | done | (first | omega | rfl | (exfalso; omega))) | (rw [if_neg zq0]; first | done | (by_cases zq1 : ty = 60 <;> first | (rw [if_pos zq1]; first | done | (first | omega | rfl | (exfalso; omega))) | (rw [if_neg zq1]; first | done | (first | omega | rfl | (exfalso; omega))))))) dX6_append_49
    · refine j_bi hx hb dX6_append_22 rfl ?_
      exact m_iret hx hb hr hlocks hW (by (by_cases zq0 : ¬ (1 ≤ x ∧ x ≤ 255) <;> first | (simp only [if_pos zq0]; first | done | (first | rfl | ( rfl) | (exfalso; omega))) | (simp only [if_neg zq0]; first | done | (by_cases zq1 : ty = 60 <;> first | (simp only [if_pos zq1]; first | done | (first | rfl | ( rfl) | (exfalso; omega))) | (simp only [if_neg zq1]; first | done | (first | rfl | ( rfl) | (exfalso; omega))))))) (by (by_cases zq0 : ¬ (1 ≤ x ∧ x ≤ 255) <;> first | (rw [if_pos zq0]; first | done | (first | omega | rfl | (exfalso; omega))) | (rw [if_neg zq0]; first | done | (by_cases zq1 : ty = 60 <;> first | (rw [if_pos zq1]; first | done | (first | omega | rfl | (exfalso; omega))) | (rw [if_neg zq1]; first | done | (first | omega | rfl | (exfalso; omega))))))) dX6_append_24
  · refine j_c hx hb dX6_append_11 ?_
    exact m_iret hx hb hr hlocks hW (by (by_cases zq0 : ¬ (1 ≤ x ∧ x ≤ 255) <;> first | (simp only [if_pos zq0]; first | done | (first | rfl | ( rfl) | (exfalso; omega))) | (simp only [if_neg zq0]; first | done | (by_cases zq1 : ty = 60 <;> first | (simp only [if_pos zq1]; first | done | (first | rfl | ( rfl) | (exfalso; omega))) | (simp only [if_neg zq1]; first | done | (first | rfl | ( rfl) | (exfalso; omega))))))) (by (by_cases zq0 : ¬ (1 ≤ x ∧ x ≤ 255) <;> first | (rw [if_pos zq0]; first | done | (first | omega | rfl | (exfalso; omega))) | (rw [if_neg zq0]; first | done | (by_cases zq1 : ty = 60 <;> first | (rw [if_pos zq1]; first | done | (first | omega | rfl | (exfalso; omega))) | (rw [if_neg zq1]; first | done | (first | omega | rfl | (exfalso; omega))))))) dX6_append_12
set_option maxHeartbeats 4000000 in
set_option maxRecDepth 100000 in
theorem kX6_clearText (l : Launch) (D : va_G) (cI cV : ClassId) (b : Nat → Nat) (s pa he : Nat → Int) (np ru : Int) (t : Nat → Int) (ty at_ rd : Int)   : MM l yX6_clearText wsX6_clearText 0 0 [.ref (b 0)] (modw cI b s pa he np ru t ty at_ rd) (modw cI b s pa he np ru t 0 at_ rd) D cI cV (some (.int (iI (ty)))) := by
  refine MM.of (cc := cX6_clearText) (maxL := 2) (ret := (some .int)) (by decide) rfl (Nat.le_of_ble_eq_true rfl) ?_
  intro p e s0 m below meth c ls hx hb hr hts hown hlocks hml hW hK hl
  have hWk := hW
  have hown : s0.vm.findClass RX6 = some m.cls := hown
  have hin : ∀ w ∈ u_ws RX6 TX6 9, w ∈ wsX6_clearText := by decide +kernel
  have hl : lv_has ls 2 [(0, .ref (b 0))] := hl
  refine lv_aload_n hx hb dX6_clearText_0 rfl (lv_at hl 0 rfl) ?_
  refine Mg6 hx hb hts hin hown hK hW.1 (by decide +kernel) dX6_clearText_1 ?_
  refine lv_istore_n (lv' := [(1, .int (iI (ty))), (0, .ref (b 0))]) hx hb dX6_clearText_4 rfl hl (by decide) rfl (fun ls hl => ?_)
  refine lv_aload_n hx hb dX6_clearText_5 rfl (lv_at hl 1 rfl) ?_
  refine j_c hx hb dX6_clearText_6 ?_
  refine Mp6 hx hb hts hin hown hK hW (by decide +kernel) dX6_clearText_7 (fun H locs hW => ?_)
  refine lv_iload_n hx hb dX6_clearText_10 rfl (lv_at hl 0 rfl) ?_
  exact m_iret hx hb hr hlocks hW (by first | rfl | ( rfl) | (exfalso; omega)) (by first | rfl | omega | exact (b2i_t (by omega)).symm | exact (b2i_f (by omega)).symm | (simp only [b2i]; (repeat' split) <;> first | rfl | omega | (exfalso; omega))) dX6_clearText_11
