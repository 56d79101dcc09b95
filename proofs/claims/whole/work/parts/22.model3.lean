set_option maxHeartbeats 4000000 in
set_option maxRecDepth 100000 in
theorem kX6_count (l : Launch) (D : va_G) (cI cV : ClassId) (b : Nat → Nat) (s pa he : Nat → Int) (np ru : Int) (t : Nat → Int) (ty at_ rd : Int) (x : Int) (hM : MS s) (r_x : rg x) : PM l yX6_count wsX6_count 2 43 [.ref (b 0), .int (iI (x))] (modw cI b s pa he np ru t ty at_ rd) D cI cV (some (.int (iI (if x = 0 then (s 0) else (if x = 1 then (sm (fun i => s (8 + i)) (s 0).toNat) else (if x = 2 then (s 1) else (if x = 3 then (s 2) else (if x = 4 then (s 3) else (if x = 5 then (s 4) else (if x = 6 then (if s 5 ≠ -9 then 1 else 0) else (if x = 7 then (s 6) else (if x = 8 then (s 7) else (if x = 9 then (sm (fun i => b2i (s (224 + 5 * i) ≠ s (225 + 5 * i))) (s 7).toNat) else (if x = 10 then (np) else (if x = 11 then (ty) else (-1)))))))))))))))) := by
  refine PM.of (cc := cX6_count) (maxL := 2) (ret := (some .int)) (by decide) rfl (Nat.le_of_ble_eq_true rfl) ?_
  intro p e s0 m below meth c ls hx hb hr hts hown hlocks hml hP hK hl
  have hown : s0.vm.findClass RX6 = some m.cls := hown
  have hin : ∀ w ∈ u_ws RX6 TX6 9, w ∈ wsX6_count := by decide +kernel
  have hl : lv_has ls 2 [(0, .ref (b 0)), (1, .int (iI (x)))] := hl
  obtain ⟨hbs, h00, h01, h10, h11, h30, h31, h40, h41, h70, h71, h60, h61, hco, hcn⟩ := id hM
  have hb5 := hbs 5
  have hb2 := hbs 2
  refine lv_iload_n hx hb dX6_count_0 rfl (lv_at hl 1 rfl) ?_
  by_cases c1 : x = 0
  · refine j_tin (k := 0) (off := 63) (tgt := 64) hx hb c1 (by decide) dX6_count_1 (by decide) (by decide) (by decide) (by decide) ?_
    refine lv_aload_n hx hb dX6_count_64 rfl (lv_at hl 0 rfl) ?_
    refine Mg0 hx hb hts hin hown hK hP (by decide +kernel) dX6_count_65 ?_
    refine j_c hx hb dX6_count_68 ?_
    refine Ma0 hx hb hK hP (by omega) dX6_count_69 ?_
    rw [show (0 : Int).toNat = 0 from by omega]
    have r1_19 : bd (s 0) := hbs _
    exact p_iret hx hb hr hlocks (by (by_cases q0 : x = 0 <;> first | (rw [if_pos q0]; first | done | (first | omega | rfl | (exfalso; omega) | (split <;> omega))) | (rw [if_neg q0]; first | done | (by_cases q1 : x = 1 <;> first | (rw [if_pos q1]; first | done | (first | omega | rfl | (exfalso; omega) | (split <;> omega))) | (rw [if_neg q1]; first | done | (by_cases q2 : x = 2 <;> first | (rw [if_pos q2]; first | done | (first | omega | rfl | (exfalso; omega) | (split <;> omega))) | (rw [if_neg q2]; first | done | (by_cases q3 : x = 3 <;> first | (rw [if_pos q3]; first | done | (first | omega | rfl | (exfalso; omega) | (split <;> omega))) | (rw [if_neg q3]; first | done | (by_cases q4 : x = 4 <;> first | (rw [if_pos q4]; first | done | (first | omega | rfl | (exfalso; omega) | (split <;> omega))) | (rw [if_neg q4]; first | done | (by_cases q5 : x = 5 <;> first | (rw [if_pos q5]; first | done | (first | omega | rfl | (exfalso; omega) | (split <;> omega))) | (rw [if_neg q5]; first | done | (by_cases q6 : x = 6 <;> first | (rw [if_pos q6]; first | done | (first | omega | rfl | (exfalso; omega) | (split <;> omega))) | (rw [if_neg q6]; first | done | (by_cases q7 : x = 7 <;> first | (rw [if_pos q7]; first | done | (first | omega | rfl | (exfalso; omega) | (split <;> omega))) | (rw [if_neg q7]; first | done | (by_cases q8 : x = 8 <;> first | (rw [if_pos q8]; first | done | (first | omega | rfl | (exfalso; omega) | (split <;> omega))) | (rw [if_neg q8]; first | done | (by_cases q9 : x = 9 <;> first | (rw [if_pos q9]; first | done | (first | omega | rfl | (exfalso; omega) | (split <;> omega))) | (rw [if_neg q9]; first | done | (by_cases q10 : x = 10 <;> first | (rw [if_pos q10]; first | done | (first | omega | rfl | (exfalso; omega) | (split <;> omega))) | (rw [if_neg q10]; first | done | (by_cases q11 : x = 11 <;> first | (rw [if_pos q11]; first | done | (first | omega | rfl | (exfalso; omega) | (split <;> omega))) | (rw [if_neg q11]; first | done | (first | omega | rfl | (exfalso; omega) | (split <;> omega))))))))))))))))))))))))))) dX6_count_70
  by_cases c2 : x = 1
  · refine j_tin (k := 1) (off := 70) (tgt := 71) hx hb c2 (by decide) dX6_count_1 (by decide) (by decide) (by decide) (by decide) ?_
    refine lv_aload_n hx hb dX6_count_71 rfl (lv_at hl 0 rfl) ?_
    refine p_callV (v := .int (iI (sm (fun i => s (8 + i)) (s 0).toNat))) (ci := 6) (n := 0) (As := []) (rest := []) ⟨hx, hb, hml, hown, hts⟩ hK (kX6_present l D cI cV b s pa he np ru t ty at_ rd hM) hP rfl rfl gX6_count_X6_present rfl (by decide +kernel) ⟨Nat.le_of_ble_eq_true rfl, Nat.le_of_ble_eq_true rfl⟩ rfl hl.1 (Nat.le_of_ble_eq_true rfl) dX6_count_72 ⟨Nat.zero_le _, Nat.zero_le _⟩ rfl ?_
    exact p_iret hx hb hr hlocks (by (by_cases q0 : x = 0 <;> first | (rw [if_pos q0]; first | done | (first | omega | rfl | (exfalso; omega) | (split <;> omega))) | (rw [if_neg q0]; first | done | (by_cases q1 : x = 1 <;> first | (rw [if_pos q1]; first | done | (first | omega | rfl | (exfalso; omega) | (split <;> omega))) | (rw [if_neg q1]; first | done | (by_cases q2 : x = 2 <;> first | (rw [if_pos q2]; first | done | (first | omega | rfl | (exfalso; omega) | (split <;> omega))) | (rw [if_neg q2]; first | done | (by_cases q3 : x = 3 <;> first | (rw [if_pos q3]; first | done | (first | omega | rfl | (exfalso; omega) | (split <;> omega))) | (rw [if_neg q3]; first | done | (by_cases q4 : x = 4 <;> first | (rw [if_pos q4]; first | done | (first | omega | rfl | (exfalso; omega) | (split <;> omega))) | (rw [if_neg q4]; first | done | (by_cases q5 : x = 5 <;> first | (rw [if_pos q5]; first | done | (first | omega | rfl | (exfalso; omega) | (split <;> omega))) | (rw [if_neg q5]; first | done | (by_cases q6 : x = 6 <;> first | (rw [if_pos q6]; first | done | (first | omega | rfl | (exfalso; omega) | (split <;> omega))) | (rw [if_neg q6]; first | done | (by_cases q7 : x = 7 <;> first | (rw [if_pos q7]; first | done | (first | omega | rfl | (exfalso; omega) | (split <;> omega))) | (rw [if_neg q7]; first | done | (by_cases q8 : x = 8 <;> first | (rw [if_pos q8]; first | done | (first | omega | rfl | (exfalso; omega) | (split <;> omega))) | (rw [if_neg q8]; first | done | (by_cases q9 : x = 9 <;> first | (rw [if_pos q9]; first | done | (first | omega | rfl | (exfalso; omega) | (split <;> omega))) | (rw [if_neg q9]; first | done | (by_cases q10 : x = 10 <;> first | (rw [if_pos q10]; first | done | (first | omega | rfl | (exfalso; omega) | (split <;> omega))) | (rw [if_neg q10]; first | done | (by_cases q11 : x = 11 <;> first | (rw [if_pos q11]; first | done | (first | omega | rfl | (exfalso; omega) | (split <;> omega))) | (rw [if_neg q11]; first | done | (first | omega | rfl | (exfalso; omega) | (split <;> omega))))))))))))))))))))))))))) dX6_count_75
  by_cases c3 : x = 2
  · refine j_tin (k := 2) (off := 75) (tgt := 76) hx hb c3 (by decide) dX6_count_1 (by decide) (by decide) (by decide) (by decide) ?_
    refine lv_aload_n hx hb dX6_count_76 rfl (lv_at hl 0 rfl) ?_
    refine Mg0 hx hb hts hin hown hK hP (by decide +kernel) dX6_count_77 ?_
    refine j_c hx hb dX6_count_80 ?_
    refine Ma0 hx hb hK hP (by omega) dX6_count_81 ?_
    rw [show (1 : Int).toNat = 1 from by omega]
    have r3_33 : bd (s 1) := hbs _
    exact p_iret hx hb hr hlocks (by (by_cases q0 : x = 0 <;> first | (rw [if_pos q0]; first | done | (first | omega | rfl | (exfalso; omega) | (split <;> omega))) | (rw [if_neg q0]; first | done | (by_cases q1 : x = 1 <;> first | (rw [if_pos q1]; first | done | (first | omega | rfl | (exfalso; omega) | (split <;> omega))) | (rw [if_neg q1]; first | done | (by_cases q2 : x = 2 <;> first | (rw [if_pos q2]; first | done | (first | omega | rfl | (exfalso; omega) | (split <;> omega))) | (rw [if_neg q2]; first | done | (by_cases q3 : x = 3 <;> first | (rw [if_pos q3]; first | done | (first | omega | rfl | (exfalso; omega) | (split <;> omega))) | (rw [if_neg q3]; first | done | (by_cases q4 : x = 4 <;> first | (rw [if_pos q4]; first | done | (first | omega | rfl | (exfalso; omega) | (split <;> omega))) | (rw [if_neg q4]; first | done | (by_cases q5 : x = 5 <;> first | (rw [if_pos q5]; first | done | (first | omega | rfl | (exfalso; omega) | (split <;> omega))) | (rw [if_neg q5]; first | done | (by_cases q6 : x = 6 <;> first | (rw [if_pos q6]; first | done | (first | omega | rfl | (exfalso; omega) | (split <;> omega))) | (rw [if_neg q6]; first | done | (by_cases q7 : x = 7 <;> first | (rw [if_pos q7]; first | done | (first | omega | rfl | (exfalso; omega) | (split <;> omega))) | (rw [if_neg q7]; first | done | (by_cases q8 : x = 8 <;> first | (rw [if_pos q8]; first | done | (first | omega | rfl | (exfalso; omega) | (split <;> omega))) | (rw [if_neg q8]; first | done | (by_cases q9 : x = 9 <;> first | (rw [if_pos q9]; first | done | (first | omega | rfl | (exfalso; omega) | (split <;> omega))) | (rw [if_neg q9]; first | done | (by_cases q10 : x = 10 <;> first | (rw [if_pos q10]; first | done | (first | omega | rfl | (exfalso; omega) | (split <;> omega))) | (rw [if_neg q10]; first | done | (by_cases q11 : x = 11 <;> first | (rw [if_pos q11]; first | done | (first | omega | rfl | (exfalso; omega) | (split <;> omega))) | (rw [if_neg q11]; first | done | (first | omega | rfl | (exfalso; omega) | (split <;> omega))))))))))))))))))))))))))) dX6_count_82
  by_cases c4 : x = 3
  · refine j_tin (k := 3) (off := 82) (tgt := 83) hx hb c4 (by decide) dX6_count_1 (by decide) (by decide) (by decide) (by decide) ?_
    refine lv_aload_n hx hb dX6_count_83 rfl (lv_at hl 0 rfl) ?_
    refine Mg0 hx hb hts hin hown hK hP (by decide +kernel) dX6_count_84 ?_
    refine j_c hx hb dX6_count_87 ?_
    refine Ma0 hx hb hK hP (by omega) dX6_count_88 ?_
    rw [show (2 : Int).toNat = 2 from by omega]
    have r4_42 : bd (s 2) := hbs _
    exact p_iret hx hb hr hlocks (by (by_cases q0 : x = 0 <;> first | (rw [if_pos q0]; first | done | (first | omega | rfl | (exfalso; omega) | (split <;> omega))) | (rw [if_neg q0]; first | done | (by_cases q1 : x = 1 <;> first | (rw [if_pos q1]; first | done | (first | omega | rfl | (exfalso; omega) | (split <;> omega))) | (rw [if_neg q1]; first | done | (by_cases q2 : x = 2 <;> first | (rw [if_pos q2]; first | done | (first | omega | rfl | (exfalso; omega) | (split <;> omega))) | (rw [if_neg q2]; first | done | (by_cases q3 : x = 3 <;> first | (rw [if_pos q3]; first | done | (first | omega | rfl | (exfalso; omega) | (split <;> omega))) | (rw [if_neg q3]; first | done | (by_cases q4 : x = 4 <;> first | (rw [if_pos q4]; first | done | (first | omega | rfl | (exfalso; omega) | (split <;> omega))) | (rw [if_neg q4]; first | done | (by_cases q5 : x = 5 <;> first | (rw [if_pos q5]; first | done | (first | omega | rfl | (exfalso; omega) | (split <;> omega))) | (rw [if_neg q5]; first | done | (by_cases q6 : x = 6 <;> first | (rw [if_pos q6]; first | done | (first | omega | rfl | (exfalso; omega) | (split <;> omega))) | (rw [if_neg q6]; first | done | (by_cases q7 : x = 7 <;> first | (rw [if_pos q7]; first | done | (first | omega | rfl | (exfalso; omega) | (split <;> omega))) | (rw [if_neg q7]; first | done | (by_cases q8 : x = 8 <;> first | (rw [if_pos q8]; first | done | (first | omega | rfl | (exfalso; omega) | (split <;> omega))) | (rw [if_neg q8]; first | done | (by_cases q9 : x = 9 <;> first | (rw [if_pos q9]; first | done | (first | omega | rfl | (exfalso; omega) | (split <;> omega))) | (rw [if_neg q9]; first | done | (by_cases q10 : x = 10 <;> first | (rw [if_pos q10]; first | done | (first | omega | rfl | (exfalso; omega) | (split <;> omega))) | (rw [if_neg q10]; first | done | (by_cases q11 : x = 11 <;> first | (rw [if_pos q11]; first | done | (first | omega | rfl | (exfalso; omega) | (split <;> omega))) | (rw [if_neg q11]; first | done | (first | omega | rfl | (exfalso; omega) | (split <;> omega))))))))))))))))))))))))))) dX6_count_89
  by_cases c5 : x = 4
  · refine j_tin (k := 4) (off := 89) (tgt := 90) hx hb c5 (by decide) dX6_count_1 (by decide) (by decide) (by decide) (by decide) ?_
    refine lv_aload_n hx hb dX6_count_90 rfl (lv_at hl 0 rfl) ?_
    refine Mg0 hx hb hts hin hown hK hP (by decide +kernel) dX6_count_91 ?_
    refine j_c hx hb dX6_count_94 ?_
    refine Ma0 hx hb hK hP (by omega) dX6_count_95 ?_
    rw [show (3 : Int).toNat = 3 from by omega]
    have r5_51 : bd (s 3) := hbs _
    exact p_iret hx hb hr hlocks (by (by_cases q0 : x = 0 <;> first | (rw [if_pos q0]; first | done | (first | omega | rfl | (exfalso; omega) | (split <;> omega))) | (rw [if_neg q0]; first | done | (by_cases q1 : x = 1 <;> first | (rw [if_pos q1]; first | done | (first | omega | rfl | (exfalso; omega) | (split <;> omega))) | (rw [if_neg q1]; first | done | (by_cases q2 : x = 2 <;> first | (rw [if_pos q2]; first | done | (first | omega | rfl | (exfalso; omega) | (split <;> omega))) | (rw [if_neg q2]; first | done | (by_cases q3 : x = 3 <;> first | (rw [if_pos q3]; first | done | (first | omega | rfl | (exfalso; omega) | (split <;> omega))) | (rw [if_neg q3]; first | done | (by_cases q4 : x = 4 <;> first | (rw [if_pos q4]; first | done | (first | omega | rfl | (exfalso; omega) | (split <;> omega))) | (rw [if_neg q4]; first | done | (by_cases q5 : x = 5 <;> first | (rw [if_pos q5]; first | done | (first | omega | rfl | (exfalso; omega) | (split <;> omega))) | (rw [if_neg q5]; first | done | (by_cases q6 : x = 6 <;> first | (rw [if_pos q6]; first | done | (first | omega | rfl | (exfalso; omega) | (split <;> omega))) | (rw [if_neg q6]; first | done | (by_cases q7 : x = 7 <;> first | (rw [if_pos q7]; first | done | (first | omega | rfl | (exfalso; omega) | (split <;> omega))) | (rw [if_neg q7]; first | done | (by_cases q8 : x = 8 <;> first | (rw [if_pos q8]; first | done | (first | omega | rfl | (exfalso; omega) | (split <;> omega))) | (rw [if_neg q8]; first | done | (by_cases q9 : x = 9 <;> first | (rw [if_pos q9]; first | done | (first | omega | rfl | (exfalso; omega) | (split <;> omega))) | (rw [if_neg q9]; first | done | (by_cases q10 : x = 10 <;> first | (rw [if_pos q10]; first | done | (first | omega | rfl | (exfalso; omega) | (split <;> omega))) | (rw [if_neg q10]; first | done | (by_cases q11 : x = 11 <;> first | (rw [if_pos q11]; first | done | (first | omega | rfl | (exfalso; omega) | (split <;> omega))) | (rw [if_neg q11]; first | done | (first | omega | rfl | (exfalso; omega) | (split <;> omega))))))))))))))))))))))))))) dX6_count_96
  by_cases c6 : x = 5
  · refine j_tin (k := 5) (off := 96) (tgt := 97) hx hb c6 (by decide) dX6_count_1 (by decide) (by decide) (by decide) (by decide) ?_
    refine lv_aload_n hx hb dX6_count_97 rfl (lv_at hl 0 rfl) ?_
    refine Mg0 hx hb hts hin hown hK hP (by decide +kernel) dX6_count_98 ?_
    refine j_c hx hb dX6_count_101 ?_
    refine Ma0 hx hb hK hP (by omega) dX6_count_102 ?_
    rw [show (4 : Int).toNat = 4 from by omega]
    have r6_60 : bd (s 4) := hbs _
    exact p_iret hx hb hr hlocks (by (by_cases q0 : x = 0 <;> first | (rw [if_pos q0]; first | done | (first | omega | rfl | (exfalso; omega) | (split <;> omega))) | (rw [if_neg q0]; first | done | (by_cases q1 : x = 1 <;> first | (rw [if_pos q1]; first | done | (first | omega | rfl | (exfalso; omega) | (split <;> omega))) | (rw [if_neg q1]; first | done | (by_cases q2 : x = 2 <;> first | (rw [if_pos q2]; first | done | (first | omega | rfl | (exfalso; omega) | (split <;> omega))) | (rw [if_neg q2]; first | done | (by_cases q3 : x = 3 <;> first | (rw [if_pos q3]; first | done | (first | omega | rfl | (exfalso; omega) | (split <;> omega))) | (rw [if_neg q3]; first | done | (by_cases q4 : x = 4 <;> first | (rw [if_pos q4]; first | done | (first | omega | rfl | (exfalso; omega) | (split <;> omega))) | (rw [if_neg q4]; first | done | (by_cases q5 : x = 5 <;> first | (rw [if_pos q5]; first | done | (first | omega | rfl | (exfalso; omega) | (split <;> omega))) | (rw [if_neg q5]; first | done | (by_cases q6 : x = 6 <;> first | (rw [if_pos q6]; first | done | (first | omega | rfl | (exfalso; omega) | (split <;> omega))) | (rw [if_neg q6]; first | done | (by_cases q7 : x = 7 <;> first | (rw [if_pos q7]; first | done | (first | omega | rfl | (exfalso; omega) | (split <;> omega))) | (rw [if_neg q7]; first | done | (by_cases q8 : x = 8 <;> first | (rw [if_pos q8]; first | done | (first | omega | rfl | (exfalso; omega) | (split <;> omega))) | (rw [if_neg q8]; first | done | (by_cases q9 : x = 9 <;> first | (rw [if_pos q9]; first | done | (first | omega | rfl | (exfalso; omega) | (split <;> omega))) | (rw [if_neg q9]; first | done | (by_cases q10 : x = 10 <;> first | (rw [if_pos q10]; first | done | (first | omega | rfl | (exfalso; omega) | (split <;> omega))) | (rw [if_neg q10]; first | done | (by_cases q11 : x = 11 <;> first | (rw [if_pos q11]; first | done | (first | omega | rfl | (exfalso; omega) | (split <;> omega))) | (rw [if_neg q11]; first | done | (first | omega | rfl | (exfalso; omega) | (split <;> omega))))))))))))))))))))))))))) dX6_count_103
  by_cases c7 : x = 6
  · refine j_tin (k := 6) (off := 103) (tgt := 104) hx hb c7 (by decide) dX6_count_1 (by decide) (by decide) (by decide) (by decide) ?_
    refine lv_aload_n hx hb dX6_count_104 rfl (lv_at hl 0 rfl) ?_
    refine p_callV (v := .int (iI (b2i (s 5 ≠ -9)))) (ci := 6) (n := 0) (As := []) (rest := []) ⟨hx, hb, hml, hown, hts⟩ hK (kX6_goesOn l D cI cV b s pa he np ru t ty at_ rd hM) hP rfl rfl gX6_count_X6_goesOn rfl (by decide +kernel) ⟨Nat.le_of_ble_eq_true rfl, Nat.le_of_ble_eq_true rfl⟩ rfl hl.1 (Nat.le_of_ble_eq_true rfl) dX6_count_105 ⟨Nat.zero_le _, Nat.zero_le _⟩ rfl ?_
    refine j_beq (tgt := 115) hx hb dX6_count_108 (by decide) (fun c8 => ?_) (fun c8 => ?_)
    · refine j_c hx hb dX6_count_115 ?_
      exact p_iret hx hb hr hlocks (by (by_cases q0 : x = 0 <;> first | (rw [if_pos q0]; first | done | (first | omega | rfl | (exfalso; omega) | (split <;> omega))) | (rw [if_neg q0]; first | done | (by_cases q1 : x = 1 <;> first | (rw [if_pos q1]; first | done | (first | omega | rfl | (exfalso; omega) | (split <;> omega))) | (rw [if_neg q1]; first | done | (by_cases q2 : x = 2 <;> first | (rw [if_pos q2]; first | done | (first | omega | rfl | (exfalso; omega) | (split <;> omega))) | (rw [if_neg q2]; first | done | (by_cases q3 : x = 3 <;> first | (rw [if_pos q3]; first | done | (first | omega | rfl | (exfalso; omega) | (split <;> omega))) | (rw [if_neg q3]; first | done | (by_cases q4 : x = 4 <;> first | (rw [if_pos q4]; first | done | (first | omega | rfl | (exfalso; omega) | (split <;> omega))) | (rw [if_neg q4]; first | done | (by_cases q5 : x = 5 <;> first | (rw [if_pos q5]; first | done | (first | omega | rfl | (exfalso; omega) | (split <;> omega))) | (rw [if_neg q5]; first | done | (by_cases q6 : x = 6 <;> first | (rw [if_pos q6]; first | done | (first | omega | rfl | (exfalso; omega) | (split <;> omega))) | (rw [if_neg q6]; first | done | (by_cases q7 : x = 7 <;> first | (rw [if_pos q7]; first | done | (first | omega | rfl | (exfalso; omega) | (split <;> omega))) | (rw [if_neg q7]; first | done | (by_cases q8 : x = 8 <;> first | (rw [if_pos q8]; first | done | (first | omega | rfl | (exfalso; omega) | (split <;> omega))) | (rw [if_neg q8]; first | done | (by_cases q9 : x = 9 <;> first | (rw [if_pos q9]; first | done | (first | omega | rfl | (exfalso; omega) | (split <;> omega))) | (rw [if_neg q9]; first | done | (by_cases q10 : x = 10 <;> first | (rw [if_pos q10]; first | done | (first | omega | rfl | (exfalso; omega) | (split <;> omega))) | (rw [if_neg q10]; first | done | (by_cases q11 : x = 11 <;> first | (rw [if_pos q11]; first | done | (first | omega | rfl | (exfalso; omega) | (split <;> omega))) | (rw [if_neg q11]; first | done | (first | omega | rfl | (exfalso; omega) | (split <;> omega))))))))))))))))))))))))))) dX6_count_116
    · refine j_c hx hb dX6_count_111 ?_
      refine lv_goto (tgt := 116) hx hb dX6_count_112 (by decide) ?_
      exact p_iret hx hb hr hlocks (by (by_cases q0 : x = 0 <;> first | (rw [if_pos q0]; first | done | (first | omega | rfl | (exfalso; omega) | (split <;> omega))) | (rw [if_neg q0]; first | done | (by_cases q1 : x = 1 <;> first | (rw [if_pos q1]; first | done | (first | omega | rfl | (exfalso; omega) | (split <;> omega))) | (rw [if_neg q1]; first | done | (by_cases q2 : x = 2 <;> first | (rw [if_pos q2]; first | done | (first | omega | rfl | (exfalso; omega) | (split <;> omega))) | (rw [if_neg q2]; first | done | (by_cases q3 : x = 3 <;> first | (rw [if_pos q3]; first | done | (first | omega | rfl | (exfalso; omega) | (split <;> omega))) | (rw [if_neg q3]; first | done | (by_cases q4 : x = 4 <;> first | (rw [if_pos q4]; first | done | (first | omega | rfl | (exfalso; omega) | (split <;> omega))) | (rw [if_neg q4]; first | done | (by_cases q5 : x = 5 <;> first | (rw [if_pos q5]; first | done | (first | omega | rfl | (exfalso; omega) | (split <;> omega))) | (rw [if_neg q5]; first | done | (by_cases q6 : x = 6 <;> first | (rw [if_pos q6]; first | done | (first | omega | rfl | (exfalso; omega) | (split <;> omega))) | (rw [if_neg q6]; first | done | (by_cases q7 : x = 7 <;> first | (rw [if_pos q7]; first | done | (first | omega | rfl | (exfalso; omega) | (split <;> omega))) | (rw [if_neg q7]; first | done | (by_cases q8 : x = 8 <;> first | (rw [if_pos q8]; first | done | (first | omega | rfl | (exfalso; omega) | (split <;> omega))) | (rw [if_neg q8]; first | done | (by_cases q9 : x = 9 <;> first | (rw [if_pos q9]; first | done | (first | omega | rfl | (exfalso; omega) | (split <;> omega))) | (rw [if_neg q9]; first | done | (by_cases q10 : x = 10 <;> first | (rw [if_pos q10]; first | done | (first | omega | rfl | (exfalso; omega) | (split <;> omega))) | (rw [if_neg q10]; first | done | (by_cases q11 : x = 11 <;> first | (rw [if_pos q11]; first | done | (first | omega | rfl | (exfalso; omega) | (split <;> omega))) | (rw [if_neg q11]; first | done | (first | omega | rfl | (exfalso; omega) | (split <;> omega))))))))))))))))))))))))))) dX6_count_116
  by_cases c9 : x = 7
  · refine j_tin (k := 7) (off := 116) (tgt := 117) hx hb c9 (by decide) dX6_count_1 (by decide) (by decide) (by decide) (by decide) ?_
    refine lv_aload_n hx hb dX6_count_117 rfl (lv_at hl 0 rfl) ?_
    refine Mg0 hx hb hts hin hown hK hP (by decide +kernel) dX6_count_118 ?_
    refine j_bi hx hb dX6_count_121 rfl ?_
    refine Ma0 hx hb hK hP (by omega) dX6_count_123 ?_
    rw [show (6 : Int).toNat = 6 from by omega]
    have r9_79 : bd (s 6) := hbs _
    exact p_iret hx hb hr hlocks (by (by_cases q0 : x = 0 <;> first | (rw [if_pos q0]; first | done | (first | omega | rfl | (exfalso; omega) | (split <;> omega))) | (rw [if_neg q0]; first | done | (by_cases q1 : x = 1 <;> first | (rw [if_pos q1]; first | done | (first | omega | rfl | (exfalso; omega) | (split <;> omega))) | (rw [if_neg q1]; first | done | (by_cases q2 : x = 2 <;> first | (rw [if_pos q2]; first | done | (first | omega | rfl | (exfalso; omega) | (split <;> omega))) | (rw [if_neg q2]; first | done | (by_cases q3 : x = 3 <;> first | (rw [if_pos q3]; first | done | (first | omega | rfl | (exfalso; omega) | (split <;> omega))) | (rw [if_neg q3]; first | done | (by_cases q4 : x = 4 <;> first | (rw [if_pos q4]; first | done | (first | omega | rfl | (exfalso; omega) | (split <;> omega))) | (rw [if_neg q4]; first | done | (by_cases q5 : x = 5 <;> first | (rw [if_pos q5]; first | done | (first | omega | rfl | (exfalso; omega) | (split <;> omega))) | (rw [if_neg q5]; first | done | (by_cases q6 : x = 6 <;> first | (rw [if_pos q6]; first | done | (first | omega | rfl | (exfalso; omega) | (split <;> omega))) | (rw [if_neg q6]; first | done | (by_cases q7 : x = 7 <;> first | (rw [if_pos q7]; first | done | (first | omega | rfl | (exfalso; omega) | (split <;> omega))) | (rw [if_neg q7]; first | done | (by_cases q8 : x = 8 <;> first | (rw [if_pos q8]; first | done | (first | omega | rfl | (exfalso; omega) | (split <;> omega))) | (rw [if_neg q8]; first | done | (by_cases q9 : x = 9 <;> first | (rw [if_pos q9]; first | done | (first | omega | rfl | (exfalso; omega) | (split <;> omega))) | (rw [if_neg q9]; first | done | (by_cases q10 : x = 10 <;> first | (rw [if_pos q10]; first | done | (first | omega | rfl | (exfalso; omega) | (split <;> omega))) | (rw [if_neg q10]; first | done | (by_cases q11 : x = 11 <;> first | (rw [if_pos q11]; first | done | (first | omega | rfl | (exfalso; omega) | (split <;> omega))) | (rw [if_neg q11]; first | done | (first | omega | rfl | (exfalso; omega) | (split <;> omega))))))))))))))))))))))))))) dX6_count_124
  by_cases c10 : x = 8
  · refine j_tin (k := 8) (off := 124) (tgt := 125) hx hb c10 (by decide) dX6_count_1 (by decide) (by decide) (by decide) (by decide) ?_
    refine lv_aload_n hx hb dX6_count_125 rfl (lv_at hl 0 rfl) ?_
    refine Mg0 hx hb hts hin hown hK hP (by decide +kernel) dX6_count_126 ?_
    refine j_bi hx hb dX6_count_129 rfl ?_
    refine Ma0 hx hb hK hP (by omega) dX6_count_131 ?_
    rw [show (7 : Int).toNat = 7 from by omega]
    have r10_88 : bd (s 7) := hbs _
    exact p_iret hx hb hr hlocks (by (by_cases q0 : x = 0 <;> first | (rw [if_pos q0]; first | done | (first | omega | rfl | (exfalso; omega) | (split <;> omega))) | (rw [if_neg q0]; first | done | (by_cases q1 : x = 1 <;> first | (rw [if_pos q1]; first | done | (first | omega | rfl | (exfalso; omega) | (split <;> omega))) | (rw [if_neg q1]; first | done | (by_cases q2 : x = 2 <;> first | (rw [if_pos q2]; first | done | (first | omega | rfl | (exfalso; omega) | (split <;> omega))) | (rw [if_neg q2]; first | done | (by_cases q3 : x = 3 <;> first | (rw [if_pos q3]; first | done | (first | omega | rfl | (exfalso; omega) | (split <;> omega))) | (rw [if_neg q3]; first | done | (by_cases q4 : x = 4 <;> first | (rw [if_pos q4]; first | done | (first | omega | rfl | (exfalso; omega) | (split <;> omega))) | (rw [if_neg q4]; first | done | (by_cases q5 : x = 5 <;> first | (rw [if_pos q5]; first | done | (first | omega | rfl | (exfalso; omega) | (split <;> omega))) | (rw [if_neg q5]; first | done | (by_cases q6 : x = 6 <;> first | (rw [if_pos q6]; first | done | (first | omega | rfl | (exfalso; omega) | (split <;> omega))) | (rw [if_neg q6]; first | done | (by_cases q7 : x = 7 <;> first | (rw [if_pos q7]; first | done | (first | omega | rfl | (exfalso; omega) | (split <;> omega))) | (rw [if_neg q7]; first | done | (by_cases q8 : x = 8 <;> first | (rw [if_pos q8]; first | done | (first | omega | rfl | (exfalso; omega) | (split <;> omega))) | (rw [if_neg q8]; first | done | (by_cases q9 : x = 9 <;> first | (rw [if_pos q9]; first | done | (first | omega | rfl | (exfalso; omega) | (split <;> omega))) | (rw [if_neg q9]; first | done | (by_cases q10 : x = 10 <;> first | (rw [if_pos q10]; first | done | (first | omega | rfl | (exfalso; omega) | (split <;> omega))) | (rw [if_neg q10]; first | done | (by_cases q11 : x = 11 <;> first | (rw [if_pos q11]; first | done | (first | omega | rfl | (exfalso; omega) | (split <;> omega))) | (rw [if_neg q11]; first | done | (first | omega | rfl | (exfalso; omega) | (split <;> omega))))))))))))))))))))))))))) dX6_count_132
  by_cases c11 : x = 9
  · refine j_tin (k := 9) (off := 132) (tgt := 133) hx hb c11 (by decide) dX6_count_1 (by decide) (by decide) (by decide) (by decide) ?_
    refine lv_aload_n hx hb dX6_count_133 rfl (lv_at hl 0 rfl) ?_
    refine p_callV (v := .int (iI (sm (fun i => b2i (s (224 + 5 * i) ≠ s (225 + 5 * i))) (s 7).toNat))) (ci := 6) (n := 0) (As := []) (rest := []) ⟨hx, hb, hml, hown, hts⟩ hK (kX6_forged l D cI cV b s pa he np ru t ty at_ rd hM) hP rfl rfl gX6_count_X6_forged rfl (by decide +kernel) ⟨Nat.le_of_ble_eq_true rfl, Nat.le_of_ble_eq_true rfl⟩ rfl hl.1 (Nat.le_of_ble_eq_true rfl) dX6_count_134 ⟨Nat.zero_le _, Nat.zero_le _⟩ rfl ?_
    have f94 := sm_rg (f := (fun i => b2i (s (224 + 5 * i) ≠ s (225 + 5 * i)))) (fun k => b2i_rg) ((s 7).toNat)
    exact p_iret hx hb hr hlocks (by (by_cases q0 : x = 0 <;> first | (rw [if_pos q0]; first | done | (first | omega | rfl | (exfalso; omega) | (split <;> omega))) | (rw [if_neg q0]; first | done | (by_cases q1 : x = 1 <;> first | (rw [if_pos q1]; first | done | (first | omega | rfl | (exfalso; omega) | (split <;> omega))) | (rw [if_neg q1]; first | done | (by_cases q2 : x = 2 <;> first | (rw [if_pos q2]; first | done | (first | omega | rfl | (exfalso; omega) | (split <;> omega))) | (rw [if_neg q2]; first | done | (by_cases q3 : x = 3 <;> first | (rw [if_pos q3]; first | done | (first | omega | rfl | (exfalso; omega) | (split <;> omega))) | (rw [if_neg q3]; first | done | (by_cases q4 : x = 4 <;> first | (rw [if_pos q4]; first | done | (first | omega | rfl | (exfalso; omega) | (split <;> omega))) | (rw [if_neg q4]; first | done | (by_cases q5 : x = 5 <;> first | (rw [if_pos q5]; first | done | (first | omega | rfl | (exfalso; omega) | (split <;> omega))) | (rw [if_neg q5]; first | done | (by_cases q6 : x = 6 <;> first | (rw [if_pos q6]; first | done | (first | omega | rfl | (exfalso; omega) | (split <;> omega))) | (rw [if_neg q6]; first | done | (by_cases q7 : x = 7 <;> first | (rw [if_pos q7]; first | done | (first | omega | rfl | (exfalso; omega) | (split <;> omega))) | (rw [if_neg q7]; first | done | (by_cases q8 : x = 8 <;> first | (rw [if_pos q8]; first | done | (first | omega | rfl | (exfalso; omega) | (split <;> omega))) | (rw [if_neg q8]; first | done | (by_cases q9 : x = 9 <;> first | (rw [if_pos q9]; first | done | (first | omega | rfl | (exfalso; omega) | (split <;> omega))) | (rw [if_neg q9]; first | done | (by_cases q10 : x = 10 <;> first | (rw [if_pos q10]; first | done | (first | omega | rfl | (exfalso; omega) | (split <;> omega))) | (rw [if_neg q10]; first | done | (by_cases q11 : x = 11 <;> first | (rw [if_pos q11]; first | done | (first | omega | rfl | (exfalso; omega) | (split <;> omega))) | (rw [if_neg q11]; first | done | (first | omega | rfl | (exfalso; omega) | (split <;> omega))))))))))))))))))))))))))) dX6_count_137
  by_cases c12 : x = 10
  · refine j_tin (k := 10) (off := 137) (tgt := 138) hx hb c12 (by decide) dX6_count_1 (by decide) (by decide) (by decide) (by decide) ?_
    refine lv_aload_n hx hb dX6_count_138 rfl (lv_at hl 0 rfl) ?_
    refine Mg3 hx hb hts hin hown hK hP (by decide +kernel) dX6_count_139 ?_
    exact p_iret hx hb hr hlocks (by (by_cases q0 : x = 0 <;> first | (rw [if_pos q0]; first | done | (first | omega | rfl | (exfalso; omega) | (split <;> omega))) | (rw [if_neg q0]; first | done | (by_cases q1 : x = 1 <;> first | (rw [if_pos q1]; first | done | (first | omega | rfl | (exfalso; omega) | (split <;> omega))) | (rw [if_neg q1]; first | done | (by_cases q2 : x = 2 <;> first | (rw [if_pos q2]; first | done | (first | omega | rfl | (exfalso; omega) | (split <;> omega))) | (rw [if_neg q2]; first | done | (by_cases q3 : x = 3 <;> first | (rw [if_pos q3]; first | done | (first | omega | rfl | (exfalso; omega) | (split <;> omega))) | (rw [if_neg q3]; first | done | (by_cases q4 : x = 4 <;> first | (rw [if_pos q4]; first | done | (first | omega | rfl | (exfalso; omega) | (split <;> omega))) | (rw [if_neg q4]; first | done | (by_cases q5 : x = 5 <;> first | (rw [if_pos q5]; first | done | (first | omega | rfl | (exfalso; omega) | (split <;> omega))) | (rw [if_neg q5]; first | done | (by_cases q6 : x = 6 <;> first | (rw [if_pos q6]; first | done | (first | omega | rfl | (exfalso; omega) | (split <;> omega))) | (rw [if_neg q6]; first | done | (by_cases q7 : x = 7 <;> first | (rw [if_pos q7]; first | done | (first | omega | rfl | (exfalso; omega) | (split <;> omega))) | (rw [if_neg q7]; first | done | (by_cases q8 : x = 8 <;> first | (rw [if_pos q8]; first | done | (first | omega | rfl | (exfalso; omega) | (split <;> omega))) | (rw [if_neg q8]; first | done | (by_cases q9 : x = 9 <;> first | (rw [if_pos q9]; first | done | (first | omega | rfl | (exfalso; omega) | (split <;> omega))) | (rw [if_neg q9]; first | done | (by_cases q10 : x = 10 <;> first | (rw [if_pos q10]; first | done | (first | omega | rfl | (exfalso; omega) | (split <;> omega))) | (rw [if_neg q10]; first | done | (by_cases q11 : x = 11 <;> first | (rw [if_pos q11]; first | done | (first | omega | rfl | (exfalso; omega) | (split <;> omega))) | (rw [if_neg q11]; first | done | (first | omega | rfl | (exfalso; omega) | (split <;> omega))))))))))))))))))))))))))) dX6_count_142
  by_cases c13 : x = 11
  · refine j_tin (k := 11) (off := 142) (tgt := 143) hx hb c13 (by decide) dX6_count_1 (by decide) (by decide) (by decide) (by decide) ?_
    refine lv_aload_n hx hb dX6_count_143 rfl (lv_at hl 0 rfl) ?_
    refine Mg6 hx hb hts hin hown hK hP (by decide +kernel) dX6_count_144 ?_
    exact p_iret hx hb hr hlocks (by (by_cases q0 : x = 0 <;> first | (rw [if_pos q0]; first | done | (first | omega | rfl | (exfalso; omega) | (split <;> omega))) | (rw [if_neg q0]; first | done | (by_cases q1 : x = 1 <;> first | (rw [if_pos q1]; first | done | (first | omega | rfl | (exfalso; omega) | (split <;> omega))) | (rw [if_neg q1]; first | done | (by_cases q2 : x = 2 <;> first | (rw [if_pos q2]; first | done | (first | omega | rfl | (exfalso; omega) | (split <;> omega))) | (rw [if_neg q2]; first | done | (by_cases q3 : x = 3 <;> first | (rw [if_pos q3]; first | done | (first | omega | rfl | (exfalso; omega) | (split <;> omega))) | (rw [if_neg q3]; first | done | (by_cases q4 : x = 4 <;> first | (rw [if_pos q4]; first | done | (first | omega | rfl | (exfalso; omega) | (split <;> omega))) | (rw [if_neg q4]; first | done | (by_cases q5 : x = 5 <;> first | (rw [if_pos q5]; first | done | (first | omega | rfl | (exfalso; omega) | (split <;> omega))) | (rw [if_neg q5]; first | done | (by_cases q6 : x = 6 <;> first | (rw [if_pos q6]; first | done | (first | omega | rfl | (exfalso; omega) | (split <;> omega))) | (rw [if_neg q6]; first | done | (by_cases q7 : x = 7 <;> first | (rw [if_pos q7]; first | done | (first | omega | rfl | (exfalso; omega) | (split <;> omega))) | (rw [if_neg q7]; first | done | (by_cases q8 : x = 8 <;> first | (rw [if_pos q8]; first | done | (first | omega | rfl | (exfalso; omega) | (split <;> omega))) | (rw [if_neg q8]; first | done | (by_cases q9 : x = 9 <;> first | (rw [if_pos q9]; first | done | (first | omega | rfl | (exfalso; omega) | (split <;> omega))) | (rw [if_neg q9]; first | done | (by_cases q10 : x = 10 <;> first | (rw [if_pos q10]; first | done | (first | omega | rfl | (exfalso; omega) | (split <;> omega))) | (rw [if_neg q10]; first | done | (by_cases q11 : x = 11 <;> first | (rw [if_pos q11]; first | done | (first | omega | rfl | (exfalso; omega) | (split <;> omega))) | (rw [if_neg q11]; first | done | (first | omega | rfl | (exfalso; omega) | (split <;> omega))))))))))))))))))))))))))) dX6_count_147
  refine j_tout (tgt := 148) hx hb (by omega) dX6_count_1 (by omega) (by decide) ?_
  refine j_c hx hb dX6_count_148 ?_
  exact p_iret hx hb hr hlocks (by (by_cases q0 : x = 0 <;> first | (rw [if_pos q0]; first | done | (first | omega | rfl | (exfalso; omega) | (split <;> omega))) | (rw [if_neg q0]; first | done | (by_cases q1 : x = 1 <;> first | (rw [if_pos q1]; first | done | (first | omega | rfl | (exfalso; omega) | (split <;> omega))) | (rw [if_neg q1]; first | done | (by_cases q2 : x = 2 <;> first | (rw [if_pos q2]; first | done | (first | omega | rfl | (exfalso; omega) | (split <;> omega))) | (rw [if_neg q2]; first | done | (by_cases q3 : x = 3 <;> first | (rw [if_pos q3]; first | done | (first | omega | rfl | (exfalso; omega) | (split <;> omega))) | (rw [if_neg q3]; first | done | (by_cases q4 : x = 4 <;> first | (rw [if_pos q4]; first | done | (first | omega | rfl | (exfalso; omega) | (split <;> omega))) | (rw [if_neg q4]; first | done | (by_cases q5 : x = 5 <;> first | (rw [if_pos q5]; first | done | (first | omega | rfl | (exfalso; omega) | (split <;> omega))) | (rw [if_neg q5]; first | done | (by_cases q6 : x = 6 <;> first | (rw [if_pos q6]; first | done | (first | omega | rfl | (exfalso; omega) | (split <;> omega))) | (rw [if_neg q6]; first | done | (by_cases q7 : x = 7 <;> first | (rw [if_pos q7]; first | done | (first | omega | rfl | (exfalso; omega) | (split <;> omega))) | (rw [if_neg q7]; first | done | (by_cases q8 : x = 8 <;> first | (rw [if_pos q8]; first | done | (first | omega | rfl | (exfalso; omega) | (split <;> omega))) | (rw [if_neg q8]; first | done | (by_cases q9 : x = 9 <;> first | (rw [if_pos q9]; first | done | (first | omega | rfl | (exfalso; omega) | (split <;> omega))) | (rw [if_neg q9]; first | done | (by_cases q10 : x = 10 <;> first | (rw [if_pos q10]; first | done | (first | omega | rfl | (exfalso; omega) | (split <;> omega))) | (rw [if_neg q10]; first | done | (by_cases q11 : x = 11 <;> first | (rw [if_pos q11]; first | done | (first | omega | rfl | (exfalso; omega) | (split <;> omega))) | (rw [if_neg q11]; first | done | (first | omega | rfl | (exfalso; omega) | (split <;> omega))))))))))))))))))))))))))) dX6_count_149
set_option maxHeartbeats 4000000 in
set_option maxRecDepth 100000 in
theorem kX6_elder (l : Launch) (D : va_G) (cI cV : ClassId) (b : Nat → Nat) (s pa he : Nat → Int) (np ru : Int) (t : Nat → Int) (ty at_ rd : Int) (x : Int) (y : Int) (hM : MS s) (r_x : rg x) (r_y : rg y) : PM l yX6_elder wsX6_elder 1 22 [.ref (b 0), .int (iI (x)), .int (iI (y))] (modw cI b s pa he np ru t ty at_ rd) D cI cV (some (.int (iI (if (0 ≤ x ∧ x ≤ 1) ∧ (0 ≤ y ∧ y < s 1) then (if x = 0 then (s (32 + y.toNat)) else (if s 5 ≠ -9 then (s (37 + y.toNat)) else (-9))) else (-1))))) := by
  refine PM.of (cc := cX6_elder) (maxL := 3) (ret := (some .int)) (by decide) rfl (Nat.le_of_ble_eq_true rfl) ?_
  intro p e s0 m below meth c ls hx hb hr hts hown hlocks hml hP hK hl
  have hown : s0.vm.findClass RX6 = some m.cls := hown
  have hin : ∀ w ∈ u_ws RX6 TX6 9, w ∈ wsX6_elder := by decide +kernel
  have hl : lv_has ls 3 [(0, .ref (b 0)), (1, .int (iI (x))), (2, .int (iI (y)))] := hl
  obtain ⟨hbs, h00, h01, h10, h11, h30, h31, h40, h41, h70, h71, h60, h61, hco, hcn⟩ := id hM
  have hb5 := hbs 5
  have hb2 := hbs 2
  refine lv_iload_n hx hb dX6_elder_0 rfl (lv_at hl 1 rfl) ?_
  refine j_c hx hb dX6_elder_1 ?_
  refine j_c hx hb dX6_elder_2 ?_
  refine p_callS (v := .int (iI (b2i (0 ≤ x ∧ x ≤ 1)))) (n := 3) (w := []) (As := [.int (iI (x)), .int (iI (0)), .int (iI (1))]) (rest := []) ⟨hx, hb, hml, hown, hts⟩ hK (kX6_in l D cI cV x 0 1 (by omega) (by omega) (by omega)) (fun k q h => by simp at h) gX6_elder_X6_in rfl (by decide +kernel) ⟨Nat.le_of_ble_eq_true rfl, Nat.le_of_ble_eq_true rfl⟩ rfl hl.1 (Nat.le_of_ble_eq_true rfl) dX6_elder_3 ⟨Nat.zero_le _, Nat.zero_le _⟩ rfl ?_
  refine j_beq (tgt := 17) hx hb dX6_elder_6 (by decide) (fun c1 => ?_) (fun c1 => ?_)
  · refine j_c hx hb dX6_elder_17 ?_
    exact p_iret hx hb hr hlocks (by (by_cases q0 : (0 ≤ x ∧ x ≤ 1) ∧ (0 ≤ y ∧ y < s 1) <;> first | (rw [if_pos q0]; first | done | (by_cases q1 : x = 0 <;> first | (rw [if_pos q1]; first | done | (first | omega | rfl | (exfalso; omega))) | (rw [if_neg q1]; first | done | (by_cases q2 : s 5 ≠ -9 <;> first | (rw [if_pos q2]; first | done | (first | omega | rfl | (exfalso; omega))) | (rw [if_neg q2]; first | done | (first | omega | rfl | (exfalso; omega))))))) | (rw [if_neg q0]; first | done | (first | omega | rfl | (exfalso; omega))))) dX6_elder_18
  · refine lv_aload_n hx hb dX6_elder_9 rfl (lv_at hl 0 rfl) ?_
    refine lv_iload_n hx hb dX6_elder_10 rfl (lv_at hl 2 rfl) ?_
    refine p_callV (v := .int (iI (b2i (0 ≤ y ∧ y < s 1)))) (ci := 6) (n := 1) (As := [.int (iI (y))]) (rest := []) ⟨hx, hb, hml, hown, hts⟩ hK (kX6_isSeat l D cI cV b s pa he np ru t ty at_ rd y hM (by omega)) hP rfl rfl gX6_elder_X6_isSeat rfl (by decide +kernel) ⟨Nat.le_of_ble_eq_true rfl, Nat.le_of_ble_eq_true rfl⟩ rfl hl.1 (Nat.le_of_ble_eq_true rfl) dX6_elder_11 ⟨Nat.zero_le _, Nat.zero_le _⟩ rfl ?_
    refine j_bne (tgt := 19) hx hb dX6_elder_14 (by decide) (fun c2 => ?_) (fun c2 => ?_)
    · refine lv_iload_n hx hb dX6_elder_19 rfl (lv_at hl 1 rfl) ?_
      refine j_zne (tgt := 35) hx hb (by omega) dX6_elder_20 (by decide) (fun c3 => ?_) (fun c3 => ?_)
      · refine lv_aload_n hx hb dX6_elder_35 rfl (lv_at hl 0 rfl) ?_
        refine p_callV (v := .int (iI (b2i (s 5 ≠ -9)))) (ci := 6) (n := 0) (As := []) (rest := []) ⟨hx, hb, hml, hown, hts⟩ hK (kX6_goesOn l D cI cV b s pa he np ru t ty at_ rd hM) hP rfl rfl gX6_elder_X6_goesOn rfl (by decide +kernel) ⟨Nat.le_of_ble_eq_true rfl, Nat.le_of_ble_eq_true rfl⟩ rfl hl.1 (Nat.le_of_ble_eq_true rfl) dX6_elder_36 ⟨Nat.zero_le _, Nat.zero_le _⟩ rfl ?_
        refine j_beq (tgt := 54) hx hb dX6_elder_39 (by decide) (fun c4 => ?_) (fun c4 => ?_)
        · refine j_bi hx hb dX6_elder_54 rfl ?_
          exact p_iret hx hb hr hlocks (by (by_cases q0 : (0 ≤ x ∧ x ≤ 1) ∧ (0 ≤ y ∧ y < s 1) <;> first | (rw [if_pos q0]; first | done | (by_cases q1 : x = 0 <;> first | (rw [if_pos q1]; first | done | (first | omega | rfl | (exfalso; omega))) | (rw [if_neg q1]; first | done | (by_cases q2 : s 5 ≠ -9 <;> first | (rw [if_pos q2]; first | done | (first | omega | rfl | (exfalso; omega))) | (rw [if_neg q2]; first | done | (first | omega | rfl | (exfalso; omega))))))) | (rw [if_neg q0]; first | done | (first | omega | rfl | (exfalso; omega))))) dX6_elder_56
        · refine lv_aload_n hx hb dX6_elder_42 rfl (lv_at hl 0 rfl) ?_
          refine Mg0 hx hb hts hin hown hK hP (by decide +kernel) dX6_elder_43 ?_
          refine j_bi hx hb dX6_elder_46 rfl ?_
          refine lv_iload_n hx hb dX6_elder_48 rfl (lv_at hl 2 rfl) ?_
          refine j_add hx hb dX6_elder_49 ?_
          refine Ma0 hx hb hK hP (by omega) dX6_elder_50 ?_
          rw [show (37 + y : Int).toNat = 37 + y.toNat from by omega]
          have r4_36 : bd (s (37 + y.toNat)) := hbs _
          refine lv_goto (tgt := 56) hx hb dX6_elder_51 (by decide) ?_
          exact p_iret hx hb hr hlocks (by (by_cases q0 : (0 ≤ x ∧ x ≤ 1) ∧ (0 ≤ y ∧ y < s 1) <;> first | (rw [if_pos q0]; first | done | (by_cases q1 : x = 0 <;> first | (rw [if_pos q1]; first | done | (first | omega | rfl | (exfalso; omega))) | (rw [if_neg q1]; first | done | (by_cases q2 : s 5 ≠ -9 <;> first | (rw [if_pos q2]; first | done | (first | omega | rfl | (exfalso; omega))) | (rw [if_neg q2]; first | done | (first | omega | rfl | (exfalso; omega))))))) | (rw [if_neg q0]; first | done | (first | omega | rfl | (exfalso; omega))))) dX6_elder_56
      · refine lv_aload_n hx hb dX6_elder_23 rfl (lv_at hl 0 rfl) ?_
        refine Mg0 hx hb hts hin hown hK hP (by decide +kernel) dX6_elder_24 ?_
        refine j_bi hx hb dX6_elder_27 rfl ?_
        refine lv_iload_n hx hb dX6_elder_29 rfl (lv_at hl 2 rfl) ?_
        refine j_add hx hb dX6_elder_30 ?_
        refine Ma0 hx hb hK hP (by omega) dX6_elder_31 ?_
        rw [show (32 + y : Int).toNat = 32 + y.toNat from by omega]
        have r4_46 : bd (s (32 + y.toNat)) := hbs _
        refine lv_goto (tgt := 56) hx hb dX6_elder_32 (by decide) ?_
        exact p_iret hx hb hr hlocks (by (by_cases q0 : (0 ≤ x ∧ x ≤ 1) ∧ (0 ≤ y ∧ y < s 1) <;> first | (rw [if_pos q0]; first | done | (by_cases q1 : x = 0 <;> first | (rw [if_pos q1]; first | done | (first | omega | rfl | (exfalso; omega))) | (rw [if_neg q1]; first | done | (by_cases q2 : s 5 ≠ -9 <;> first | (rw [if_pos q2]; first | done | (first | omega | rfl | (exfalso; omega))) | (rw [if_neg q2]; first | done | (first | omega | rfl | (exfalso; omega))))))) | (rw [if_neg q0]; first | done | (first | omega | rfl | (exfalso; omega))))) dX6_elder_56
    · refine j_c hx hb dX6_elder_17 ?_
      exact p_iret hx hb hr hlocks (by (by_cases q0 : (0 ≤ x ∧ x ≤ 1) ∧ (0 ≤ y ∧ y < s 1) <;> first | (rw [if_pos q0]; first | done | (by_cases q1 : x = 0 <;> first | (rw [if_pos q1]; first | done | (first | omega | rfl | (exfalso; omega))) | (rw [if_neg q1]; first | done | (by_cases q2 : s 5 ≠ -9 <;> first | (rw [if_pos q2]; first | done | (first | omega | rfl | (exfalso; omega))) | (rw [if_neg q2]; first | done | (first | omega | rfl | (exfalso; omega))))))) | (rw [if_neg q0]; first | done | (first | omega | rfl | (exfalso; omega))))) dX6_elder_18
set_option maxHeartbeats 4000000 in
set_option maxRecDepth 100000 in
theorem kX6_villager (l : Launch) (D : va_G) (cI cV : ClassId) (b : Nat → Nat) (s pa he : Nat → Int) (np ru : Int) (t : Nat → Int) (ty at_ rd : Int) (x : Int) (q : Int) (hM : MS s) (r_x : rg x) (r_q : rg q) : PM l yX6_villager wsX6_villager 2 40 [.ref (b 0), .int (iI (x)), .int (iI (q))] (modw cI b s pa he np ru t ty at_ rd) D cI cV (some (.int (iI (if (0 ≤ x ∧ x < s 0) ∧ (0 ≤ q ∧ q ≤ 4) then (if q = 0 then (s (8 + x.toNat)) else (if q = 1 then (s (20 + x.toNat)) else (if q = 2 then (seatL (fun i => s (32 + i)) (x) (s 1).toNat) else (if q = 3 then (seatL (fun i => s ((if s 5 ≠ -9 then (37 : Int) else 32).toNat + i)) (x) (s 1).toNat) else (sm (fun i => b2i (s (224 + 5 * i) = x)) (s 7).toNat))))) else (-1))))) := by
  refine PM.of (cc := cX6_villager) (maxL := 3) (ret := (some .int)) (by decide) rfl (Nat.le_of_ble_eq_true rfl) ?_
  intro p e s0 m below meth c ls hx hb hr hts hown hlocks hml hP hK hl
  have hown : s0.vm.findClass RX6 = some m.cls := hown
  have hin : ∀ w ∈ u_ws RX6 TX6 9, w ∈ wsX6_villager := by decide +kernel
  have hl : lv_has ls 3 [(0, .ref (b 0)), (1, .int (iI (x))), (2, .int (iI (q)))] := hl
  obtain ⟨hbs, h00, h01, h10, h11, h30, h31, h40, h41, h70, h71, h60, h61, hco, hcn⟩ := id hM
  have hb5 := hbs 5
  have hb2 := hbs 2
  refine lv_aload_n hx hb dX6_villager_0 rfl (lv_at hl 0 rfl) ?_
  refine lv_iload_n hx hb dX6_villager_1 rfl (lv_at hl 1 rfl) ?_
  refine p_callV (v := .int (iI (b2i (0 ≤ x ∧ x < s 0)))) (ci := 6) (n := 1) (As := [.int (iI (x))]) (rest := []) ⟨hx, hb, hml, hown, hts⟩ hK (kX6_isVillager l D cI cV b s pa he np ru t ty at_ rd x hM (by omega)) hP rfl rfl gX6_villager_X6_isVillager rfl (by decide +kernel) ⟨Nat.le_of_ble_eq_true rfl, Nat.le_of_ble_eq_true rfl⟩ rfl hl.1 (Nat.le_of_ble_eq_true rfl) dX6_villager_2 ⟨Nat.zero_le _, Nat.zero_le _⟩ rfl ?_
  refine j_beq (tgt := 17) hx hb dX6_villager_5 (by decide) (fun c1 => ?_) (fun c1 => ?_)
  · refine j_c hx hb dX6_villager_17 ?_
    exact p_iret hx hb hr hlocks (by (by_cases q0 : (0 ≤ x ∧ x < s 0) ∧ (0 ≤ q ∧ q ≤ 4) <;> first | (rw [if_pos q0]; first | done | (by_cases q1 : q = 0 <;> first | (rw [if_pos q1]; first | done | (first | omega | rfl | (exfalso; omega))) | (rw [if_neg q1]; first | done | (by_cases q2 : q = 1 <;> first | (rw [if_pos q2]; first | done | (first | omega | rfl | (exfalso; omega))) | (rw [if_neg q2]; first | done | (by_cases q3 : q = 2 <;> first | (rw [if_pos q3]; first | done | (first | omega | rfl | (exfalso; omega))) | (rw [if_neg q3]; first | done | (by_cases q4 : q = 3 <;> first | (rw [if_pos q4]; first | done | (first | omega | rfl | (exfalso; omega))) | (rw [if_neg q4]; first | done | (first | omega | rfl | (exfalso; omega))))))))))) | (rw [if_neg q0]; first | done | (first | omega | rfl | (exfalso; omega))))) dX6_villager_18
  · refine lv_iload_n hx hb dX6_villager_8 rfl (lv_at hl 2 rfl) ?_
    refine j_c hx hb dX6_villager_9 ?_
    refine j_c hx hb dX6_villager_10 ?_
    refine p_callS (v := .int (iI (b2i (0 ≤ q ∧ q ≤ 4)))) (n := 3) (w := []) (As := [.int (iI (q)), .int (iI (0)), .int (iI (4))]) (rest := []) ⟨hx, hb, hml, hown, hts⟩ hK (kX6_in l D cI cV q 0 4 (by omega) (by omega) (by omega)) (fun k q h => by simp at h) gX6_villager_X6_in rfl (by decide +kernel) ⟨Nat.le_of_ble_eq_true rfl, Nat.le_of_ble_eq_true rfl⟩ rfl hl.1 (Nat.le_of_ble_eq_true rfl) dX6_villager_11 ⟨Nat.zero_le _, Nat.zero_le _⟩ rfl ?_
    refine j_bne (tgt := 19) hx hb dX6_villager_14 (by decide) (fun c2 => ?_) (fun c2 => ?_)
    · refine lv_iload_n hx hb dX6_villager_19 rfl (lv_at hl 2 rfl) ?_
      by_cases c3 : q = 0
      · refine j_tin (k := 0) (off := 32) (tgt := 52) hx hb c3 (by decide) dX6_villager_20 (by decide) (by decide) (by decide) (by decide) ?_
        refine lv_aload_n hx hb dX6_villager_52 rfl (lv_at hl 0 rfl) ?_
        refine Mg0 hx hb hts hin hown hK hP (by decide +kernel) dX6_villager_53 ?_
        refine j_bi hx hb dX6_villager_56 rfl ?_
        refine lv_iload_n hx hb dX6_villager_58 rfl (lv_at hl 1 rfl) ?_
        refine j_add hx hb dX6_villager_59 ?_
        refine Ma0 hx hb hK hP (by omega) dX6_villager_60 ?_
        rw [show (8 + x : Int).toNat = 8 + x.toNat from by omega]
        have r3_32 : bd (s (8 + x.toNat)) := hbs _
        exact p_iret hx hb hr hlocks (by (by_cases q0 : (0 ≤ x ∧ x < s 0) ∧ (0 ≤ q ∧ q ≤ 4) <;> first | (rw [if_pos q0]; first | done | (by_cases q1 : q = 0 <;> first | (rw [if_pos q1]; first | done | (first | omega | rfl | (exfalso; omega))) | (rw [if_neg q1]; first | done | (by_cases q2 : q = 1 <;> first | (rw [if_pos q2]; first | done | (first | omega | rfl | (exfalso; omega))) | (rw [if_neg q2]; first | done | (by_cases q3 : q = 2 <;> first | (rw [if_pos q3]; first | done | (first | omega | rfl | (exfalso; omega))) | (rw [if_neg q3]; first | done | (by_cases q4 : q = 3 <;> first | (rw [if_pos q4]; first | done | (first | omega | rfl | (exfalso; omega))) | (rw [if_neg q4]; first | done | (first | omega | rfl | (exfalso; omega))))))))))) | (rw [if_neg q0]; first | done | (first | omega | rfl | (exfalso; omega))))) dX6_villager_61
      by_cases c4 : q = 1
      · refine j_tin (k := 1) (off := 42) (tgt := 62) hx hb c4 (by decide) dX6_villager_20 (by decide) (by decide) (by decide) (by decide) ?_
        refine lv_aload_n hx hb dX6_villager_62 rfl (lv_at hl 0 rfl) ?_
        refine Mg0 hx hb hts hin hown hK hP (by decide +kernel) dX6_villager_63 ?_
        refine j_bi hx hb dX6_villager_66 rfl ?_
        refine lv_iload_n hx hb dX6_villager_68 rfl (lv_at hl 1 rfl) ?_
        refine j_add hx hb dX6_villager_69 ?_
        refine Ma0 hx hb hK hP (by omega) dX6_villager_70 ?_
        rw [show (20 + x : Int).toNat = 20 + x.toNat from by omega]
        have r4_43 : bd (s (20 + x.toNat)) := hbs _
        exact p_iret hx hb hr hlocks (by (by_cases q0 : (0 ≤ x ∧ x < s 0) ∧ (0 ≤ q ∧ q ≤ 4) <;> first | (rw [if_pos q0]; first | done | (by_cases q1 : q = 0 <;> first | (rw [if_pos q1]; first | done | (first | omega | rfl | (exfalso; omega))) | (rw [if_neg q1]; first | done | (by_cases q2 : q = 1 <;> first | (rw [if_pos q2]; first | done | (first | omega | rfl | (exfalso; omega))) | (rw [if_neg q2]; first | done | (by_cases q3 : q = 2 <;> first | (rw [if_pos q3]; first | done | (first | omega | rfl | (exfalso; omega))) | (rw [if_neg q3]; first | done | (by_cases q4 : q = 3 <;> first | (rw [if_pos q4]; first | done | (first | omega | rfl | (exfalso; omega))) | (rw [if_neg q4]; first | done | (first | omega | rfl | (exfalso; omega))))))))))) | (rw [if_neg q0]; first | done | (first | omega | rfl | (exfalso; omega))))) dX6_villager_71
      by_cases c5 : q = 2
      · refine j_tin (k := 2) (off := 52) (tgt := 72) hx hb c5 (by decide) dX6_villager_20 (by decide) (by decide) (by decide) (by decide) ?_
        refine lv_aload_n hx hb dX6_villager_72 rfl (lv_at hl 0 rfl) ?_
        refine j_bi hx hb dX6_villager_73 rfl ?_
        refine lv_iload_n hx hb dX6_villager_75 rfl (lv_at hl 1 rfl) ?_
        refine p_callV (v := .int (iI (seatL (fun i => s (32 + i)) x (s 1).toNat))) (ci := 6) (n := 2) (As := [.int (iI (32)), .int (iI (x))]) (rest := []) ⟨hx, hb, hml, hown, hts⟩ hK (kX6_seatOf l D cI cV b s pa he np ru t ty at_ rd 32 x hM (by omega) (by omega)) hP rfl rfl gX6_villager_X6_seatOf rfl (by decide +kernel) ⟨Nat.le_of_ble_eq_true rfl, Nat.le_of_ble_eq_true rfl⟩ rfl hl.1 (Nat.le_of_ble_eq_true rfl) dX6_villager_76 ⟨Nat.zero_le _, Nat.zero_le _⟩ rfl ?_
        have fq := seatL_rg (el := (fun i => s (32 + i))) (v := x) (s 1).toNat
        exact p_iret hx hb hr hlocks (by (by_cases q0 : (0 ≤ x ∧ x < s 0) ∧ (0 ≤ q ∧ q ≤ 4) <;> first | (rw [if_pos q0]; first | done | (by_cases q1 : q = 0 <;> first | (rw [if_pos q1]; first | done | (first | omega | rfl | (exfalso; omega))) | (rw [if_neg q1]; first | done | (by_cases q2 : q = 1 <;> first | (rw [if_pos q2]; first | done | (first | omega | rfl | (exfalso; omega))) | (rw [if_neg q2]; first | done | (by_cases q3 : q = 2 <;> first | (rw [if_pos q3]; first | done | (first | omega | rfl | (exfalso; omega))) | (rw [if_neg q3]; first | done | (by_cases q4 : q = 3 <;> first | (rw [if_pos q4]; first | done | (first | omega | rfl | (exfalso; omega))) | (rw [if_neg q4]; first | done | (first | omega | rfl | (exfalso; omega))))))))))) | (rw [if_neg q0]; first | done | (first | omega | rfl | (exfalso; omega))))) dX6_villager_79
      by_cases c6 : q = 3
      · refine j_tin (k := 3) (off := 60) (tgt := 80) hx hb c6 (by decide) dX6_villager_20 (by decide) (by decide) (by decide) (by decide) ?_
        refine lv_aload_n hx hb dX6_villager_80 rfl (lv_at hl 0 rfl) ?_
        refine lv_aload_n hx hb dX6_villager_81 rfl (lv_at hl 0 rfl) ?_
        refine p_callV (v := .int (iI (if s 5 ≠ -9 then (37 : Int) else 32))) (ci := 6) (n := 0) (As := []) (rest := [.ref (b 0)]) ⟨hx, hb, hml, hown, hts⟩ hK (kX6_newer l D cI cV b s pa he np ru t ty at_ rd hM) hP rfl rfl gX6_villager_X6_newer rfl (by decide +kernel) ⟨Nat.le_of_ble_eq_true rfl, Nat.le_of_ble_eq_true rfl⟩ rfl hl.1 (Nat.le_of_ble_eq_true rfl) dX6_villager_82 ⟨Nat.zero_le _, Nat.zero_le _⟩ rfl ?_
        refine lv_iload_n hx hb dX6_villager_85 rfl (lv_at hl 1 rfl) ?_
        refine p_callV (v := .int (iI (seatL (fun i => s (((if s 5 ≠ -9 then (37 : Int) else 32).toNat) + i)) x (s 1).toNat))) (ci := 6) (n := 2) (As := [.int (iI (if s 5 ≠ -9 then (37 : Int) else 32)), .int (iI (x))]) (rest := []) ⟨hx, hb, hml, hown, hts⟩ hK (kX6_seatOf l D cI cV b s pa he np ru t ty at_ rd (if s 5 ≠ -9 then (37 : Int) else 32) x hM (by omega) (by omega)) hP rfl rfl gX6_villager_X6_seatOf rfl (by decide +kernel) ⟨Nat.le_of_ble_eq_true rfl, Nat.le_of_ble_eq_true rfl⟩ rfl hl.1 (Nat.le_of_ble_eq_true rfl) dX6_villager_86 ⟨Nat.zero_le _, Nat.zero_le _⟩ rfl ?_
        have fq := seatL_rg (el := (fun i => s (((if s 5 ≠ -9 then (37 : Int) else 32).toNat) + i))) (v := x) (s 1).toNat
        exact p_iret hx hb hr hlocks (by (by_cases q0 : (0 ≤ x ∧ x < s 0) ∧ (0 ≤ q ∧ q ≤ 4) <;> first | (rw [if_pos q0]; first | done | (by_cases q1 : q = 0 <;> first | (rw [if_pos q1]; first | done | (first | omega | rfl | (exfalso; omega))) | (rw [if_neg q1]; first | done | (by_cases q2 : q = 1 <;> first | (rw [if_pos q2]; first | done | (first | omega | rfl | (exfalso; omega))) | (rw [if_neg q2]; first | done | (by_cases q3 : q = 2 <;> first | (rw [if_pos q3]; first | done | (first | omega | rfl | (exfalso; omega))) | (rw [if_neg q3]; first | done | (by_cases q4 : q = 3 <;> first | (rw [if_pos q4]; first | done | (first | omega | rfl | (exfalso; omega))) | (rw [if_neg q4]; first | done | (first | omega | rfl | (exfalso; omega))))))))))) | (rw [if_neg q0]; first | done | (first | omega | rfl | (exfalso; omega))))) dX6_villager_89
      refine j_tout (tgt := 90) hx hb (by omega) dX6_villager_20 (by omega) (by decide) ?_
      refine lv_aload_n hx hb dX6_villager_90 rfl (lv_at hl 0 rfl) ?_
      refine lv_iload_n hx hb dX6_villager_91 rfl (lv_at hl 1 rfl) ?_
      refine p_callV (v := .int (iI (sm (fun i => b2i (s (224 + 5 * i) = x)) (s 7).toNat))) (ci := 6) (n := 1) (As := [.int (iI (x))]) (rest := []) ⟨hx, hb, hml, hown, hts⟩ hK (kX6_timesDrawn l D cI cV b s pa he np ru t ty at_ rd x hM (by omega)) hP rfl rfl gX6_villager_X6_timesDrawn rfl (by decide +kernel) ⟨Nat.le_of_ble_eq_true rfl, Nat.le_of_ble_eq_true rfl⟩ rfl hl.1 (Nat.le_of_ble_eq_true rfl) dX6_villager_92 ⟨Nat.zero_le _, Nat.zero_le _⟩ rfl ?_
      have f66 := sm_rg (f := (fun i => b2i (s (224 + 5 * i) = x))) (fun k => b2i_rg) ((s 7).toNat)
      exact p_iret hx hb hr hlocks (by (by_cases q0 : (0 ≤ x ∧ x < s 0) ∧ (0 ≤ q ∧ q ≤ 4) <;> first | (rw [if_pos q0]; first | done | (by_cases q1 : q = 0 <;> first | (rw [if_pos q1]; first | done | (first | omega | rfl | (exfalso; omega))) | (rw [if_neg q1]; first | done | (by_cases q2 : q = 1 <;> first | (rw [if_pos q2]; first | done | (first | omega | rfl | (exfalso; omega))) | (rw [if_neg q2]; first | done | (by_cases q3 : q = 2 <;> first | (rw [if_pos q3]; first | done | (first | omega | rfl | (exfalso; omega))) | (rw [if_neg q3]; first | done | (by_cases q4 : q = 3 <;> first | (rw [if_pos q4]; first | done | (first | omega | rfl | (exfalso; omega))) | (rw [if_neg q4]; first | done | (first | omega | rfl | (exfalso; omega))))))))))) | (rw [if_neg q0]; first | done | (first | omega | rfl | (exfalso; omega))))) dX6_villager_95
    · refine j_c hx hb dX6_villager_17 ?_
      exact p_iret hx hb hr hlocks (by (by_cases q0 : (0 ≤ x ∧ x < s 0) ∧ (0 ≤ q ∧ q ≤ 4) <;> first | (rw [if_pos q0]; first | done | (by_cases q1 : q = 0 <;> first | (rw [if_pos q1]; first | done | (first | omega | rfl | (exfalso; omega))) | (rw [if_neg q1]; first | done | (by_cases q2 : q = 1 <;> first | (rw [if_pos q2]; first | done | (first | omega | rfl | (exfalso; omega))) | (rw [if_neg q2]; first | done | (by_cases q3 : q = 2 <;> first | (rw [if_pos q3]; first | done | (first | omega | rfl | (exfalso; omega))) | (rw [if_neg q3]; first | done | (by_cases q4 : q = 3 <;> first | (rw [if_pos q4]; first | done | (first | omega | rfl | (exfalso; omega))) | (rw [if_neg q4]; first | done | (first | omega | rfl | (exfalso; omega))))))))))) | (rw [if_neg q0]; first | done | (first | omega | rfl | (exfalso; omega))))) dX6_villager_18
set_option maxHeartbeats 4000000 in
set_option maxRecDepth 100000 in
theorem kX6_entry (l : Launch) (D : va_G) (cI cV : ClassId) (b : Nat → Nat) (s pa he : Nat → Int) (np ru : Int) (t : Nat → Int) (ty at_ rd : Int) (y : Int) (q : Int) (hM : MS s) (r_y : rg y) (r_q : rg q) : PM l yX6_entry wsX6_entry 2 40 [.ref (b 0), .int (iI (y)), .int (iI (q))] (modw cI b s pa he np ru t ty at_ rd) D cI cV (some (.int (iI (if (0 ≤ y ∧ y < s 3) ∧ (0 ≤ q ∧ q ≤ 6) then (if q = 2 then (if y < s 4 then (1) else (0)) else (if q = 3 then (sm (fun i => b2i (y < s (20 + i))) (s 0).toNat) else (if q = 4 then (s (44 + 3 * y.toNat)) else (if q = 5 then (sm (fun i => b2i ((y) < s (20 + (s (32 + i)).toNat))) (s 1).toNat) else (if q = 6 then (sm (fun i => b2i ((y) < s (20 + (s ((if s 5 ≠ -9 then (37 : Int) else 32).toNat + i)).toNat))) (s 1).toNat) else (s (42 + 3 * y.toNat + q.toNat))))))) else (-1))))) := by
  refine PM.of (cc := cX6_entry) (maxL := 3) (ret := (some .int)) (by decide) rfl (Nat.le_of_ble_eq_true rfl) ?_
  intro p e s0 m below meth c ls hx hb hr hts hown hlocks hml hP hK hl
  have hown : s0.vm.findClass RX6 = some m.cls := hown
  have hin : ∀ w ∈ u_ws RX6 TX6 9, w ∈ wsX6_entry := by decide +kernel
  have hl : lv_has ls 3 [(0, .ref (b 0)), (1, .int (iI (y))), (2, .int (iI (q)))] := hl
  obtain ⟨hbs, h00, h01, h10, h11, h30, h31, h40, h41, h70, h71, h60, h61, hco, hcn⟩ := id hM
  have hb5 := hbs 5
  have hb2 := hbs 2
  refine lv_aload_n hx hb dX6_entry_0 rfl (lv_at hl 0 rfl) ?_
  refine lv_iload_n hx hb dX6_entry_1 rfl (lv_at hl 1 rfl) ?_
  refine p_callV (v := .int (iI (b2i (0 ≤ y ∧ y < s 3)))) (ci := 6) (n := 1) (As := [.int (iI (y))]) (rest := []) ⟨hx, hb, hml, hown, hts⟩ hK (kX6_isEntry l D cI cV b s pa he np ru t ty at_ rd y hM (by omega)) hP rfl rfl gX6_entry_X6_isEntry rfl (by decide +kernel) ⟨Nat.le_of_ble_eq_true rfl, Nat.le_of_ble_eq_true rfl⟩ rfl hl.1 (Nat.le_of_ble_eq_true rfl) dX6_entry_2 ⟨Nat.zero_le _, Nat.zero_le _⟩ rfl ?_
  refine j_beq (tgt := 18) hx hb dX6_entry_5 (by decide) (fun c1 => ?_) (fun c1 => ?_)
  · refine j_c hx hb dX6_entry_18 ?_
    exact p_iret hx hb hr hlocks (by (by_cases q0 : (0 ≤ y ∧ y < s 3) ∧ (0 ≤ q ∧ q ≤ 6) <;> first | (rw [if_pos q0]; first | done | (by_cases q1 : q = 2 <;> first | (rw [if_pos q1]; first | done | (by_cases q2 : y < s 4 <;> first | (rw [if_pos q2]; first | done | (first | omega | rfl | (exfalso; omega))) | (rw [if_neg q2]; first | done | (first | omega | rfl | (exfalso; omega))))) | (rw [if_neg q1]; first | done | (by_cases q2 : q = 3 <;> first | (rw [if_pos q2]; first | done | (first | omega | rfl | (exfalso; omega))) | (rw [if_neg q2]; first | done | (by_cases q3 : q = 4 <;> first | (rw [if_pos q3]; first | done | (first | omega | rfl | (exfalso; omega))) | (rw [if_neg q3]; first | done | (by_cases q4 : q = 5 <;> first | (rw [if_pos q4]; first | done | (first | omega | rfl | (exfalso; omega))) | (rw [if_neg q4]; first | done | (by_cases q5 : q = 6 <;> first | (rw [if_pos q5]; first | done | (first | omega | rfl | (exfalso; omega))) | (rw [if_neg q5]; first | done | (first | omega | rfl | (exfalso; omega))))))))))))) | (rw [if_neg q0]; first | done | (first | omega | rfl | (exfalso; omega))))) dX6_entry_19
  · refine lv_iload_n hx hb dX6_entry_8 rfl (lv_at hl 2 rfl) ?_
    refine j_c hx hb dX6_entry_9 ?_
    refine j_bi hx hb dX6_entry_10 rfl ?_
    refine p_callS (v := .int (iI (b2i (0 ≤ q ∧ q ≤ 6)))) (n := 3) (w := []) (As := [.int (iI (q)), .int (iI (0)), .int (iI (6))]) (rest := []) ⟨hx, hb, hml, hown, hts⟩ hK (kX6_in l D cI cV q 0 6 (by omega) (by omega) (by omega)) (fun k q h => by simp at h) gX6_entry_X6_in rfl (by decide +kernel) ⟨Nat.le_of_ble_eq_true rfl, Nat.le_of_ble_eq_true rfl⟩ rfl hl.1 (Nat.le_of_ble_eq_true rfl) dX6_entry_12 ⟨Nat.zero_le _, Nat.zero_le _⟩ rfl ?_
    refine j_bne (tgt := 20) hx hb dX6_entry_15 (by decide) (fun c2 => ?_) (fun c2 => ?_)
    · refine lv_iload_n hx hb dX6_entry_20 rfl (lv_at hl 2 rfl) ?_
      by_cases c3 : q = 2
      · refine j_tin (k := 2) (off := 35) (tgt := 56) hx hb c3 (by decide) dX6_entry_21 (by decide) (by decide) (by decide) (by decide) ?_
        refine lv_iload_n hx hb dX6_entry_56 rfl (lv_at hl 1 rfl) ?_
        refine lv_aload_n hx hb dX6_entry_57 rfl (lv_at hl 0 rfl) ?_
        refine Mg0 hx hb hts hin hown hK hP (by decide +kernel) dX6_entry_58 ?_
        refine j_c hx hb dX6_entry_61 ?_
        refine Ma0 hx hb hK hP (by omega) dX6_entry_62 ?_
        rw [show (4 : Int).toNat = 4 from by omega]
        have r3_31 : bd (s 4) := hbs _
        refine j_ige (tgt := 70) hx hb (by omega) (by omega) dX6_entry_63 (by decide) (fun c4 => ?_) (fun c4 => ?_)
        · refine j_c hx hb dX6_entry_70 ?_
          exact p_iret hx hb hr hlocks (by (by_cases q0 : (0 ≤ y ∧ y < s 3) ∧ (0 ≤ q ∧ q ≤ 6) <;> first | (rw [if_pos q0]; first | done | (by_cases q1 : q = 2 <;> first | (rw [if_pos q1]; first | done | (by_cases q2 : y < s 4 <;> first | (rw [if_pos q2]; first | done | (first | omega | rfl | (exfalso; omega))) | (rw [if_neg q2]; first | done | (first | omega | rfl | (exfalso; omega))))) | (rw [if_neg q1]; first | done | (by_cases q2 : q = 3 <;> first | (rw [if_pos q2]; first | done | (first | omega | rfl | (exfalso; omega))) | (rw [if_neg q2]; first | done | (by_cases q3 : q = 4 <;> first | (rw [if_pos q3]; first | done | (first | omega | rfl | (exfalso; omega))) | (rw [if_neg q3]; first | done | (by_cases q4 : q = 5 <;> first | (rw [if_pos q4]; first | done | (first | omega | rfl | (exfalso; omega))) | (rw [if_neg q4]; first | done | (by_cases q5 : q = 6 <;> first | (rw [if_pos q5]; first | done | (first | omega | rfl | (exfalso; omega))) | (rw [if_neg q5]; first | done | (first | omega | rfl | (exfalso; omega))))))))))))) | (rw [if_neg q0]; first | done | (first | omega | rfl | (exfalso; omega))))) dX6_entry_71
        · refine j_c hx hb dX6_entry_66 ?_
          refine lv_goto (tgt := 71) hx hb dX6_entry_67 (by decide) ?_
          exact p_iret hx hb hr hlocks (by (by_cases q0 : (0 ≤ y ∧ y < s 3) ∧ (0 ≤ q ∧ q ≤ 6) <;> first | (rw [if_pos q0]; first | done | (by_cases q1 : q = 2 <;> first | (rw [if_pos q1]; first | done | (by_cases q2 : y < s 4 <;> first | (rw [if_pos q2]; first | done | (first | omega | rfl | (exfalso; omega))) | (rw [if_neg q2]; first | done | (first | omega | rfl | (exfalso; omega))))) | (rw [if_neg q1]; first | done | (by_cases q2 : q = 3 <;> first | (rw [if_pos q2]; first | done | (first | omega | rfl | (exfalso; omega))) | (rw [if_neg q2]; first | done | (by_cases q3 : q = 4 <;> first | (rw [if_pos q3]; first | done | (first | omega | rfl | (exfalso; omega))) | (rw [if_neg q3]; first | done | (by_cases q4 : q = 5 <;> first | (rw [if_pos q4]; first | done | (first | omega | rfl | (exfalso; omega))) | (rw [if_neg q4]; first | done | (by_cases q5 : q = 6 <;> first | (rw [if_pos q5]; first | done | (first | omega | rfl | (exfalso; omega))) | (rw [if_neg q5]; first | done | (first | omega | rfl | (exfalso; omega))))))))))))) | (rw [if_neg q0]; first | done | (first | omega | rfl | (exfalso; omega))))) dX6_entry_71
      by_cases c5 : q = 3
      · refine j_tin (k := 3) (off := 51) (tgt := 72) hx hb c5 (by decide) dX6_entry_21 (by decide) (by decide) (by decide) (by decide) ?_
        refine lv_aload_n hx hb dX6_entry_72 rfl (lv_at hl 0 rfl) ?_
        refine lv_iload_n hx hb dX6_entry_73 rfl (lv_at hl 1 rfl) ?_
        refine p_callV (v := .int (iI (sm (fun i => b2i (y < s (20 + i))) (s 0).toNat))) (ci := 6) (n := 1) (As := [.int (iI (y))]) (rest := []) ⟨hx, hb, hml, hown, hts⟩ hK (kX6_copies l D cI cV b s pa he np ru t ty at_ rd y hM (by omega)) hP rfl rfl gX6_entry_X6_copies rfl (by decide +kernel) ⟨Nat.le_of_ble_eq_true rfl, Nat.le_of_ble_eq_true rfl⟩ rfl hl.1 (Nat.le_of_ble_eq_true rfl) dX6_entry_74 ⟨Nat.zero_le _, Nat.zero_le _⟩ rfl ?_
        have f43 := sm_rg (f := (fun i => b2i (y < s (20 + i)))) (fun k => b2i_rg) ((s 0).toNat)
        exact p_iret hx hb hr hlocks (by (by_cases q0 : (0 ≤ y ∧ y < s 3) ∧ (0 ≤ q ∧ q ≤ 6) <;> first | (rw [if_pos q0]; first | done | (by_cases q1 : q = 2 <;> first | (rw [if_pos q1]; first | done | (by_cases q2 : y < s 4 <;> first | (rw [if_pos q2]; first | done | (first | omega | rfl | (exfalso; omega))) | (rw [if_neg q2]; first | done | (first | omega | rfl | (exfalso; omega))))) | (rw [if_neg q1]; first | done | (by_cases q2 : q = 3 <;> first | (rw [if_pos q2]; first | done | (first | omega | rfl | (exfalso; omega))) | (rw [if_neg q2]; first | done | (by_cases q3 : q = 4 <;> first | (rw [if_pos q3]; first | done | (first | omega | rfl | (exfalso; omega))) | (rw [if_neg q3]; first | done | (by_cases q4 : q = 5 <;> first | (rw [if_pos q4]; first | done | (first | omega | rfl | (exfalso; omega))) | (rw [if_neg q4]; first | done | (by_cases q5 : q = 6 <;> first | (rw [if_pos q5]; first | done | (first | omega | rfl | (exfalso; omega))) | (rw [if_neg q5]; first | done | (first | omega | rfl | (exfalso; omega))))))))))))) | (rw [if_neg q0]; first | done | (first | omega | rfl | (exfalso; omega))))) dX6_entry_77
      by_cases c6 : q = 4
      · refine j_tin (k := 4) (off := 57) (tgt := 78) hx hb c6 (by decide) dX6_entry_21 (by decide) (by decide) (by decide) (by decide) ?_
        refine lv_aload_n hx hb dX6_entry_78 rfl (lv_at hl 0 rfl) ?_
        refine Mg0 hx hb hts hin hown hK hP (by decide +kernel) dX6_entry_79 ?_
        refine j_bi hx hb dX6_entry_82 rfl ?_
        refine j_c hx hb dX6_entry_84 ?_
        refine lv_iload_n hx hb dX6_entry_85 rfl (lv_at hl 1 rfl) ?_
        refine j_mul hx hb dX6_entry_86 ?_
        refine j_add hx hb dX6_entry_87 ?_
        refine j_c hx hb dX6_entry_88 ?_
        refine j_add hx hb dX6_entry_89 ?_
        refine Ma0 hx hb hK hP (by omega) dX6_entry_90 ?_
        rw [show ((42 + (3 * y)) + 2 : Int).toNat = 44 + 3 * y.toNat from by omega]
        have r6_58 : bd (s (44 + 3 * y.toNat)) := hbs _
        exact p_iret hx hb hr hlocks (by (by_cases q0 : (0 ≤ y ∧ y < s 3) ∧ (0 ≤ q ∧ q ≤ 6) <;> first | (rw [if_pos q0]; first | done | (by_cases q1 : q = 2 <;> first | (rw [if_pos q1]; first | done | (by_cases q2 : y < s 4 <;> first | (rw [if_pos q2]; first | done | (first | omega | rfl | (exfalso; omega))) | (rw [if_neg q2]; first | done | (first | omega | rfl | (exfalso; omega))))) | (rw [if_neg q1]; first | done | (by_cases q2 : q = 3 <;> first | (rw [if_pos q2]; first | done | (first | omega | rfl | (exfalso; omega))) | (rw [if_neg q2]; first | done | (by_cases q3 : q = 4 <;> first | (rw [if_pos q3]; first | done | (first | omega | rfl | (exfalso; omega))) | (rw [if_neg q3]; first | done | (by_cases q4 : q = 5 <;> first | (rw [if_pos q4]; first | done | (first | omega | rfl | (exfalso; omega))) | (rw [if_neg q4]; first | done | (by_cases q5 : q = 6 <;> first | (rw [if_pos q5]; first | done | (first | omega | rfl | (exfalso; omega))) | (rw [if_neg q5]; first | done | (first | omega | rfl | (exfalso; omega))))))))))))) | (rw [if_neg q0]; first | done | (first | omega | rfl | (exfalso; omega))))) dX6_entry_91
      by_cases c7 : q = 5
      · refine j_tin (k := 5) (off := 71) (tgt := 92) hx hb c7 (by decide) dX6_entry_21 (by decide) (by decide) (by decide) (by decide) ?_
        refine lv_aload_n hx hb dX6_entry_92 rfl (lv_at hl 0 rfl) ?_
        refine j_bi hx hb dX6_entry_93 rfl ?_
        refine lv_iload_n hx hb dX6_entry_95 rfl (lv_at hl 1 rfl) ?_
        refine p_callV (v := .int (iI (sm (fun i => b2i ((y) < s (20 + (s (32 + i)).toNat))) (s 1).toNat))) (ci := 6) (n := 2) (As := [.int (iI (32)), .int (iI (y))]) (rest := []) ⟨hx, hb, hml, hown, hts⟩ hK (kX6_having l D cI cV b s pa he np ru t ty at_ rd 32 y hM (by omega) (by omega)) hP rfl rfl gX6_entry_X6_having rfl (by decide +kernel) ⟨Nat.le_of_ble_eq_true rfl, Nat.le_of_ble_eq_true rfl⟩ rfl hl.1 (Nat.le_of_ble_eq_true rfl) dX6_entry_96 ⟨Nat.zero_le _, Nat.zero_le _⟩ rfl ?_
        have f66 := sm_rg (f := (fun i => b2i ((y) < s (20 + (s (32 + i)).toNat)))) (fun k => b2i_rg) ((s 1).toNat)
        exact p_iret hx hb hr hlocks (by (by_cases q0 : (0 ≤ y ∧ y < s 3) ∧ (0 ≤ q ∧ q ≤ 6) <;> first | (rw [if_pos q0]; first | done | (by_cases q1 : q = 2 <;> first | (rw [if_pos q1]; first | done | (by_cases q2 : y < s 4 <;> first | (rw [if_pos q2]; first | done | (first | omega | rfl | (exfalso; omega))) | (rw [if_neg q2]; first | done | (first | omega | rfl | (exfalso; omega))))) | (rw [if_neg q1]; first | done | (by_cases q2 : q = 3 <;> first | (rw [if_pos q2]; first | done | (first | omega | rfl | (exfalso; omega))) | (rw [if_neg q2]; first | done | (by_cases q3 : q = 4 <;> first | (rw [if_pos q3]; first | done | (first | omega | rfl | (exfalso; omega))) | (rw [if_neg q3]; first | done | (by_cases q4 : q = 5 <;> first | (rw [if_pos q4]; first | done | (first | omega | rfl | (exfalso; omega))) | (rw [if_neg q4]; first | done | (by_cases q5 : q = 6 <;> first | (rw [if_pos q5]; first | done | (first | omega | rfl | (exfalso; omega))) | (rw [if_neg q5]; first | done | (first | omega | rfl | (exfalso; omega))))))))))))) | (rw [if_neg q0]; first | done | (first | omega | rfl | (exfalso; omega))))) dX6_entry_99
      by_cases c8 : q = 6
      · refine j_tin (k := 6) (off := 79) (tgt := 100) hx hb c8 (by decide) dX6_entry_21 (by decide) (by decide) (by decide) (by decide) ?_
        refine lv_aload_n hx hb dX6_entry_100 rfl (lv_at hl 0 rfl) ?_
        refine lv_aload_n hx hb dX6_entry_101 rfl (lv_at hl 0 rfl) ?_
        refine p_callV (v := .int (iI (if s 5 ≠ -9 then (37 : Int) else 32))) (ci := 6) (n := 0) (As := []) (rest := [.ref (b 0)]) ⟨hx, hb, hml, hown, hts⟩ hK (kX6_newer l D cI cV b s pa he np ru t ty at_ rd hM) hP rfl rfl gX6_entry_X6_newer rfl (by decide +kernel) ⟨Nat.le_of_ble_eq_true rfl, Nat.le_of_ble_eq_true rfl⟩ rfl hl.1 (Nat.le_of_ble_eq_true rfl) dX6_entry_102 ⟨Nat.zero_le _, Nat.zero_le _⟩ rfl ?_
        refine lv_iload_n hx hb dX6_entry_105 rfl (lv_at hl 1 rfl) ?_
        refine p_callV (v := .int (iI (sm (fun i => b2i ((y) < s (20 + (s (((if s 5 ≠ -9 then (37 : Int) else 32).toNat) + i)).toNat))) (s 1).toNat))) (ci := 6) (n := 2) (As := [.int (iI (if s 5 ≠ -9 then (37 : Int) else 32)), .int (iI (y))]) (rest := []) ⟨hx, hb, hml, hown, hts⟩ hK (kX6_having l D cI cV b s pa he np ru t ty at_ rd (if s 5 ≠ -9 then (37 : Int) else 32) y hM (by omega) (by omega)) hP rfl rfl gX6_entry_X6_having rfl (by decide +kernel) ⟨Nat.le_of_ble_eq_true rfl, Nat.le_of_ble_eq_true rfl⟩ rfl hl.1 (Nat.le_of_ble_eq_true rfl) dX6_entry_106 ⟨Nat.zero_le _, Nat.zero_le _⟩ rfl ?_
        have f75 := sm_rg (f := (fun i => b2i ((y) < s (20 + (s (((if s 5 ≠ -9 then (37 : Int) else 32).toNat) + i)).toNat)))) (fun k => b2i_rg) ((s 1).toNat)
        exact p_iret hx hb hr hlocks (by (by_cases q0 : (0 ≤ y ∧ y < s 3) ∧ (0 ≤ q ∧ q ≤ 6) <;> first | (rw [if_pos q0]; first | done | (by_cases q1 : q = 2 <;> first | (rw [if_pos q1]; first | done | (by_cases q2 : y < s 4 <;> first | (rw [if_pos q2]; first | done | (first | omega | rfl | (exfalso; omega))) | (rw [if_neg q2]; first | done | (first | omega | rfl | (exfalso; omega))))) | (rw [if_neg q1]; first | done | (by_cases q2 : q = 3 <;> first | (rw [if_pos q2]; first | done | (first | omega | rfl | (exfalso; omega))) | (rw [if_neg q2]; first | done | (by_cases q3 : q = 4 <;> first | (rw [if_pos q3]; first | done | (first | omega | rfl | (exfalso; omega))) | (rw [if_neg q3]; first | done | (by_cases q4 : q = 5 <;> first | (rw [if_pos q4]; first | done | (first | omega | rfl | (exfalso; omega))) | (rw [if_neg q4]; first | done | (by_cases q5 : q = 6 <;> first | (rw [if_pos q5]; first | done | (first | omega | rfl | (exfalso; omega))) | (rw [if_neg q5]; first | done | (first | omega | rfl | (exfalso; omega))))))))))))) | (rw [if_neg q0]; first | done | (first | omega | rfl | (exfalso; omega))))) dX6_entry_109
      refine j_tout (tgt := 110) hx hb (by omega) dX6_entry_21 (by omega) (by decide) ?_
      refine lv_aload_n hx hb dX6_entry_110 rfl (lv_at hl 0 rfl) ?_
      refine Mg0 hx hb hts hin hown hK hP (by decide +kernel) dX6_entry_111 ?_
      refine j_bi hx hb dX6_entry_114 rfl ?_
      refine j_c hx hb dX6_entry_116 ?_
      refine lv_iload_n hx hb dX6_entry_117 rfl (lv_at hl 1 rfl) ?_
      refine j_mul hx hb dX6_entry_118 ?_
      refine j_add hx hb dX6_entry_119 ?_
      refine lv_iload_n hx hb dX6_entry_120 rfl (lv_at hl 2 rfl) ?_
      refine j_add hx hb dX6_entry_121 ?_
      refine Ma0 hx hb hK hP (by omega) dX6_entry_122 ?_
      rw [show ((42 + (3 * y)) + q : Int).toNat = 42 + 3 * y.toNat + q.toNat from by omega]
      have r8_89 : bd (s (42 + 3 * y.toNat + q.toNat)) := hbs _
      exact p_iret hx hb hr hlocks (by (by_cases q0 : (0 ≤ y ∧ y < s 3) ∧ (0 ≤ q ∧ q ≤ 6) <;> first | (rw [if_pos q0]; first | done | (by_cases q1 : q = 2 <;> first | (rw [if_pos q1]; first | done | (by_cases q2 : y < s 4 <;> first | (rw [if_pos q2]; first | done | (first | omega | rfl | (exfalso; omega))) | (rw [if_neg q2]; first | done | (first | omega | rfl | (exfalso; omega))))) | (rw [if_neg q1]; first | done | (by_cases q2 : q = 3 <;> first | (rw [if_pos q2]; first | done | (first | omega | rfl | (exfalso; omega))) | (rw [if_neg q2]; first | done | (by_cases q3 : q = 4 <;> first | (rw [if_pos q3]; first | done | (first | omega | rfl | (exfalso; omega))) | (rw [if_neg q3]; first | done | (by_cases q4 : q = 5 <;> first | (rw [if_pos q4]; first | done | (first | omega | rfl | (exfalso; omega))) | (rw [if_neg q4]; first | done | (by_cases q5 : q = 6 <;> first | (rw [if_pos q5]; first | done | (first | omega | rfl | (exfalso; omega))) | (rw [if_neg q5]; first | done | (first | omega | rfl | (exfalso; omega))))))))))))) | (rw [if_neg q0]; first | done | (first | omega | rfl | (exfalso; omega))))) dX6_entry_123
    · refine j_c hx hb dX6_entry_18 ?_
      exact p_iret hx hb hr hlocks (by (by_cases q0 : (0 ≤ y ∧ y < s 3) ∧ (0 ≤ q ∧ q ≤ 6) <;> first | (rw [if_pos q0]; first | done | (by_cases q1 : q = 2 <;> first | (rw [if_pos q1]; first | done | (by_cases q2 : y < s 4 <;> first | (rw [if_pos q2]; first | done | (first | omega | rfl | (exfalso; omega))) | (rw [if_neg q2]; first | done | (first | omega | rfl | (exfalso; omega))))) | (rw [if_neg q1]; first | done | (by_cases q2 : q = 3 <;> first | (rw [if_pos q2]; first | done | (first | omega | rfl | (exfalso; omega))) | (rw [if_neg q2]; first | done | (by_cases q3 : q = 4 <;> first | (rw [if_pos q3]; first | done | (first | omega | rfl | (exfalso; omega))) | (rw [if_neg q3]; first | done | (by_cases q4 : q = 5 <;> first | (rw [if_pos q4]; first | done | (first | omega | rfl | (exfalso; omega))) | (rw [if_neg q4]; first | done | (by_cases q5 : q = 6 <;> first | (rw [if_pos q5]; first | done | (first | omega | rfl | (exfalso; omega))) | (rw [if_neg q5]; first | done | (first | omega | rfl | (exfalso; omega))))))))))))) | (rw [if_neg q0]; first | done | (first | omega | rfl | (exfalso; omega))))) dX6_entry_19
set_option maxHeartbeats 4000000 in
set_option maxRecDepth 100000 in
theorem kX6_draw (l : Launch) (D : va_G) (cI cV : ClassId) (b : Nat → Nat) (s pa he : Nat → Int) (np ru : Int) (t : Nat → Int) (ty at_ rd : Int) (x : Int) (q : Int) (hM : MS s) (r_x : rg x) (r_q : rg q) : PM l yX6_draw wsX6_draw 1 22 [.ref (b 0), .int (iI (x)), .int (iI (q))] (modw cI b s pa he np ru t ty at_ rd) D cI cV (some (.int (iI (if (0 ≤ x ∧ x < s 7) ∧ (0 ≤ q ∧ q ≤ 4) then (if q = 3 then (b2i (s (224 + 5 * x.toNat) ≠ s (225 + 5 * x.toNat))) else (s (222 + 5 * x.toNat + q.toNat))) else (-1))))) := by
  refine PM.of (cc := cX6_draw) (maxL := 3) (ret := (some .int)) (by decide) rfl (Nat.le_of_ble_eq_true rfl) ?_
  intro p e s0 m below meth c ls hx hb hr hts hown hlocks hml hP hK hl
  have hown : s0.vm.findClass RX6 = some m.cls := hown
  have hin : ∀ w ∈ u_ws RX6 TX6 9, w ∈ wsX6_draw := by decide +kernel
  have hl : lv_has ls 3 [(0, .ref (b 0)), (1, .int (iI (x))), (2, .int (iI (q)))] := hl
  obtain ⟨hbs, h00, h01, h10, h11, h30, h31, h40, h41, h70, h71, h60, h61, hco, hcn⟩ := id hM
  have hb5 := hbs 5
  have hb2 := hbs 2
  refine lv_iload_n hx hb dX6_draw_0 rfl (lv_at hl 1 rfl) ?_
  refine j_zlt (tgt := 24) hx hb (by omega) dX6_draw_1 (by decide) (fun c1 => ?_) (fun c1 => ?_)
  · refine j_c hx hb dX6_draw_24 ?_
    exact p_iret hx hb hr hlocks (by (by_cases q0 : (0 ≤ x ∧ x < s 7) ∧ (0 ≤ q ∧ q ≤ 4) <;> first | (rw [if_pos q0]; first | done | (by_cases q1 : q = 3 <;> first | (rw [if_pos q1]; first | done | (first | omega | rfl | exact (b2i_t (by omega)).symm | exact (b2i_f (by omega)).symm | (exfalso; omega))) | (rw [if_neg q1]; first | done | (first | omega | rfl | exact (b2i_t (by omega)).symm | exact (b2i_f (by omega)).symm | (exfalso; omega))))) | (rw [if_neg q0]; first | done | (first | omega | rfl | exact (b2i_t (by omega)).symm | exact (b2i_f (by omega)).symm | (exfalso; omega))))) dX6_draw_25
  · refine lv_iload_n hx hb dX6_draw_4 rfl (lv_at hl 1 rfl) ?_
    refine lv_aload_n hx hb dX6_draw_5 rfl (lv_at hl 0 rfl) ?_
    refine Mg0 hx hb hts hin hown hK hP (by decide +kernel) dX6_draw_6 ?_
    refine j_bi hx hb dX6_draw_9 rfl ?_
    refine Ma0 hx hb hK hP (by omega) dX6_draw_11 ?_
    rw [show (7 : Int).toNat = 7 from by omega]
    have r1_21 : bd (s 7) := hbs _
    refine j_ige (tgt := 24) hx hb (by omega) (by omega) dX6_draw_12 (by decide) (fun c2 => ?_) (fun c2 => ?_)
    · refine j_c hx hb dX6_draw_24 ?_
      exact p_iret hx hb hr hlocks (by (by_cases q0 : (0 ≤ x ∧ x < s 7) ∧ (0 ≤ q ∧ q ≤ 4) <;> first | (rw [if_pos q0]; first | done | (by_cases q1 : q = 3 <;> first | (rw [if_pos q1]; first | done | (first | omega | rfl | exact (b2i_t (by omega)).symm | exact (b2i_f (by omega)).symm | (exfalso; omega))) | (rw [if_neg q1]; first | done | (first | omega | rfl | exact (b2i_t (by omega)).symm | exact (b2i_f (by omega)).symm | (exfalso; omega))))) | (rw [if_neg q0]; first | done | (first | omega | rfl | exact (b2i_t (by omega)).symm | exact (b2i_f (by omega)).symm | (exfalso; omega))))) dX6_draw_25
    · refine lv_iload_n hx hb dX6_draw_15 rfl (lv_at hl 2 rfl) ?_
      refine j_c hx hb dX6_draw_16 ?_
      refine j_c hx hb dX6_draw_17 ?_
      refine p_callS (v := .int (iI (b2i (0 ≤ q ∧ q ≤ 4)))) (n := 3) (w := []) (As := [.int (iI (q)), .int (iI (0)), .int (iI (4))]) (rest := []) ⟨hx, hb, hml, hown, hts⟩ hK (kX6_in l D cI cV q 0 4 (by omega) (by omega) (by omega)) (fun k q h => by simp at h) gX6_draw_X6_in rfl (by decide +kernel) ⟨Nat.le_of_ble_eq_true rfl, Nat.le_of_ble_eq_true rfl⟩ rfl hl.1 (Nat.le_of_ble_eq_true rfl) dX6_draw_18 ⟨Nat.zero_le _, Nat.zero_le _⟩ rfl ?_
      refine j_bne (tgt := 26) hx hb dX6_draw_21 (by decide) (fun c3 => ?_) (fun c3 => ?_)
      · refine lv_iload_n hx hb dX6_draw_26 rfl (lv_at hl 2 rfl) ?_
        refine j_c hx hb dX6_draw_27 ?_
        refine j_ine (tgt := 47) hx hb (by omega) (by omega) dX6_draw_28 (by decide) (fun c4 => ?_) (fun c4 => ?_)
        · refine lv_aload_n hx hb dX6_draw_47 rfl (lv_at hl 0 rfl) ?_
          refine Mg0 hx hb hts hin hown hK hP (by decide +kernel) dX6_draw_48 ?_
          refine j_si hx hb dX6_draw_51 rfl ?_
          refine j_c hx hb dX6_draw_54 ?_
          refine lv_iload_n hx hb dX6_draw_55 rfl (lv_at hl 1 rfl) ?_
          refine j_mul hx hb dX6_draw_56 ?_
          refine j_add hx hb dX6_draw_57 ?_
          refine lv_iload_n hx hb dX6_draw_58 rfl (lv_at hl 2 rfl) ?_
          refine j_add hx hb dX6_draw_59 ?_
          refine Ma0 hx hb hK hP (by omega) dX6_draw_60 ?_
          rw [show ((222 + (5 * x)) + q : Int).toNat = 222 + 5 * x.toNat + q.toNat from by omega]
          have r4_44 : bd (s (222 + 5 * x.toNat + q.toNat)) := hbs _
          exact p_iret hx hb hr hlocks (by (by_cases q0 : (0 ≤ x ∧ x < s 7) ∧ (0 ≤ q ∧ q ≤ 4) <;> first | (rw [if_pos q0]; first | done | (by_cases q1 : q = 3 <;> first | (rw [if_pos q1]; first | done | (first | omega | rfl | exact (b2i_t (by omega)).symm | exact (b2i_f (by omega)).symm | (exfalso; omega))) | (rw [if_neg q1]; first | done | (first | omega | rfl | exact (b2i_t (by omega)).symm | exact (b2i_f (by omega)).symm | (exfalso; omega))))) | (rw [if_neg q0]; first | done | (first | omega | rfl | exact (b2i_t (by omega)).symm | exact (b2i_f (by omega)).symm | (exfalso; omega))))) dX6_draw_61
        · refine lv_aload_n hx hb dX6_draw_31 rfl (lv_at hl 0 rfl) ?_
          refine lv_iload_n hx hb dX6_draw_32 rfl (lv_at hl 1 rfl) ?_
          refine p_callV (v := .int (iI (b2i (s (224 + 5 * x.toNat) ≠ s (225 + 5 * x.toNat))))) (ci := 6) (n := 1) (As := [.int (iI (x))]) (rest := []) ⟨hx, hb, hml, hown, hts⟩ hK (kX6_isForged l D cI cV b s pa he np ru t ty at_ rd x hM (by omega)) hP rfl rfl gX6_draw_X6_isForged rfl (by decide +kernel) ⟨Nat.le_of_ble_eq_true rfl, Nat.le_of_ble_eq_true rfl⟩ rfl hl.1 (Nat.le_of_ble_eq_true rfl) dX6_draw_33 ⟨Nat.zero_le _, Nat.zero_le _⟩ rfl ?_
          refine j_beq (tgt := 43) hx hb dX6_draw_36 (by decide) (fun c5 => ?_) (fun c5 => ?_)
          · refine j_c hx hb dX6_draw_43 ?_
            refine lv_goto (tgt := 61) hx hb dX6_draw_44 (by decide) ?_
            exact p_iret hx hb hr hlocks (by (by_cases q0 : (0 ≤ x ∧ x < s 7) ∧ (0 ≤ q ∧ q ≤ 4) <;> first | (rw [if_pos q0]; first | done | (by_cases q1 : q = 3 <;> first | (rw [if_pos q1]; first | done | (first | omega | rfl | exact (b2i_t (by omega)).symm | exact (b2i_f (by omega)).symm | (exfalso; omega))) | (rw [if_neg q1]; first | done | (first | omega | rfl | exact (b2i_t (by omega)).symm | exact (b2i_f (by omega)).symm | (exfalso; omega))))) | (rw [if_neg q0]; first | done | (first | omega | rfl | exact (b2i_t (by omega)).symm | exact (b2i_f (by omega)).symm | (exfalso; omega))))) dX6_draw_61
          · refine j_c hx hb dX6_draw_39 ?_
            refine lv_goto (tgt := 61) hx hb dX6_draw_40 (by decide) ?_
            exact p_iret hx hb hr hlocks (by (by_cases q0 : (0 ≤ x ∧ x < s 7) ∧ (0 ≤ q ∧ q ≤ 4) <;> first | (rw [if_pos q0]; first | done | (by_cases q1 : q = 3 <;> first | (rw [if_pos q1]; first | done | (first | omega | rfl | exact (b2i_t (by omega)).symm | exact (b2i_f (by omega)).symm | (exfalso; omega))) | (rw [if_neg q1]; first | done | (first | omega | rfl | exact (b2i_t (by omega)).symm | exact (b2i_f (by omega)).symm | (exfalso; omega))))) | (rw [if_neg q0]; first | done | (first | omega | rfl | exact (b2i_t (by omega)).symm | exact (b2i_f (by omega)).symm | (exfalso; omega))))) dX6_draw_61
      · refine j_c hx hb dX6_draw_24 ?_
        exact p_iret hx hb hr hlocks (by (by_cases q0 : (0 ≤ x ∧ x < s 7) ∧ (0 ≤ q ∧ q ≤ 4) <;> first | (rw [if_pos q0]; first | done | (by_cases q1 : q = 3 <;> first | (rw [if_pos q1]; first | done | (first | omega | rfl | exact (b2i_t (by omega)).symm | exact (b2i_f (by omega)).symm | (exfalso; omega))) | (rw [if_neg q1]; first | done | (first | omega | rfl | exact (b2i_t (by omega)).symm | exact (b2i_f (by omega)).symm | (exfalso; omega))))) | (rw [if_neg q0]; first | done | (first | omega | rfl | exact (b2i_t (by omega)).symm | exact (b2i_f (by omega)).symm | (exfalso; omega))))) dX6_draw_25
set_option maxHeartbeats 4000000 in
set_option maxRecDepth 100000 in
theorem kX6_missing (l : Launch) (D : va_G) (cI cV : ClassId) (b : Nat → Nat) (s pa he : Nat → Int) (np ru : Int) (t : Nat → Int) (ty at_ rd : Int) (y : Int) (hM : MS s) (r_y : rg y) : PM l yX6_missing wsX6_missing 2 40 [.ref (b 0), .int (iI (y))] (modw cI b s pa he np ru t ty at_ rd) D cI cV (some (.int (iI (if 0 ≤ y ∧ y < s 3 then (if y < s 4 then (0) else (if s 5 = -9 ∨ s 5 < y then (max 0 (s 1 / 2 + 1 - sm (fun i => b2i ((y) < s (20 + (s ((if s 5 ≠ -9 then (37 : Int) else 32).toNat + i)).toNat))) (s 1).toNat)) else (fewM (s 1 / 2 + 1 - sm (fun i => b2i ((y) < s (20 + (s (32 + i)).toNat))) (s 1).toNat) (s 1 / 2 + 1 - sm (fun i => b2i ((y) < s (20 + (s ((if s 5 ≠ -9 then (37 : Int) else 32).toNat + i)).toNat))) (s 1).toNat) (sm (fun i => b2i (s (32 + i) = s (37 + i) ∧ s (20 + (s (32 + i)).toNat) ≤ y)) (s 1).toNat)))) else (-1))))) := by
  refine PM.of (cc := cX6_missing) (maxL := 6) (ret := (some .int)) (by decide) rfl (Nat.le_of_ble_eq_true rfl) ?_
  intro p e s0 m below meth c ls hx hb hr hts hown hlocks hml hP hK hl
  have hown : s0.vm.findClass RX6 = some m.cls := hown
  have hin : ∀ w ∈ u_ws RX6 TX6 9, w ∈ wsX6_missing := by decide +kernel
  have hl : lv_has ls 6 [(0, .ref (b 0)), (1, .int (iI (y)))] := hl
  obtain ⟨hbs, h00, h01, h10, h11, h30, h31, h40, h41, h70, h71, h60, h61, hco, hcn⟩ := id hM
  have hb5 := hbs 5
  have hb2 := hbs 2
  refine lv_aload_n hx hb dX6_missing_0 rfl (lv_at hl 0 rfl) ?_
  refine lv_iload_n hx hb dX6_missing_1 rfl (lv_at hl 1 rfl) ?_
  refine p_callV (v := .int (iI (b2i (0 ≤ y ∧ y < s 3)))) (ci := 6) (n := 1) (As := [.int (iI (y))]) (rest := []) ⟨hx, hb, hml, hown, hts⟩ hK (kX6_isEntry l D cI cV b s pa he np ru t ty at_ rd y hM (by omega)) hP rfl rfl gX6_missing_X6_isEntry rfl (by decide +kernel) ⟨Nat.le_of_ble_eq_true rfl, Nat.le_of_ble_eq_true rfl⟩ rfl hl.1 (Nat.le_of_ble_eq_true rfl) dX6_missing_2 ⟨Nat.zero_le _, Nat.zero_le _⟩ rfl ?_
  refine j_bne (tgt := 10) hx hb dX6_missing_5 (by decide) (fun c1 => ?_) (fun c1 => ?_)
  · refine lv_iload_n hx hb dX6_missing_10 rfl (lv_at hl 1 rfl) ?_
    refine lv_aload_n hx hb dX6_missing_11 rfl (lv_at hl 0 rfl) ?_
    refine Mg0 hx hb hts hin hown hK hP (by decide +kernel) dX6_missing_12 ?_
    refine j_c hx hb dX6_missing_15 ?_
    refine Ma0 hx hb hK hP (by omega) dX6_missing_16 ?_
    rw [show (4 : Int).toNat = 4 from by omega]
    have r1_21 : bd (s 4) := hbs _
    refine j_ige (tgt := 22) hx hb (by omega) (by omega) dX6_missing_17 (by decide) (fun c2 => ?_) (fun c2 => ?_)
    · refine lv_aload_n hx hb dX6_missing_22 rfl (lv_at hl 0 rfl) ?_
      refine Mg0 hx hb hts hin hown hK hP (by decide +kernel) dX6_missing_23 ?_
      refine j_c hx hb dX6_missing_26 ?_
      refine Ma0 hx hb hK hP (by omega) dX6_missing_27 ?_
      rw [show (1 : Int).toNat = 1 from by omega]
      have r2_28 : bd (s 1) := hbs _
      refine j_c hx hb dX6_missing_28 ?_
      refine j_div hx hb (by omega) (by omega) dX6_missing_29 ?_
      refine j_c hx hb dX6_missing_30 ?_
      refine j_add hx hb dX6_missing_31 ?_
      refine lv_istore_n (lv' := [(2, .int (iI (((s 1) / 2) + 1))), (0, .ref (b 0)), (1, .int (iI (y)))]) hx hb dX6_missing_32 rfl hl (by decide) rfl (fun ls hl => ?_)
      refine lv_iload_n hx hb dX6_missing_33 rfl (lv_at hl 0 rfl) ?_
      refine lv_aload_n hx hb dX6_missing_34 rfl (lv_at hl 1 rfl) ?_
      refine lv_aload_n hx hb dX6_missing_35 rfl (lv_at hl 1 rfl) ?_
      refine p_callV (v := .int (iI (if s 5 ≠ -9 then (37 : Int) else 32))) (ci := 6) (n := 0) (As := []) (rest := [.ref (b 0), .int (iI (((s 1) / 2) + 1))]) ⟨hx, hb, hml, hown, hts⟩ hK (kX6_newer l D cI cV b s pa he np ru t ty at_ rd hM) hP rfl rfl gX6_missing_X6_newer rfl (by decide +kernel) ⟨Nat.le_of_ble_eq_true rfl, Nat.le_of_ble_eq_true rfl⟩ rfl hl.1 (Nat.le_of_ble_eq_true rfl) dX6_missing_36 ⟨Nat.zero_le _, Nat.zero_le _⟩ rfl ?_
      refine lv_iload_n hx hb dX6_missing_39 rfl (lv_at hl 2 rfl) ?_
      refine p_callV (v := .int (iI (sm (fun i => b2i ((y) < s (20 + (s (((if s 5 ≠ -9 then (37 : Int) else 32).toNat) + i)).toNat))) (s 1).toNat))) (ci := 6) (n := 2) (As := [.int (iI (if s 5 ≠ -9 then (37 : Int) else 32)), .int (iI (y))]) (rest := [.int (iI (((s 1) / 2) + 1))]) ⟨hx, hb, hml, hown, hts⟩ hK (kX6_having l D cI cV b s pa he np ru t ty at_ rd (if s 5 ≠ -9 then (37 : Int) else 32) y hM (by omega) (by omega)) hP rfl rfl gX6_missing_X6_having rfl (by decide +kernel) ⟨Nat.le_of_ble_eq_true rfl, Nat.le_of_ble_eq_true rfl⟩ rfl hl.1 (Nat.le_of_ble_eq_true rfl) dX6_missing_40 ⟨Nat.zero_le _, Nat.zero_le _⟩ rfl ?_
      have f40 := sm_rg (f := (fun i => b2i ((y) < s (20 + (s (((if s 5 ≠ -9 then (37 : Int) else 32).toNat) + i)).toNat)))) (fun k => b2i_rg) ((s 1).toNat)
      refine j_sub hx hb dX6_missing_43 ?_
      refine lv_istore_n (lv' := [(3, .int (iI ((((s 1) / 2) + 1) - (sm (fun i => b2i ((y) < s (20 + (s (((if s 5 ≠ -9 then (37 : Int) else 32).toNat) + i)).toNat))) (s 1).toNat)))), (2, .int (iI (((s 1) / 2) + 1))), (0, .ref (b 0)), (1, .int (iI (y)))]) hx hb dX6_missing_44 rfl hl (by decide) rfl (fun ls hl => ?_)
      refine lv_aload_n hx hb dX6_missing_45 rfl (lv_at hl 2 rfl) ?_
      refine p_callV (v := .int (iI (b2i (s 5 ≠ -9)))) (ci := 6) (n := 0) (As := []) (rest := []) ⟨hx, hb, hml, hown, hts⟩ hK (kX6_goesOn l D cI cV b s pa he np ru t ty at_ rd hM) hP rfl rfl gX6_missing_X6_goesOn rfl (by decide +kernel) ⟨Nat.le_of_ble_eq_true rfl, Nat.le_of_ble_eq_true rfl⟩ rfl hl.1 (Nat.le_of_ble_eq_true rfl) dX6_missing_46 ⟨Nat.zero_le _, Nat.zero_le _⟩ rfl ?_
      refine j_beq (tgt := 62) hx hb dX6_missing_49 (by decide) (fun c3 => ?_) (fun c3 => ?_)
      · refine lv_iload_n hx hb dX6_missing_62 rfl (lv_at hl 0 rfl) ?_
        refine j_zge (tgt := 70) hx hb (by omega) dX6_missing_63 (by decide) (fun c4 => ?_) (fun c4 => ?_)
        · refine lv_iload_n hx hb dX6_missing_70 rfl (lv_at hl 0 rfl) ?_
          exact p_iret hx hb hr hlocks (by (by_cases q0 : 0 ≤ y ∧ y < s 3 <;> first | (rw [if_pos q0]; first | done | (by_cases q1 : y < s 4 <;> first | (rw [if_pos q1]; first | done | (first | omega | rfl | (exfalso; omega))) | (rw [if_neg q1]; first | done | (by_cases q2 : s 5 = -9 ∨ s 5 < y <;> first | (rw [if_pos q2]; first | done | (first | omega | rfl | (exfalso; omega))) | (rw [if_neg q2]; first | done | (first | (rw [show (s 1).toNat = j from by omega]; done) | (exfalso; omega))))))) | (rw [if_neg q0]; first | done | (first | omega | rfl | (exfalso; omega))))) dX6_missing_71
        · refine j_c hx hb dX6_missing_66 ?_
          refine lv_goto (tgt := 71) hx hb dX6_missing_67 (by decide) ?_
          exact p_iret hx hb hr hlocks (by (by_cases q0 : 0 ≤ y ∧ y < s 3 <;> first | (rw [if_pos q0]; first | done | (by_cases q1 : y < s 4 <;> first | (rw [if_pos q1]; first | done | (first | omega | rfl | (exfalso; omega))) | (rw [if_neg q1]; first | done | (by_cases q2 : s 5 = -9 ∨ s 5 < y <;> first | (rw [if_pos q2]; first | done | (first | omega | rfl | (exfalso; omega))) | (rw [if_neg q2]; first | done | (first | (rw [show (s 1).toNat = j from by omega]; done) | (exfalso; omega))))))) | (rw [if_neg q0]; first | done | (first | omega | rfl | (exfalso; omega))))) dX6_missing_71
      · refine lv_iload_n hx hb dX6_missing_52 rfl (lv_at hl 3 rfl) ?_
        refine lv_aload_n hx hb dX6_missing_53 rfl (lv_at hl 2 rfl) ?_
        refine Mg0 hx hb hts hin hown hK hP (by decide +kernel) dX6_missing_54 ?_
        refine j_c hx hb dX6_missing_57 ?_
        refine Ma0 hx hb hK hP (by omega) dX6_missing_58 ?_
        rw [show (5 : Int).toNat = 5 from by omega]
        have r4_59 : bd (s 5) := hbs _
        refine j_ile (tgt := 72) hx hb (by omega) (by omega) dX6_missing_59 (by decide) (fun c5 => ?_) (fun c5 => ?_)
        · refine j_c hx hb dX6_missing_72 ?_
          refine lv_istore (lv' := [(4, .int (iI (0))), (3, .int (iI ((((s 1) / 2) + 1) - (sm (fun i => b2i ((y) < s (20 + (s (((if s 5 ≠ -9 then (37 : Int) else 32).toNat) + i)).toNat))) (s 1).toNat)))), (2, .int (iI (((s 1) / 2) + 1))), (0, .ref (b 0)), (1, .int (iI (y)))]) hx hb dX6_missing_73 hl (by decide) rfl (fun ls hl => ?_)
          refine j_c hx hb dX6_missing_75 ?_
          refine lv_istore (lv' := [(5, .int (iI (0))), (4, .int (iI (0))), (3, .int (iI ((((s 1) / 2) + 1) - (sm (fun i => b2i ((y) < s (20 + (s (((if s 5 ≠ -9 then (37 : Int) else 32).toNat) + i)).toNat))) (s 1).toNat)))), (2, .int (iI (((s 1) / 2) + 1))), (0, .ref (b 0)), (1, .int (iI (y)))]) hx hb dX6_missing_76 hl (by decide) rfl (fun ls hl => ?_)
          have LP78 : ∀ (fu : Nat) (j : Nat) (x5 x4 : Int), x5 = (j : Int) → x4 = sm (fun i => b2i (s (32 + i) = s (37 + i) ∧ s (20 + (s (32 + i)).toNat) ≤ y)) j → ((j : Int) ≤ s 1) → (s 1).toNat - j < fu → ∀ ls : Array Slot, lv_has ls 6 [(5, .int (iI (x5))), (4, .int (iI (x4))), (3, .int (iI ((((s 1) / 2) + 1) - (sm (fun i => b2i ((y) < s (20 + (s (((if s 5 ≠ -9 then (37 : Int) else 32).toNat) + i)).toNat))) (s 1).toNat)))), (2, .int (iI (((s 1) / 2) + 1))), (0, .ref (b 0)), (1, .int (iI (y)))] → W p l e (headSpec wsX6_missing (rmK 2 40)).room s0 m ([.ref (b 0), .int (iI (y))] : List Value).toArray below meth c s0.heap [] 0 0 (MQ below (pQ (some (.int (iI (if 0 ≤ y ∧ y < s 3 then (if y < s 4 then (0) else (if s 5 = -9 ∨ s 5 < y then (max 0 (s 1 / 2 + 1 - sm (fun i => b2i ((y) < s (20 + (s ((if s 5 ≠ -9 then (37 : Int) else 32).toNat + i)).toNat))) (s 1).toNat)) else (fewM (s 1 / 2 + 1 - sm (fun i => b2i ((y) < s (20 + (s (32 + i)).toNat))) (s 1).toNat) (s 1 / 2 + 1 - sm (fun i => b2i ((y) < s (20 + (s ((if s 5 ≠ -9 then (37 : Int) else 32).toNat + i)).toNat))) (s 1).toNat) (sm (fun i => b2i (s (32 + i) = s (37 + i) ∧ s (20 + (s (32 + i)).toNat) ≤ y)) (s 1).toNat)))) else (-1)))))) ([.ref (b 0), .int (iI (y))] : List Value).toArray s0 0 0 (fun _ => False)) (F0 m 78 ls []) := by
            intro fu
            induction fu with
            | zero =>
              intros
              omega
            | succ fu ih =>
              intro j x5 x4 ex5 ex4 hinv hmeas  ls hl
              subst ex5
              subst ex4
              have hsm := sm_rg (f := fun i => b2i (s (32 + i) = s (37 + i) ∧ s (20 + (s (32 + i)).toNat) ≤ y)) (fun k => b2i_rg) j
              refine lv_iload hx hb dX6_missing_78 (lv_at hl 0 rfl) ?_
              refine lv_aload_n hx hb dX6_missing_80 rfl (lv_at hl 4 rfl) ?_
              refine Mg0 hx hb hts hin hown hK hP (by decide +kernel) dX6_missing_81 ?_
              refine j_c hx hb dX6_missing_84 ?_
              refine Ma0 hx hb hK hP (by omega) dX6_missing_85 ?_
              rw [show (1 : Int).toNat = 1 from by omega]
              have r5_82 : bd (s 1) := hbs _
              refine j_ige (tgt := 150) hx hb (by omega) (by omega) dX6_missing_86 (by decide) (fun c6 => ?_) (fun c6 => ?_)
              · have hsm := sm_rg (f := fun i => b2i (s (32 + i) = s (37 + i) ∧ s (20 + (s (32 + i)).toNat) ≤ y)) (fun k => b2i_rg) j
                refine lv_iload_n hx hb dX6_missing_150 rfl (lv_at hl 3 rfl) ?_
                refine lv_aload_n hx hb dX6_missing_151 rfl (lv_at hl 4 rfl) ?_
                refine j_bi hx hb dX6_missing_152 rfl ?_
                refine lv_iload_n hx hb dX6_missing_154 rfl (lv_at hl 5 rfl) ?_
                refine p_callV (v := .int (iI (sm (fun i => b2i ((y) < s (20 + (s (32 + i)).toNat))) (s 1).toNat))) (ci := 6) (n := 2) (As := [.int (iI (32)), .int (iI (y))]) (rest := [.int (iI (((s 1) / 2) + 1))]) ⟨hx, hb, hml, hown, hts⟩ hK (kX6_having l D cI cV b s pa he np ru t ty at_ rd 32 y hM (by omega) (by omega)) hP rfl rfl gX6_missing_X6_having rfl (by decide +kernel) ⟨Nat.le_of_ble_eq_true rfl, Nat.le_of_ble_eq_true rfl⟩ rfl hl.1 (Nat.le_of_ble_eq_true rfl) dX6_missing_155 ⟨Nat.zero_le _, Nat.zero_le _⟩ rfl ?_
                have f90 := sm_rg (f := (fun i => b2i ((y) < s (20 + (s (32 + i)).toNat)))) (fun k => b2i_rg) ((s 1).toNat)
                refine j_sub hx hb dX6_missing_158 ?_
                refine lv_iload_n hx hb dX6_missing_159 rfl (lv_at hl 2 rfl) ?_
                refine lv_iload hx hb dX6_missing_160 (lv_at hl 1 rfl) ?_
                refine p_callS (v := .int (iI (fewM ((((s 1) / 2) + 1) - (sm (fun i => b2i ((y) < s (20 + (s (32 + i)).toNat))) (s 1).toNat)) ((((s 1) / 2) + 1) - (sm (fun i => b2i ((y) < s (20 + (s (((if s 5 ≠ -9 then (37 : Int) else 32).toNat) + i)).toNat))) (s 1).toNat)) (sm (fun i => b2i (s (32 + i) = s (37 + i) ∧ s (20 + (s (32 + i)).toNat) ≤ y)) j)))) (n := 3) (w := []) (As := [.int (iI ((((s 1) / 2) + 1) - (sm (fun i => b2i ((y) < s (20 + (s (32 + i)).toNat))) (s 1).toNat))), .int (iI ((((s 1) / 2) + 1) - (sm (fun i => b2i ((y) < s (20 + (s (((if s 5 ≠ -9 then (37 : Int) else 32).toNat) + i)).toNat))) (s 1).toNat))), .int (iI (sm (fun i => b2i (s (32 + i) = s (37 + i) ∧ s (20 + (s (32 + i)).toNat) ≤ y)) j))]) (rest := []) ⟨hx, hb, hml, hown, hts⟩ hK (kX6_fewest l D cI cV ((((s 1) / 2) + 1) - (sm (fun i => b2i ((y) < s (20 + (s (32 + i)).toNat))) (s 1).toNat)) ((((s 1) / 2) + 1) - (sm (fun i => b2i ((y) < s (20 + (s (((if s 5 ≠ -9 then (37 : Int) else 32).toNat) + i)).toNat))) (s 1).toNat)) (sm (fun i => b2i (s (32 + i) = s (37 + i) ∧ s (20 + (s (32 + i)).toNat) ≤ y)) j) (by omega) (by omega) (by omega)) (fun k q h => by simp at h) gX6_missing_X6_fewest rfl (by decide +kernel) ⟨Nat.le_of_ble_eq_true rfl, Nat.le_of_ble_eq_true rfl⟩ rfl hl.1 (Nat.le_of_ble_eq_true rfl) dX6_missing_162 ⟨Nat.zero_le _, Nat.zero_le _⟩ rfl ?_
                have f95 := sm_rg (f := (fun i => b2i ((y) < s (20 + (s (32 + i)).toNat)))) (fun k => b2i_rg) ((s 1).toNat)
                have f96 := sm_rg (f := (fun i => b2i ((y) < s (20 + (s (((if s 5 ≠ -9 then (37 : Int) else 32).toNat) + i)).toNat)))) (fun k => b2i_rg) ((s 1).toNat)
                have f97 := sm_rg (f := (fun i => b2i (s (32 + i) = s (37 + i) ∧ s (20 + (s (32 + i)).toNat) ≤ y))) (fun k => b2i_rg) (j)
                exact p_iret hx hb hr hlocks (by (by_cases q0 : 0 ≤ y ∧ y < s 3 <;> first | (rw [if_pos q0]; first | done | (by_cases q1 : y < s 4 <;> first | (rw [if_pos q1]; first | done | (first | omega | rfl | (exfalso; omega))) | (rw [if_neg q1]; first | done | (by_cases q2 : s 5 = -9 ∨ s 5 < y <;> first | (rw [if_pos q2]; first | done | (first | omega | rfl | (exfalso; omega))) | (rw [if_neg q2]; first | done | (first | (rw [show (s 1).toNat = j from by omega]; done) | (exfalso; omega))))))) | (rw [if_neg q0]; first | done | (first | omega | rfl | (exfalso; omega))))) dX6_missing_165
              · refine lv_iload hx hb dX6_missing_89 (lv_at hl 1 rfl) ?_
                refine lv_aload_n hx hb dX6_missing_91 rfl (lv_at hl 4 rfl) ?_
                refine Mg0 hx hb hts hin hown hK hP (by decide +kernel) dX6_missing_92 ?_
                refine j_bi hx hb dX6_missing_95 rfl ?_
                refine lv_iload hx hb dX6_missing_97 (lv_at hl 0 rfl) ?_
                refine j_add hx hb dX6_missing_99 ?_
                refine Ma0 hx hb hK hP (by omega) dX6_missing_100 ?_
                rw [show (32 + (j : Int) : Int).toNat = 32 + j from by omega]
                have r6_107 : bd (s (32 + j)) := hbs _
                refine lv_aload_n hx hb dX6_missing_101 rfl (lv_at hl 4 rfl) ?_
                refine Mg0 hx hb hts hin hown hK hP (by decide +kernel) dX6_missing_102 ?_
                refine j_bi hx hb dX6_missing_105 rfl ?_
                refine lv_iload hx hb dX6_missing_107 (lv_at hl 0 rfl) ?_
                refine j_add hx hb dX6_missing_109 ?_
                refine Ma0 hx hb hK hP (by omega) dX6_missing_110 ?_
                rw [show (37 + (j : Int) : Int).toNat = 37 + j from by omega]
                have r6_115 : bd (s (37 + j)) := hbs _
                refine j_ine (tgt := 140) hx hb (by omega) (by omega) dX6_missing_111 (by decide) (fun c7 => ?_) (fun c7 => ?_)
                · refine j_c hx hb dX6_missing_140 ?_
                  refine j_add hx hb dX6_missing_141 ?_
                  refine lv_istore (lv' := [(4, .int (iI ((sm (fun i => b2i (s (32 + i) = s (37 + i) ∧ s (20 + (s (32 + i)).toNat) ≤ y)) j) + 0))), (5, .int (iI ((j : Int)))), (3, .int (iI ((((s 1) / 2) + 1) - (sm (fun i => b2i ((y) < s (20 + (s (((if s 5 ≠ -9 then (37 : Int) else 32).toNat) + i)).toNat))) (s 1).toNat)))), (2, .int (iI (((s 1) / 2) + 1))), (0, .ref (b 0)), (1, .int (iI (y)))]) hx hb dX6_missing_142 hl (by decide) rfl (fun ls hl => ?_)
                  refine lv_iinc (v := iI ((j : Int) + 1)) (lv' := [(5, .int (iI ((j : Int) + 1))), (4, .int (iI ((sm (fun i => b2i (s (32 + i) = s (37 + i) ∧ s (20 + (s (32 + i)).toNat) ≤ y)) j) + 0))), (3, .int (iI ((((s 1) / 2) + 1) - (sm (fun i => b2i ((y) < s (20 + (s (((if s 5 ≠ -9 then (37 : Int) else 32).toNat) + i)).toNat))) (s 1).toNat)))), (2, .int (iI (((s 1) / 2) + 1))), (0, .ref (b 0)), (1, .int (iI (y)))]) hx hb dX6_missing_144 hl (k := 1) rfl (iI_add _ _) (by decide) rfl (fun ls hl => ?_)
                  refine lv_goto (tgt := 78) hx hb dX6_missing_147 (by decide) ?_
                  exact ih (j + 1) ((j : Int) + 1) ((sm (fun i => b2i (s (32 + i) = s (37 + i) ∧ s (20 + (s (32 + i)).toNat) ≤ y)) j) + 0) (by first | rfl | omega | exact (sm_t (b2i_t (by omega))).symm | exact (sm_f (b2i_f (by omega))).symm) (by first | rfl | omega | exact (sm_t (b2i_t (by omega))).symm | exact (sm_f (b2i_f (by omega))).symm) (by omega) (by omega) ls (lv_sub hl [0, 1, 2, 3, 4, 5] rfl)
                · refine lv_aload_n hx hb dX6_missing_114 rfl (lv_at hl 4 rfl) ?_
                  refine Mg0 hx hb hts hin hown hK hP (by decide +kernel) dX6_missing_115 ?_
                  refine j_bi hx hb dX6_missing_118 rfl ?_
                  refine lv_aload_n hx hb dX6_missing_120 rfl (lv_at hl 4 rfl) ?_
                  refine Mg0 hx hb hts hin hown hK hP (by decide +kernel) dX6_missing_121 ?_
                  refine j_bi hx hb dX6_missing_124 rfl ?_
                  refine lv_iload hx hb dX6_missing_126 (lv_at hl 0 rfl) ?_
                  refine j_add hx hb dX6_missing_128 ?_
                  refine Ma0 hx hb hK hP (by omega) dX6_missing_129 ?_
                  rw [show (32 + (j : Int) : Int).toNat = 32 + j from by omega]
                  have r7_133 : bd (s (32 + j)) := hbs _
                  refine j_add hx hb dX6_missing_130 ?_
                  have hcr := hco j (by omega)
                  refine Ma0 hx hb hK hP (by omega) dX6_missing_131 ?_
                  rw [show (20 + (s (32 + j)) : Int).toNat = 20 + ((s (32 + j)).toNat) from by omega]
                  have r7_138 : bd (s (20 + ((s (32 + j)).toNat))) := hbs _
                  refine lv_iload_n hx hb dX6_missing_132 rfl (lv_at hl 5 rfl) ?_
                  refine j_igt (tgt := 140) hx hb (by omega) (by omega) dX6_missing_133 (by decide) (fun c8 => ?_) (fun c8 => ?_)
                  · refine j_c hx hb dX6_missing_140 ?_
                    refine j_add hx hb dX6_missing_141 ?_
                    refine lv_istore (lv' := [(4, .int (iI ((sm (fun i => b2i (s (32 + i) = s (37 + i) ∧ s (20 + (s (32 + i)).toNat) ≤ y)) j) + 0))), (5, .int (iI ((j : Int)))), (3, .int (iI ((((s 1) / 2) + 1) - (sm (fun i => b2i ((y) < s (20 + (s (((if s 5 ≠ -9 then (37 : Int) else 32).toNat) + i)).toNat))) (s 1).toNat)))), (2, .int (iI (((s 1) / 2) + 1))), (0, .ref (b 0)), (1, .int (iI (y)))]) hx hb dX6_missing_142 hl (by decide) rfl (fun ls hl => ?_)
                    refine lv_iinc (v := iI ((j : Int) + 1)) (lv' := [(5, .int (iI ((j : Int) + 1))), (4, .int (iI ((sm (fun i => b2i (s (32 + i) = s (37 + i) ∧ s (20 + (s (32 + i)).toNat) ≤ y)) j) + 0))), (3, .int (iI ((((s 1) / 2) + 1) - (sm (fun i => b2i ((y) < s (20 + (s (((if s 5 ≠ -9 then (37 : Int) else 32).toNat) + i)).toNat))) (s 1).toNat)))), (2, .int (iI (((s 1) / 2) + 1))), (0, .ref (b 0)), (1, .int (iI (y)))]) hx hb dX6_missing_144 hl (k := 1) rfl (iI_add _ _) (by decide) rfl (fun ls hl => ?_)
                    refine lv_goto (tgt := 78) hx hb dX6_missing_147 (by decide) ?_
                    exact ih (j + 1) ((j : Int) + 1) ((sm (fun i => b2i (s (32 + i) = s (37 + i) ∧ s (20 + (s (32 + i)).toNat) ≤ y)) j) + 0) (by first | rfl | omega | exact (sm_t (b2i_t (by omega))).symm | exact (sm_f (b2i_f (by omega))).symm) (by first | rfl | omega | exact (sm_t (b2i_t (by omega))).symm | exact (sm_f (b2i_f (by omega))).symm) (by omega) (by omega) ls (lv_sub hl [0, 1, 2, 3, 4, 5] rfl)
                  · refine j_c hx hb dX6_missing_136 ?_
                    refine lv_goto (tgt := 141) hx hb dX6_missing_137 (by decide) ?_
                    refine j_add hx hb dX6_missing_141 ?_
                    refine lv_istore (lv' := [(4, .int (iI ((sm (fun i => b2i (s (32 + i) = s (37 + i) ∧ s (20 + (s (32 + i)).toNat) ≤ y)) j) + 1))), (5, .int (iI ((j : Int)))), (3, .int (iI ((((s 1) / 2) + 1) - (sm (fun i => b2i ((y) < s (20 + (s (((if s 5 ≠ -9 then (37 : Int) else 32).toNat) + i)).toNat))) (s 1).toNat)))), (2, .int (iI (((s 1) / 2) + 1))), (0, .ref (b 0)), (1, .int (iI (y)))]) hx hb dX6_missing_142 hl (by decide) rfl (fun ls hl => ?_)
                    refine lv_iinc (v := iI ((j : Int) + 1)) (lv' := [(5, .int (iI ((j : Int) + 1))), (4, .int (iI ((sm (fun i => b2i (s (32 + i) = s (37 + i) ∧ s (20 + (s (32 + i)).toNat) ≤ y)) j) + 1))), (3, .int (iI ((((s 1) / 2) + 1) - (sm (fun i => b2i ((y) < s (20 + (s (((if s 5 ≠ -9 then (37 : Int) else 32).toNat) + i)).toNat))) (s 1).toNat)))), (2, .int (iI (((s 1) / 2) + 1))), (0, .ref (b 0)), (1, .int (iI (y)))]) hx hb dX6_missing_144 hl (k := 1) rfl (iI_add _ _) (by decide) rfl (fun ls hl => ?_)
                    refine lv_goto (tgt := 78) hx hb dX6_missing_147 (by decide) ?_
                    exact ih (j + 1) ((j : Int) + 1) ((sm (fun i => b2i (s (32 + i) = s (37 + i) ∧ s (20 + (s (32 + i)).toNat) ≤ y)) j) + 1) (by first | rfl | omega | exact (sm_t (b2i_t (by omega))).symm | exact (sm_f (b2i_f (by omega))).symm) (by first | rfl | omega | exact (sm_t (b2i_t (by omega))).symm | exact (sm_f (b2i_f (by omega))).symm) (by omega) (by omega) ls (lv_sub hl [0, 1, 2, 3, 4, 5] rfl)
          exact LP78 (_) 0 0 0 (by first | rfl | omega) (by first | rfl | omega) (by omega) (by exact Nat.lt_succ_self _) ls (lv_sub hl [0, 1, 2, 3, 4, 5] rfl)
        · refine lv_iload_n hx hb dX6_missing_62 rfl (lv_at hl 0 rfl) ?_
          refine j_zge (tgt := 70) hx hb (by omega) dX6_missing_63 (by decide) (fun c9 => ?_) (fun c9 => ?_)
          · refine lv_iload_n hx hb dX6_missing_70 rfl (lv_at hl 0 rfl) ?_
            exact p_iret hx hb hr hlocks (by (by_cases q0 : 0 ≤ y ∧ y < s 3 <;> first | (rw [if_pos q0]; first | done | (by_cases q1 : y < s 4 <;> first | (rw [if_pos q1]; first | done | (first | omega | rfl | (exfalso; omega))) | (rw [if_neg q1]; first | done | (by_cases q2 : s 5 = -9 ∨ s 5 < y <;> first | (rw [if_pos q2]; first | done | (first | omega | rfl | (exfalso; omega))) | (rw [if_neg q2]; first | done | (first | (rw [show (s 1).toNat = j from by omega]; done) | (exfalso; omega))))))) | (rw [if_neg q0]; first | done | (first | omega | rfl | (exfalso; omega))))) dX6_missing_71
          · refine j_c hx hb dX6_missing_66 ?_
            refine lv_goto (tgt := 71) hx hb dX6_missing_67 (by decide) ?_
            exact p_iret hx hb hr hlocks (by (by_cases q0 : 0 ≤ y ∧ y < s 3 <;> first | (rw [if_pos q0]; first | done | (by_cases q1 : y < s 4 <;> first | (rw [if_pos q1]; first | done | (first | omega | rfl | (exfalso; omega))) | (rw [if_neg q1]; first | done | (by_cases q2 : s 5 = -9 ∨ s 5 < y <;> first | (rw [if_pos q2]; first | done | (first | omega | rfl | (exfalso; omega))) | (rw [if_neg q2]; first | done | (first | (rw [show (s 1).toNat = j from by omega]; done) | (exfalso; omega))))))) | (rw [if_neg q0]; first | done | (first | omega | rfl | (exfalso; omega))))) dX6_missing_71
    · refine j_c hx hb dX6_missing_20 ?_
      exact p_iret hx hb hr hlocks (by (by_cases q0 : 0 ≤ y ∧ y < s 3 <;> first | (rw [if_pos q0]; first | done | (by_cases q1 : y < s 4 <;> first | (rw [if_pos q1]; first | done | (first | omega | rfl | (exfalso; omega))) | (rw [if_neg q1]; first | done | (by_cases q2 : s 5 = -9 ∨ s 5 < y <;> first | (rw [if_pos q2]; first | done | (first | omega | rfl | (exfalso; omega))) | (rw [if_neg q2]; first | done | (first | (rw [show (s 1).toNat = j from by omega]; done) | (exfalso; omega))))))) | (rw [if_neg q0]; first | done | (first | omega | rfl | (exfalso; omega))))) dX6_missing_21
  · refine j_c hx hb dX6_missing_8 ?_
    exact p_iret hx hb hr hlocks (by (by_cases q0 : 0 ≤ y ∧ y < s 3 <;> first | (rw [if_pos q0]; first | done | (by_cases q1 : y < s 4 <;> first | (rw [if_pos q1]; first | done | (first | omega | rfl | (exfalso; omega))) | (rw [if_neg q1]; first | done | (by_cases q2 : s 5 = -9 ∨ s 5 < y <;> first | (rw [if_pos q2]; first | done | (first | omega | rfl | (exfalso; omega))) | (rw [if_neg q2]; first | done | (first | (rw [show (s 1).toNat = j from by omega]; done) | (exfalso; omega))))))) | (rw [if_neg q0]; first | done | (first | omega | rfl | (exfalso; omega))))) dX6_missing_9
set_option maxHeartbeats 4000000 in
set_option maxRecDepth 100000 in
theorem kX6_nextDrawn (l : Launch) (D : va_G) (cI cV : ClassId) (b : Nat → Nat) (s pa he : Nat → Int) (np ru : Int) (t : Nat → Int) (ty at_ rd : Int) (y : Int) (hM : MS s) (r_y : rg y) : PM l yX6_nextDrawn wsX6_nextDrawn 2 49 [.ref (b 0), .int (iI (y))] (modw cI b s pa he np ru t ty at_ rd) D cI cV (some (.int (iI (if 0 ≤ y ∧ y < s 1 then (if s 5 ≠ -9 then (-2) else (if sm (fun i => b2i (seatL (fun i => s (32 + i)) (i : Int) (s 1).toNat = -9)) (s 0).toNat = 0 then (-9) else (pickL (fun i => b2i (seatL (fun i => s (32 + i)) (i : Int) (s 1).toNat = -9)) (((s 6) * 25173 + 13849) % 65536 % sm (fun i => b2i (seatL (fun i => s (32 + i)) (i : Int) (s 1).toNat = -9)) (s 0).toNat) (s 0).toNat))) else (-1))))) := by
  refine PM.of (cc := cX6_nextDrawn) (maxL := 3) (ret := (some .int)) (by decide) rfl (Nat.le_of_ble_eq_true rfl) ?_
  intro p e s0 m below meth c ls hx hb hr hts hown hlocks hml hP hK hl
  have hown : s0.vm.findClass RX6 = some m.cls := hown
  have hin : ∀ w ∈ u_ws RX6 TX6 9, w ∈ wsX6_nextDrawn := by decide +kernel
  have hl : lv_has ls 3 [(0, .ref (b 0)), (1, .int (iI (y)))] := hl
  obtain ⟨hbs, h00, h01, h10, h11, h30, h31, h40, h41, h70, h71, h60, h61, hco, hcn⟩ := id hM
  have hb5 := hbs 5
  have hb2 := hbs 2
  refine lv_aload_n hx hb dX6_nextDrawn_0 rfl (lv_at hl 0 rfl) ?_
  refine lv_iload_n hx hb dX6_nextDrawn_1 rfl (lv_at hl 1 rfl) ?_
  refine p_callV (v := .int (iI (b2i (0 ≤ y ∧ y < s 1)))) (ci := 6) (n := 1) (As := [.int (iI (y))]) (rest := []) ⟨hx, hb, hml, hown, hts⟩ hK (kX6_isSeat l D cI cV b s pa he np ru t ty at_ rd y hM (by omega)) hP rfl rfl gX6_nextDrawn_X6_isSeat rfl (by decide +kernel) ⟨Nat.le_of_ble_eq_true rfl, Nat.le_of_ble_eq_true rfl⟩ rfl hl.1 (Nat.le_of_ble_eq_true rfl) dX6_nextDrawn_2 ⟨Nat.zero_le _, Nat.zero_le _⟩ rfl ?_
  refine j_bne (tgt := 10) hx hb dX6_nextDrawn_5 (by decide) (fun c1 => ?_) (fun c1 => ?_)
  · refine lv_aload_n hx hb dX6_nextDrawn_10 rfl (lv_at hl 0 rfl) ?_
    refine p_callV (v := .int (iI (b2i (s 5 ≠ -9)))) (ci := 6) (n := 0) (As := []) (rest := []) ⟨hx, hb, hml, hown, hts⟩ hK (kX6_goesOn l D cI cV b s pa he np ru t ty at_ rd hM) hP rfl rfl gX6_nextDrawn_X6_goesOn rfl (by decide +kernel) ⟨Nat.le_of_ble_eq_true rfl, Nat.le_of_ble_eq_true rfl⟩ rfl hl.1 (Nat.le_of_ble_eq_true rfl) dX6_nextDrawn_11 ⟨Nat.zero_le _, Nat.zero_le _⟩ rfl ?_
    refine j_beq (tgt := 20) hx hb dX6_nextDrawn_14 (by decide) (fun c2 => ?_) (fun c2 => ?_)
    · refine lv_aload_n hx hb dX6_nextDrawn_20 rfl (lv_at hl 0 rfl) ?_
      refine p_callV (v := .int (iI (sm (fun i => b2i (seatL (fun i => s (32 + i)) (i : Int) (s 1).toNat = -9)) (s 0).toNat))) (ci := 6) (n := 0) (As := []) (rest := []) ⟨hx, hb, hml, hown, hts⟩ hK (kX6_candidates l D cI cV b s pa he np ru t ty at_ rd hM) hP rfl rfl gX6_nextDrawn_X6_candidates rfl (by decide +kernel) ⟨Nat.le_of_ble_eq_true rfl, Nat.le_of_ble_eq_true rfl⟩ rfl hl.1 (Nat.le_of_ble_eq_true rfl) dX6_nextDrawn_21 ⟨Nat.zero_le _, Nat.zero_le _⟩ rfl ?_
      have f20 := sm_rg (f := (fun i => b2i (seatL (fun i => s (32 + i)) (i : Int) (s 1).toNat = -9))) (fun k => b2i_rg) ((s 0).toNat)
      refine lv_istore_n (lv' := [(2, .int (iI (sm (fun i => b2i (seatL (fun i => s (32 + i)) (i : Int) (s 1).toNat = -9)) (s 0).toNat))), (0, .ref (b 0)), (1, .int (iI (y)))]) hx hb dX6_nextDrawn_24 rfl hl (by decide) rfl (fun ls hl => ?_)
      refine lv_iload_n hx hb dX6_nextDrawn_25 rfl (lv_at hl 0 rfl) ?_
      refine j_zne (tgt := 34) hx hb (by omega) dX6_nextDrawn_26 (by decide) (fun c3 => ?_) (fun c3 => ?_)
      · refine lv_aload_n hx hb dX6_nextDrawn_34 rfl (lv_at hl 1 rfl) ?_
        refine lv_aload_n hx hb dX6_nextDrawn_35 rfl (lv_at hl 1 rfl) ?_
        refine Mg0 hx hb hts hin hown hK hP (by decide +kernel) dX6_nextDrawn_36 ?_
        refine j_bi hx hb dX6_nextDrawn_39 rfl ?_
        refine Ma0 hx hb hK hP (by omega) dX6_nextDrawn_41 ?_
        rw [show (6 : Int).toNat = 6 from by omega]
        have r3_30 : bd (s 6) := hbs _
        refine p_callS (v := .int (iI ((((s 6)) * 25173 + 13849) % 65536))) (n := 1) (w := []) (As := [.int (iI (s 6))]) (rest := [.ref (b 0)]) ⟨hx, hb, hml, hown, hts⟩ hK (kX6_drawn l D cI cV (s 6) (by omega)) (fun k q h => by simp at h) gX6_nextDrawn_X6_drawn rfl (by decide +kernel) ⟨Nat.le_of_ble_eq_true rfl, Nat.le_of_ble_eq_true rfl⟩ rfl hl.1 (Nat.le_of_ble_eq_true rfl) dX6_nextDrawn_42 ⟨Nat.zero_le _, Nat.zero_le _⟩ rfl ?_
        refine lv_iload_n hx hb dX6_nextDrawn_45 rfl (lv_at hl 0 rfl) ?_
        refine j_rem hx hb (by omega) (by omega) dX6_nextDrawn_46 ?_
        have hP0 := Int.emod_nonneg (((s 6) * 25173 + 13849) % 65536) (show sm (fun i => b2i (seatL (fun i => s (32 + i)) (i : Int) (s 1).toNat = -9)) (s 0).toNat ≠ 0 by omega)
        have hP1 := Int.emod_lt_of_pos (((s 6) * 25173 + 13849) % 65536) (show 0 < sm (fun i => b2i (seatL (fun i => s (32 + i)) (i : Int) (s 1).toNat = -9)) (s 0).toNat by omega)
        refine p_callV (v := .int (iI (pickL (fun i => b2i (seatL (fun i => s (32 + i)) (i : Int) (s 1).toNat = -9)) (((((s 6)) * 25173 + 13849) % 65536) % (sm (fun i => b2i (seatL (fun i => s (32 + i)) (i : Int) (s 1).toNat = -9)) (s 0).toNat)) (s 0).toNat))) (ci := 6) (n := 1) (As := [.int (iI (((((s 6)) * 25173 + 13849) % 65536) % (sm (fun i => b2i (seatL (fun i => s (32 + i)) (i : Int) (s 1).toNat = -9)) (s 0).toNat)))]) (rest := []) ⟨hx, hb, hml, hown, hts⟩ hK (kX6_candidate l D cI cV b s pa he np ru t ty at_ rd (((((s 6)) * 25173 + 13849) % 65536) % (sm (fun i => b2i (seatL (fun i => s (32 + i)) (i : Int) (s 1).toNat = -9)) (s 0).toNat)) hM (by omega)) hP rfl rfl gX6_nextDrawn_X6_candidate rfl (by decide +kernel) ⟨Nat.le_of_ble_eq_true rfl, Nat.le_of_ble_eq_true rfl⟩ rfl hl.1 (Nat.le_of_ble_eq_true rfl) dX6_nextDrawn_47 ⟨Nat.zero_le _, Nat.zero_le _⟩ rfl ?_
        have f37 := sm_rg (f := (fun i => b2i (seatL (fun i => s (32 + i)) (i : Int) (s 1).toNat = -9))) (fun k => b2i_rg) ((s 0).toNat)
        exact p_iret hx hb hr hlocks (by (by_cases q0 : 0 ≤ y ∧ y < s 1 <;> first | (rw [if_pos q0]; first | done | (by_cases q1 : s 5 ≠ -9 <;> first | (rw [if_pos q1]; first | done | (first | omega | rfl | (exfalso; omega))) | (rw [if_neg q1]; first | done | (by_cases q2 : sm (fun i => b2i (seatL (fun i => s (32 + i)) (i : Int) (s 1).toNat = -9)) (s 0).toNat = 0 <;> first | (rw [if_pos q2]; first | done | (first | omega | rfl | (exfalso; omega))) | (rw [if_neg q2]; first | done | (first | omega | rfl | (exfalso; omega))))))) | (rw [if_neg q0]; first | done | (first | omega | rfl | (exfalso; omega))))) dX6_nextDrawn_50
      · refine j_bi hx hb dX6_nextDrawn_29 rfl ?_
        refine lv_goto (tgt := 50) hx hb dX6_nextDrawn_31 (by decide) ?_
        exact p_iret hx hb hr hlocks (by (by_cases q0 : 0 ≤ y ∧ y < s 1 <;> first | (rw [if_pos q0]; first | done | (by_cases q1 : s 5 ≠ -9 <;> first | (rw [if_pos q1]; first | done | (first | omega | rfl | (exfalso; omega))) | (rw [if_neg q1]; first | done | (by_cases q2 : sm (fun i => b2i (seatL (fun i => s (32 + i)) (i : Int) (s 1).toNat = -9)) (s 0).toNat = 0 <;> first | (rw [if_pos q2]; first | done | (first | omega | rfl | (exfalso; omega))) | (rw [if_neg q2]; first | done | (first | omega | rfl | (exfalso; omega))))))) | (rw [if_neg q0]; first | done | (first | omega | rfl | (exfalso; omega))))) dX6_nextDrawn_50
    · refine j_bi hx hb dX6_nextDrawn_17 rfl ?_
      exact p_iret hx hb hr hlocks (by (by_cases q0 : 0 ≤ y ∧ y < s 1 <;> first | (rw [if_pos q0]; first | done | (by_cases q1 : s 5 ≠ -9 <;> first | (rw [if_pos q1]; first | done | (first | omega | rfl | (exfalso; omega))) | (rw [if_neg q1]; first | done | (by_cases q2 : sm (fun i => b2i (seatL (fun i => s (32 + i)) (i : Int) (s 1).toNat = -9)) (s 0).toNat = 0 <;> first | (rw [if_pos q2]; first | done | (first | omega | rfl | (exfalso; omega))) | (rw [if_neg q2]; first | done | (first | omega | rfl | (exfalso; omega))))))) | (rw [if_neg q0]; first | done | (first | omega | rfl | (exfalso; omega))))) dX6_nextDrawn_19
  · refine j_c hx hb dX6_nextDrawn_8 ?_
    exact p_iret hx hb hr hlocks (by (by_cases q0 : 0 ≤ y ∧ y < s 1 <;> first | (rw [if_pos q0]; first | done | (by_cases q1 : s 5 ≠ -9 <;> first | (rw [if_pos q1]; first | done | (first | omega | rfl | (exfalso; omega))) | (rw [if_neg q1]; first | done | (by_cases q2 : sm (fun i => b2i (seatL (fun i => s (32 + i)) (i : Int) (s 1).toNat = -9)) (s 0).toNat = 0 <;> first | (rw [if_pos q2]; first | done | (first | omega | rfl | (exfalso; omega))) | (rw [if_neg q2]; first | done | (first | omega | rfl | (exfalso; omega))))))) | (rw [if_neg q0]; first | done | (first | omega | rfl | (exfalso; omega))))) dX6_nextDrawn_9
set_option maxHeartbeats 4000000 in
set_option maxRecDepth 100000 in
theorem kX6_spare (l : Launch) (D : va_G) (cI cV : ClassId) (b : Nat → Nat) (s pa he : Nat → Int) (np ru : Int) (t : Nat → Int) (ty at_ rd : Int)  (hM : MS s) : PM l yX6_spare wsX6_spare 1 24 [.ref (b 0)] (modw cI b s pa he np ru t ty at_ rd) D cI cV (some (.int (iI (if s 1 = 0 then (-9) else (if s 5 ≠ -9 then (s 0 - fewM (s 1 / 2 + 1) (s 1 / 2 + 1) (s 1 - 1)) else (s 0 - (s 1 / 2 + 1))))))) := by
  refine PM.of (cc := cX6_spare) (maxL := 2) (ret := (some .int)) (by decide) rfl (Nat.le_of_ble_eq_true rfl) ?_
  intro p e s0 m below meth c ls hx hb hr hts hown hlocks hml hP hK hl
  have hown : s0.vm.findClass RX6 = some m.cls := hown
  have hin : ∀ w ∈ u_ws RX6 TX6 9, w ∈ wsX6_spare := by decide +kernel
  have hl : lv_has ls 2 [(0, .ref (b 0))] := hl
  obtain ⟨hbs, h00, h01, h10, h11, h30, h31, h40, h41, h70, h71, h60, h61, hco, hcn⟩ := id hM
  have hb5 := hbs 5
  have hb2 := hbs 2
  refine lv_aload_n hx hb dX6_spare_0 rfl (lv_at hl 0 rfl) ?_
  refine Mg0 hx hb hts hin hown hK hP (by decide +kernel) dX6_spare_1 ?_
  refine j_c hx hb dX6_spare_4 ?_
  refine Ma0 hx hb hK hP (by omega) dX6_spare_5 ?_
  rw [show (1 : Int).toNat = 1 from by omega]
  have r0_16 : bd (s 1) := hbs _
  refine j_zne (tgt := 12) hx hb (by omega) dX6_spare_6 (by decide) (fun c1 => ?_) (fun c1 => ?_)
  · refine lv_aload_n hx hb dX6_spare_12 rfl (lv_at hl 0 rfl) ?_
    refine Mg0 hx hb hts hin hown hK hP (by decide +kernel) dX6_spare_13 ?_
    refine j_c hx hb dX6_spare_16 ?_
    refine Ma0 hx hb hK hP (by omega) dX6_spare_17 ?_
    rw [show (1 : Int).toNat = 1 from by omega]
    have r1_23 : bd (s 1) := hbs _
    refine j_c hx hb dX6_spare_18 ?_
    refine j_div hx hb (by omega) (by omega) dX6_spare_19 ?_
    refine j_c hx hb dX6_spare_20 ?_
    refine j_add hx hb dX6_spare_21 ?_
    refine lv_istore_n (lv' := [(1, .int (iI (((s 1) / 2) + 1))), (0, .ref (b 0))]) hx hb dX6_spare_22 rfl hl (by decide) rfl (fun ls hl => ?_)
    refine lv_aload_n hx hb dX6_spare_23 rfl (lv_at hl 1 rfl) ?_
    refine Mg0 hx hb hts hin hown hK hP (by decide +kernel) dX6_spare_24 ?_
    refine j_c hx hb dX6_spare_27 ?_
    refine Ma0 hx hb hK hP (by omega) dX6_spare_28 ?_
    rw [show (0 : Int).toNat = 0 from by omega]
    have r1_34 : bd (s 0) := hbs _
    refine lv_aload_n hx hb dX6_spare_29 rfl (lv_at hl 1 rfl) ?_
    refine p_callV (v := .int (iI (b2i (s 5 ≠ -9)))) (ci := 6) (n := 0) (As := []) (rest := [.int (iI (s 0))]) ⟨hx, hb, hml, hown, hts⟩ hK (kX6_goesOn l D cI cV b s pa he np ru t ty at_ rd hM) hP rfl rfl gX6_spare_X6_goesOn rfl (by decide +kernel) ⟨Nat.le_of_ble_eq_true rfl, Nat.le_of_ble_eq_true rfl⟩ rfl hl.1 (Nat.le_of_ble_eq_true rfl) dX6_spare_30 ⟨Nat.zero_le _, Nat.zero_le _⟩ rfl ?_
    refine j_beq (tgt := 52) hx hb dX6_spare_33 (by decide) (fun c2 => ?_) (fun c2 => ?_)
    · refine lv_iload_n hx hb dX6_spare_52 rfl (lv_at hl 0 rfl) ?_
      refine j_sub hx hb dX6_spare_53 ?_
      exact p_iret hx hb hr hlocks (by (by_cases q0 : s 1 = 0 <;> first | (rw [if_pos q0]; first | done | (first | omega | rfl | (exfalso; omega))) | (rw [if_neg q0]; first | done | (by_cases q1 : s 5 ≠ -9 <;> first | (rw [if_pos q1]; first | done | (first | omega | rfl | (exfalso; omega))) | (rw [if_neg q1]; first | done | (first | omega | rfl | (exfalso; omega))))))) dX6_spare_54
    · refine lv_iload_n hx hb dX6_spare_36 rfl (lv_at hl 0 rfl) ?_
      refine lv_iload_n hx hb dX6_spare_37 rfl (lv_at hl 0 rfl) ?_
      refine lv_aload_n hx hb dX6_spare_38 rfl (lv_at hl 1 rfl) ?_
      refine Mg0 hx hb hts hin hown hK hP (by decide +kernel) dX6_spare_39 ?_
      refine j_c hx hb dX6_spare_42 ?_
      refine Ma0 hx hb hK hP (by omega) dX6_spare_43 ?_
      rw [show (1 : Int).toNat = 1 from by omega]
      have r2_48 : bd (s 1) := hbs _
      refine j_c hx hb dX6_spare_44 ?_
      refine j_sub hx hb dX6_spare_45 ?_
      refine p_callS (v := .int (iI (fewM (((s 1) / 2) + 1) (((s 1) / 2) + 1) ((s 1) - 1)))) (n := 3) (w := []) (As := [.int (iI (((s 1) / 2) + 1)), .int (iI (((s 1) / 2) + 1)), .int (iI ((s 1) - 1))]) (rest := [.int (iI (s 0))]) ⟨hx, hb, hml, hown, hts⟩ hK (kX6_fewest l D cI cV (((s 1) / 2) + 1) (((s 1) / 2) + 1) ((s 1) - 1) (by omega) (by omega) (by omega)) (fun k q h => by simp at h) gX6_spare_X6_fewest rfl (by decide +kernel) ⟨Nat.le_of_ble_eq_true rfl, Nat.le_of_ble_eq_true rfl⟩ rfl hl.1 (Nat.le_of_ble_eq_true rfl) dX6_spare_46 ⟨Nat.zero_le _, Nat.zero_le _⟩ rfl ?_
      refine lv_goto (tgt := 53) hx hb dX6_spare_49 (by decide) ?_
      refine j_sub hx hb dX6_spare_53 ?_
      exact p_iret hx hb hr hlocks (by (by_cases q0 : s 1 = 0 <;> first | (rw [if_pos q0]; first | done | (first | omega | rfl | (exfalso; omega))) | (rw [if_neg q0]; first | done | (by_cases q1 : s 5 ≠ -9 <;> first | (rw [if_pos q1]; first | done | (first | omega | rfl | (exfalso; omega))) | (rw [if_neg q1]; first | done | (first | omega | rfl | (exfalso; omega))))))) dX6_spare_54
  · refine j_bi hx hb dX6_spare_9 rfl ?_
    exact p_iret hx hb hr hlocks (by (by_cases q0 : s 1 = 0 <;> first | (rw [if_pos q0]; first | done | (first | omega | rfl | (exfalso; omega))) | (rw [if_neg q0]; first | done | (by_cases q1 : s 5 ≠ -9 <;> first | (rw [if_pos q1]; first | done | (first | omega | rfl | (exfalso; omega))) | (rw [if_neg q1]; first | done | (first | omega | rfl | (exfalso; omega))))))) dX6_spare_11
set_option maxHeartbeats 4000000 in
set_option maxRecDepth 100000 in
theorem kX6_lotFor (l : Launch) (D : va_G) (cI cV : ClassId) (b : Nat → Nat) (s pa he : Nat → Int) (np ru : Int) (t : Nat → Int) (ty at_ rd : Int) (x : Int) (y : Int) (hM : MS s) (r_x : rg x) (r_y : rg y) : PM l yX6_lotFor wsX6_lotFor 2 49 [.ref (b 0), .int (iI (x)), .int (iI (y))] (modw cI b s pa he np ru t ty at_ rd) D cI cV (some (.int (iI (if (0 ≤ x ∧ x < s 0) ∧ (0 ≤ y ∧ y < s 1) then (if s 5 ≠ -9 then (-2) else (if seatL (fun i => s (32 + i)) (x) (s 1).toNat ≠ -9 then (-9) else (seatF (fun i => pickL (fun i => b2i (seatL (fun i => s (32 + i)) (i : Int) (s 1).toNat = -9)) ((((i : Int)) * 25173 + 13849) % 65536 % sm (fun i => b2i (seatL (fun i => s (32 + i)) (i : Int) (s 1).toNat = -9)) (s 0).toNat) (s 0).toNat) x 65536))) else (-1))))) := by
  refine PM.of (cc := cX6_lotFor) (maxL := 5) (ret := (some .int)) (by decide) rfl (Nat.le_of_ble_eq_true rfl) ?_
  intro p e s0 m below meth c ls hx hb hr hts hown hlocks hml hP hK hl
  have hown : s0.vm.findClass RX6 = some m.cls := hown
  have hin : ∀ w ∈ u_ws RX6 TX6 9, w ∈ wsX6_lotFor := by decide +kernel
  have hl : lv_has ls 5 [(0, .ref (b 0)), (1, .int (iI (x))), (2, .int (iI (y)))] := hl
  obtain ⟨hbs, h00, h01, h10, h11, h30, h31, h40, h41, h70, h71, h60, h61, hco, hcn⟩ := id hM
  have hb5 := hbs 5
  have hb2 := hbs 2
  refine lv_aload_n hx hb dX6_lotFor_0 rfl (lv_at hl 0 rfl) ?_
  refine lv_iload_n hx hb dX6_lotFor_1 rfl (lv_at hl 1 rfl) ?_
  refine p_callV (v := .int (iI (b2i (0 ≤ x ∧ x < s 0)))) (ci := 6) (n := 1) (As := [.int (iI (x))]) (rest := []) ⟨hx, hb, hml, hown, hts⟩ hK (kX6_isVillager l D cI cV b s pa he np ru t ty at_ rd x hM (by omega)) hP rfl rfl gX6_lotFor_X6_isVillager rfl (by decide +kernel) ⟨Nat.le_of_ble_eq_true rfl, Nat.le_of_ble_eq_true rfl⟩ rfl hl.1 (Nat.le_of_ble_eq_true rfl) dX6_lotFor_2 ⟨Nat.zero_le _, Nat.zero_le _⟩ rfl ?_
  refine j_beq (tgt := 16) hx hb dX6_lotFor_5 (by decide) (fun c1 => ?_) (fun c1 => ?_)
  · refine j_c hx hb dX6_lotFor_16 ?_
    exact p_iret hx hb hr hlocks (by (by_cases q0 : (0 ≤ x ∧ x < s 0) ∧ (0 ≤ y ∧ y < s 1) <;> first | (rw [if_pos q0]; first | done | (by_cases q1 : s 5 ≠ -9 <;> first | (rw [if_pos q1]; first | done | (first | omega | (exfalso; omega))) | (rw [if_neg q1]; first | done | (by_cases q2 : seatL (fun i => s (32 + i)) (x) (s 1).toNat ≠ -9 <;> first | (rw [if_pos q2]; first | done | (first | omega | (exfalso; omega))) | (rw [if_neg q2]; first | done | (first | exact (seatF_found hinv.2.2 (by assumption) (by omega)).symm | (have h2 := hinv.2.2; rw [show j = 65536 from by omega] at h2; exact h2.symm) | (exfalso; omega))))))) | (rw [if_neg q0]; first | done | (first | omega | (exfalso; omega))))) dX6_lotFor_17
  · refine lv_aload_n hx hb dX6_lotFor_8 rfl (lv_at hl 0 rfl) ?_
    refine lv_iload_n hx hb dX6_lotFor_9 rfl (lv_at hl 2 rfl) ?_
    refine p_callV (v := .int (iI (b2i (0 ≤ y ∧ y < s 1)))) (ci := 6) (n := 1) (As := [.int (iI (y))]) (rest := []) ⟨hx, hb, hml, hown, hts⟩ hK (kX6_isSeat l D cI cV b s pa he np ru t ty at_ rd y hM (by omega)) hP rfl rfl gX6_lotFor_X6_isSeat rfl (by decide +kernel) ⟨Nat.le_of_ble_eq_true rfl, Nat.le_of_ble_eq_true rfl⟩ rfl hl.1 (Nat.le_of_ble_eq_true rfl) dX6_lotFor_10 ⟨Nat.zero_le _, Nat.zero_le _⟩ rfl ?_
    refine j_bne (tgt := 18) hx hb dX6_lotFor_13 (by decide) (fun c2 => ?_) (fun c2 => ?_)
    · refine lv_aload_n hx hb dX6_lotFor_18 rfl (lv_at hl 0 rfl) ?_
      refine p_callV (v := .int (iI (b2i (s 5 ≠ -9)))) (ci := 6) (n := 0) (As := []) (rest := []) ⟨hx, hb, hml, hown, hts⟩ hK (kX6_goesOn l D cI cV b s pa he np ru t ty at_ rd hM) hP rfl rfl gX6_lotFor_X6_goesOn rfl (by decide +kernel) ⟨Nat.le_of_ble_eq_true rfl, Nat.le_of_ble_eq_true rfl⟩ rfl hl.1 (Nat.le_of_ble_eq_true rfl) dX6_lotFor_19 ⟨Nat.zero_le _, Nat.zero_le _⟩ rfl ?_
      refine j_beq (tgt := 28) hx hb dX6_lotFor_22 (by decide) (fun c3 => ?_) (fun c3 => ?_)
      · refine lv_aload_n hx hb dX6_lotFor_28 rfl (lv_at hl 0 rfl) ?_
        refine p_callV (v := .int (iI (sm (fun i => b2i (seatL (fun i => s (32 + i)) (i : Int) (s 1).toNat = -9)) (s 0).toNat))) (ci := 6) (n := 0) (As := []) (rest := []) ⟨hx, hb, hml, hown, hts⟩ hK (kX6_candidates l D cI cV b s pa he np ru t ty at_ rd hM) hP rfl rfl gX6_lotFor_X6_candidates rfl (by decide +kernel) ⟨Nat.le_of_ble_eq_true rfl, Nat.le_of_ble_eq_true rfl⟩ rfl hl.1 (Nat.le_of_ble_eq_true rfl) dX6_lotFor_29 ⟨Nat.zero_le _, Nat.zero_le _⟩ rfl ?_
        have f26 := sm_rg (f := (fun i => b2i (seatL (fun i => s (32 + i)) (i : Int) (s 1).toNat = -9))) (fun k => b2i_rg) ((s 0).toNat)
        refine lv_istore_n (lv' := [(3, .int (iI (sm (fun i => b2i (seatL (fun i => s (32 + i)) (i : Int) (s 1).toNat = -9)) (s 0).toNat))), (0, .ref (b 0)), (1, .int (iI (x))), (2, .int (iI (y)))]) hx hb dX6_lotFor_32 rfl hl (by decide) rfl (fun ls hl => ?_)
        refine j_c hx hb dX6_lotFor_33 ?_
        refine lv_istore (lv' := [(4, .int (iI (0))), (3, .int (iI (sm (fun i => b2i (seatL (fun i => s (32 + i)) (i : Int) (s 1).toNat = -9)) (s 0).toNat))), (0, .ref (b 0)), (1, .int (iI (x))), (2, .int (iI (y)))]) hx hb dX6_lotFor_34 hl (by decide) rfl (fun ls hl => ?_)
        have LP36 : ∀ (fu : Nat) (j : Nat) (x4 : Int), x4 = (j : Int) → ((j : Int) ≤ 65536 ∧ (seatL (fun i => s (32 + i)) (x) (s 1).toNat ≠ -9 → j = 0) ∧ seatF (fun i => pickL (fun i => b2i (seatL (fun i => s (32 + i)) (i : Int) (s 1).toNat = -9)) ((((i : Int)) * 25173 + 13849) % 65536 % sm (fun i => b2i (seatL (fun i => s (32 + i)) (i : Int) (s 1).toNat = -9)) (s 0).toNat) (s 0).toNat) x j = -9) → 65536 - j < fu → ∀ ls : Array Slot, lv_has ls 5 [(4, .int (iI (x4))), (3, .int (iI (sm (fun i => b2i (seatL (fun i => s (32 + i)) (i : Int) (s 1).toNat = -9)) (s 0).toNat))), (0, .ref (b 0)), (1, .int (iI (x))), (2, .int (iI (y)))] → W p l e (headSpec wsX6_lotFor (rmK 2 49)).room s0 m ([.ref (b 0), .int (iI (x)), .int (iI (y))] : List Value).toArray below meth c s0.heap [] 0 0 (MQ below (pQ (some (.int (iI (if (0 ≤ x ∧ x < s 0) ∧ (0 ≤ y ∧ y < s 1) then (if s 5 ≠ -9 then (-2) else (if seatL (fun i => s (32 + i)) (x) (s 1).toNat ≠ -9 then (-9) else (seatF (fun i => pickL (fun i => b2i (seatL (fun i => s (32 + i)) (i : Int) (s 1).toNat = -9)) ((((i : Int)) * 25173 + 13849) % 65536 % sm (fun i => b2i (seatL (fun i => s (32 + i)) (i : Int) (s 1).toNat = -9)) (s 0).toNat) (s 0).toNat) x 65536))) else (-1)))))) ([.ref (b 0), .int (iI (x)), .int (iI (y))] : List Value).toArray s0 0 0 (fun _ => False)) (F0 m 36 ls []) := by
          intro fu
          induction fu with
          | zero =>
            intros
            omega
          | succ fu ih =>
            intro j x4 ex4 hinv hmeas  ls hl
            subst ex4
            refine lv_iload hx hb dX6_lotFor_36 (lv_at hl 0 rfl) ?_
            refine j_ldc (n := 65536) hx hb hown (hts (.constant RX6 156 65536) (by decide +kernel)) rfl dX6_lotFor_38 ?_
            refine j_ige (tgt := 79) hx hb (by omega) (by omega) dX6_lotFor_40 (by decide) (fun c4 => ?_) (fun c4 => ?_)
            · refine j_bi hx hb dX6_lotFor_79 rfl ?_
              exact p_iret hx hb hr hlocks (by (by_cases q0 : (0 ≤ x ∧ x < s 0) ∧ (0 ≤ y ∧ y < s 1) <;> first | (rw [if_pos q0]; first | done | (by_cases q1 : s 5 ≠ -9 <;> first | (rw [if_pos q1]; first | done | (first | omega | (exfalso; omega))) | (rw [if_neg q1]; first | done | (by_cases q2 : seatL (fun i => s (32 + i)) (x) (s 1).toNat ≠ -9 <;> first | (rw [if_pos q2]; first | done | (first | omega | (exfalso; omega))) | (rw [if_neg q2]; first | done | (first | exact (seatF_found hinv.2.2 (by assumption) (by omega)).symm | (have h2 := hinv.2.2; rw [show j = 65536 from by omega] at h2; exact h2.symm) | (exfalso; omega))))))) | (rw [if_neg q0]; first | done | (first | omega | (exfalso; omega))))) dX6_lotFor_81
            · refine lv_aload_n hx hb dX6_lotFor_43 rfl (lv_at hl 2 rfl) ?_
              refine j_bi hx hb dX6_lotFor_44 rfl ?_
              refine lv_iload_n hx hb dX6_lotFor_46 rfl (lv_at hl 3 rfl) ?_
              refine p_callV (v := .int (iI (seatL (fun i => s (32 + i)) x (s 1).toNat))) (ci := 6) (n := 2) (As := [.int (iI (32)), .int (iI (x))]) (rest := []) ⟨hx, hb, hml, hown, hts⟩ hK (kX6_seatOf l D cI cV b s pa he np ru t ty at_ rd 32 x hM (by omega) (by omega)) hP rfl rfl gX6_lotFor_X6_seatOf rfl (by decide +kernel) ⟨Nat.le_of_ble_eq_true rfl, Nat.le_of_ble_eq_true rfl⟩ rfl hl.1 (Nat.le_of_ble_eq_true rfl) dX6_lotFor_47 ⟨Nat.zero_le _, Nat.zero_le _⟩ rfl ?_
              have fq := seatL_rg (el := (fun i => s (32 + i))) (v := x) (s 1).toNat
              refine j_bi hx hb dX6_lotFor_50 rfl ?_
              refine j_ine (tgt := 79) hx hb (by omega) (by omega) dX6_lotFor_52 (by decide) (fun c5 => ?_) (fun c5 => ?_)
              · refine j_bi hx hb dX6_lotFor_79 rfl ?_
                exact p_iret hx hb hr hlocks (by (by_cases q0 : (0 ≤ x ∧ x < s 0) ∧ (0 ≤ y ∧ y < s 1) <;> first | (rw [if_pos q0]; first | done | (by_cases q1 : s 5 ≠ -9 <;> first | (rw [if_pos q1]; first | done | (first | omega | (exfalso; omega))) | (rw [if_neg q1]; first | done | (by_cases q2 : seatL (fun i => s (32 + i)) (x) (s 1).toNat ≠ -9 <;> first | (rw [if_pos q2]; first | done | (first | omega | (exfalso; omega))) | (rw [if_neg q2]; first | done | (first | exact (seatF_found hinv.2.2 (by assumption) (by omega)).symm | (have h2 := hinv.2.2; rw [show j = 65536 from by omega] at h2; exact h2.symm) | (exfalso; omega))))))) | (rw [if_neg q0]; first | done | (first | omega | (exfalso; omega))))) dX6_lotFor_81
              · refine lv_aload_n hx hb dX6_lotFor_55 rfl (lv_at hl 2 rfl) ?_
                refine lv_iload hx hb dX6_lotFor_56 (lv_at hl 0 rfl) ?_
                refine p_callS (v := .int (iI ((((j : Int)) * 25173 + 13849) % 65536))) (n := 1) (w := []) (As := [.int (iI ((j : Int)))]) (rest := [.ref (b 0)]) ⟨hx, hb, hml, hown, hts⟩ hK (kX6_drawn l D cI cV (j : Int) (by omega)) (fun k q h => by simp at h) gX6_lotFor_X6_drawn rfl (by decide +kernel) ⟨Nat.le_of_ble_eq_true rfl, Nat.le_of_ble_eq_true rfl⟩ rfl hl.1 (Nat.le_of_ble_eq_true rfl) dX6_lotFor_58 ⟨Nat.zero_le _, Nat.zero_le _⟩ rfl ?_
                refine lv_iload_n hx hb dX6_lotFor_61 rfl (lv_at hl 1 rfl) ?_
                have hcp : 1 ≤ sm (fun i => b2i (seatL (fun i => s (32 + i)) (i : Int) (s 1).toNat = -9)) (s 0).toNat := sm_pos (f := fun i => b2i (seatL (fun i => s (32 + i)) (i : Int) (s 1).toNat = -9)) (fun k => b2i_rg.1) (i := x.toNat) (by omega) (b2i_t (by rw [show ((x.toNat : Nat) : Int) = x from by omega]; omega))
                have hP0 := Int.emod_nonneg ((((j : Int)) * 25173 + 13849) % 65536) (show sm (fun i => b2i (seatL (fun i => s (32 + i)) (i : Int) (s 1).toNat = -9)) (s 0).toNat ≠ 0 by omega)
                have hP1 := Int.emod_lt_of_pos ((((j : Int)) * 25173 + 13849) % 65536) (show 0 < sm (fun i => b2i (seatL (fun i => s (32 + i)) (i : Int) (s 1).toNat = -9)) (s 0).toNat by omega)
                refine j_rem hx hb (by omega) (by omega) dX6_lotFor_62 ?_
                refine p_callV (v := .int (iI (pickL (fun i => b2i (seatL (fun i => s (32 + i)) (i : Int) (s 1).toNat = -9)) (((((j : Int)) * 25173 + 13849) % 65536) % (sm (fun i => b2i (seatL (fun i => s (32 + i)) (i : Int) (s 1).toNat = -9)) (s 0).toNat)) (s 0).toNat))) (ci := 6) (n := 1) (As := [.int (iI (((((j : Int)) * 25173 + 13849) % 65536) % (sm (fun i => b2i (seatL (fun i => s (32 + i)) (i : Int) (s 1).toNat = -9)) (s 0).toNat)))]) (rest := []) ⟨hx, hb, hml, hown, hts⟩ hK (kX6_candidate l D cI cV b s pa he np ru t ty at_ rd (((((j : Int)) * 25173 + 13849) % 65536) % (sm (fun i => b2i (seatL (fun i => s (32 + i)) (i : Int) (s 1).toNat = -9)) (s 0).toNat)) hM (by omega)) hP rfl rfl gX6_lotFor_X6_candidate rfl (by decide +kernel) ⟨Nat.le_of_ble_eq_true rfl, Nat.le_of_ble_eq_true rfl⟩ rfl hl.1 (Nat.le_of_ble_eq_true rfl) dX6_lotFor_63 ⟨Nat.zero_le _, Nat.zero_le _⟩ rfl ?_
                have f62 := sm_rg (f := (fun i => b2i (seatL (fun i => s (32 + i)) (i : Int) (s 1).toNat = -9))) (fun k => b2i_rg) ((s 0).toNat)
                have hpk := pickL_rg (f := fun i => b2i (seatL (fun i => s (32 + i)) (i : Int) (s 1).toNat = -9)) (p := (((j : Int)) * 25173 + 13849) % 65536 % sm (fun i => b2i (seatL (fun i => s (32 + i)) (i : Int) (s 1).toNat = -9)) (s 0).toNat) (s 0).toNat
                refine lv_iload_n hx hb dX6_lotFor_66 rfl (lv_at hl 3 rfl) ?_
                refine j_ine (tgt := 73) hx hb (by omega) (by omega) dX6_lotFor_67 (by decide) (fun c6 => ?_) (fun c6 => ?_)
                · refine lv_iinc (v := iI ((j : Int) + 1)) (lv' := [(4, .int (iI ((j : Int) + 1))), (3, .int (iI (sm (fun i => b2i (seatL (fun i => s (32 + i)) (i : Int) (s 1).toNat = -9)) (s 0).toNat))), (0, .ref (b 0)), (1, .int (iI (x))), (2, .int (iI (y)))]) hx hb dX6_lotFor_73 hl (k := 0) rfl (iI_add _ _) (by decide) rfl (fun ls hl => ?_)
                  refine lv_goto (tgt := 36) hx hb dX6_lotFor_76 (by decide) ?_
                  exact ih (j + 1) ((j : Int) + 1) (by first | rfl | omega | (simp only [sm, b2i]; (repeat' split) <;> first | rfl | omega | (exfalso; omega) | (exfalso; simp_all))) (by exact ⟨by omega, fun h => absurd h (by omega), seatF_step hinv.2.2 (by assumption)⟩) (by omega) ls (lv_sub hl [0, 1, 2, 3, 4] rfl)
                · refine lv_iload hx hb dX6_lotFor_70 (lv_at hl 0 rfl) ?_
                  exact p_iret hx hb hr hlocks (by (by_cases q0 : (0 ≤ x ∧ x < s 0) ∧ (0 ≤ y ∧ y < s 1) <;> first | (rw [if_pos q0]; first | done | (by_cases q1 : s 5 ≠ -9 <;> first | (rw [if_pos q1]; first | done | (first | omega | (exfalso; omega))) | (rw [if_neg q1]; first | done | (by_cases q2 : seatL (fun i => s (32 + i)) (x) (s 1).toNat ≠ -9 <;> first | (rw [if_pos q2]; first | done | (first | omega | (exfalso; omega))) | (rw [if_neg q2]; first | done | (first | exact (seatF_found hinv.2.2 (by assumption) (by omega)).symm | (have h2 := hinv.2.2; rw [show j = 65536 from by omega] at h2; exact h2.symm) | (exfalso; omega))))))) | (rw [if_neg q0]; first | done | (first | omega | (exfalso; omega))))) dX6_lotFor_72
        exact LP36 (_) 0 0 (by first | rfl | omega) (by exact ⟨by omega, fun _ => rfl, rfl⟩) (by exact Nat.lt_succ_self _) ls (lv_sub hl [0, 1, 2, 3, 4] rfl)
      · refine j_bi hx hb dX6_lotFor_25 rfl ?_
        exact p_iret hx hb hr hlocks (by (by_cases q0 : (0 ≤ x ∧ x < s 0) ∧ (0 ≤ y ∧ y < s 1) <;> first | (rw [if_pos q0]; first | done | (by_cases q1 : s 5 ≠ -9 <;> first | (rw [if_pos q1]; first | done | (first | omega | (exfalso; omega))) | (rw [if_neg q1]; first | done | (by_cases q2 : seatL (fun i => s (32 + i)) (x) (s 1).toNat ≠ -9 <;> first | (rw [if_pos q2]; first | done | (first | omega | (exfalso; omega))) | (rw [if_neg q2]; first | done | (first | exact (seatF_found hinv.2.2 (by assumption) (by omega)).symm | (have h2 := hinv.2.2; rw [show j = 65536 from by omega] at h2; exact h2.symm) | (exfalso; omega))))))) | (rw [if_neg q0]; first | done | (first | omega | (exfalso; omega))))) dX6_lotFor_27
    · refine j_c hx hb dX6_lotFor_16 ?_
      exact p_iret hx hb hr hlocks (by (by_cases q0 : (0 ≤ x ∧ x < s 0) ∧ (0 ≤ y ∧ y < s 1) <;> first | (rw [if_pos q0]; first | done | (by_cases q1 : s 5 ≠ -9 <;> first | (rw [if_pos q1]; first | done | (first | omega | (exfalso; omega))) | (rw [if_neg q1]; first | done | (by_cases q2 : seatL (fun i => s (32 + i)) (x) (s 1).toNat ≠ -9 <;> first | (rw [if_pos q2]; first | done | (first | omega | (exfalso; omega))) | (rw [if_neg q2]; first | done | (first | exact (seatF_found hinv.2.2 (by assumption) (by omega)).symm | (have h2 := hinv.2.2; rw [show j = 65536 from by omega] at h2; exact h2.symm) | (exfalso; omega))))))) | (rw [if_neg q0]; first | done | (first | omega | (exfalso; omega))))) dX6_lotFor_17
