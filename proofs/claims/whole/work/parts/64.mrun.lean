set_option maxHeartbeats 4000000 in
set_option maxRecDepth 100000 in
theorem kX6_run (l : Launch) (D : va_G) (cI cV : ClassId) (b : Nat → Nat) (s pa he : Nat → Int) (np ru : Int) (t : Nat → Int) (ty at_ rd : Int) (rr : Int × Int × (Nat → Int) × Int × Int) (hM : MS s) (h24 : s 2 ≤ s 4) (hT : MT t ty) (hru0 : ru = 0) (hnp : 0 ≤ np ∧ np ≤ 5) (e_rr : rr = runM t ty 61 (-9) s 0 0 rd) : MM l yX6_run wsX6_run 6 130 [.ref (b 0)] (modw cI b s pa he np ru t ty at_ rd) (modw cI b (if rr.2.1 ≠ -9 then (s) else (rr.2.2.1)) (if rr.2.1 ≠ -9 then (pa) else (actP s pa np)) (if rr.2.1 ≠ -9 then (blk (blk he 0 s 522) 0 rr.2.2.1 522) else (blk (blk (blk he 0 s 522) 0 rr.2.2.1 522) 0 (blk rr.2.2.1 0 (blk he 0 s 522) 522) 522)) (if rr.2.1 ≠ -9 then (np) else (actN np + 1)) 0 t (if rr.2.1 ≠ -9 then (ty) else (0)) rr.2.2.2.1 rr.2.2.2.2) D cI cV (some (.int (iI (if rr.2.1 ≠ -9 then (-1000 - rr.2.1) else (rr.1))))) := by
  refine MM.of (cc := cX6_run) (maxL := 3) (ret := (some .int)) (by decide) rfl (Nat.le_of_ble_eq_true rfl) ?_
  intro p e s0 m below meth c ls hx hb hr hts hown hlocks hml hW hK hl
  have hWk := hW
  have hown : s0.vm.findClass RX6 = some m.cls := hown
  have hin : ∀ w ∈ u_ws RX6 TX6 9, w ∈ wsX6_run := by decide +kernel
  have hl : lv_has ls 3 [(0, .ref (b 0))] := hl
  obtain ⟨hbt, ht0, ht1⟩ := id hT
  refine lv_aload_n hx hb dX6_run_0 rfl (lv_at hl 0 rfl) ?_
  refine m_callV (v := none) (ci := 6) (n := 0) (As := []) (rest := []) (st2 := []) (w2 := modw cI b s pa (blk he 0 s 522) np ru t ty at_ rd) (pre := []) (post := []) ⟨hx, hb, hml, hown, hts⟩ hK hW (kX6_holds l D cI cV b s pa he np ru t ty at_ rd) (by rw [List.nil_append, List.append_nil]) (by rw [List.nil_append, List.append_nil]) rfl rfl rfl gX6_run_X6_holds rfl (by decide +kernel) ⟨Nat.le_of_ble_eq_true rfl, Nat.le_of_ble_eq_true rfl⟩ rfl hl.1 (Nat.le_of_ble_eq_true rfl) dX6_run_1 ⟨Nat.zero_le _, Nat.zero_le _⟩ rfl rfl (fun H locs hW => ?_)
  obtain ⟨he_1, ehe_1⟩ : ∃ zz_, zz_ = blk he 0 s 522 := ⟨_, rfl⟩
  rw [← ehe_1] at hW
  refine lv_aload_n hx hb dX6_run_4 rfl (lv_at hl 0 rfl) ?_
  refine j_c hx hb dX6_run_5 ?_
  refine Mp4 hx hb hts hin hown hK hW (by decide +kernel) dX6_run_6 (by decide) (fun H locs hW => ?_)
  refine j_c hx hb dX6_run_9 ?_
  refine lv_istore_n (lv' := [(1, .int (iI (0))), (0, .ref (b 0))]) hx hb dX6_run_10 rfl hl (by decide) rfl (fun ls hl => ?_)
  refine j_bi hx hb dX6_run_11 rfl ?_
  refine lv_istore_n (lv' := [(2, .int (iI ((-9)))), (1, .int (iI (0))), (0, .ref (b 0))]) hx hb dX6_run_13 rfl hl (by decide) rfl (fun ls hl => ?_)
  refine lv_aload_n hx hb dX6_run_14 rfl (lv_at hl 2 rfl) ?_
  refine j_c hx hb dX6_run_15 ?_
  refine Mp7 hx hb hts hin hown hK hW (by decide +kernel) dX6_run_16 (fun H locs hW => ?_)
  have LP19 : ∀ (fu : Nat) (k : Nat) (pj : Int) (sj : Nat → Int) (atj : Int) (rdj : Int) (x1 : Int), x1 = (k : Int) → ((k ≤ 61 ∧ 0 ≤ atj ∧ atj ≤ 100 ∧ bd pj ∧ (pj = -9 → (k : Int) ≤ atj ∧ atj ≤ ty)) ∧ OKm sj ∧ rr = runM t ty (61 - k) pj sj (k : Int) atj rdj) → 61 - k < fu → ∀ (H : Heap) (locs : List Loc), Wd D (ad (modw cI b s pa he np ru t ty at_ rd)) (modw cI b sj pa (blk he 0 s 522) np (1 : Int) t ty atj rdj) s0.heap H locs → ∀ ls : Array Slot, lv_has ls 3 [(2, .int (iI (pj))), (1, .int (iI (x1))), (0, .ref (b 0))] → W p l e (headSpec wsX6_run (rmK 6 130)).room s0 m ([.ref (b 0)] : List Value).toArray below meth c H locs 0 0 (MQ below (mQ D (some (.int (iI (if rr.2.1 ≠ -9 then (-1000 - rr.2.1) else (rr.1))))) (modw cI b (if rr.2.1 ≠ -9 then (s) else (rr.2.2.1)) (if rr.2.1 ≠ -9 then (pa) else (actP s pa np)) (if rr.2.1 ≠ -9 then (blk (blk he 0 s 522) 0 rr.2.2.1 522) else (blk (blk (blk he 0 s 522) 0 rr.2.2.1 522) 0 (blk rr.2.2.1 0 (blk he 0 s 522) 522) 522)) (if rr.2.1 ≠ -9 then (np) else (actN np + 1)) 0 t (if rr.2.1 ≠ -9 then (ty) else (0)) rr.2.2.2.1 rr.2.2.2.2) (ad (modw cI b s pa he np ru t ty at_ rd))) ([.ref (b 0)] : List Value).toArray s0 0 0 (ad (modw cI b s pa he np ru t ty at_ rd))) (F0 m 19 ls []) := by
    intro fu
    induction fu with
    | zero =>
      intros
      omega
    | succ fu ih =>
      intro k pj sj atj rdj x1 ex1 hinv hmeas H locs hW ls hl
      subst ex1
      have hM := hinv.2.1.1
      have h24 := hinv.2.1.2
      refine lv_iload_n hx hb dX6_run_19 rfl (lv_at hl 0 rfl) ?_
      refine j_bi hx hb dX6_run_20 rfl ?_
      refine j_ine (tgt := 47) hx hb (by omega) (by omega) dX6_run_22 (by decide) (fun c1 => ?_) (fun c1 => ?_)
      · have hrr : rr = ((k : Int), pj, sj, atj, rdj) := by rw [hinv.2.2]; exact runM_end (by omega) _
        have hr2 : rr.2.1 = pj := by rw [hrr]
        have hr1k : rr.1 = (k : Int) := by rw [hrr]
        refine lv_aload_n hx hb dX6_run_47 rfl (lv_at hl 2 rfl) ?_
        refine j_c hx hb dX6_run_48 ?_
        refine Mp4 hx hb hts hin hown hK hW (by decide +kernel) dX6_run_49 (by decide) (fun H locs hW => ?_)
        refine lv_aload_n hx hb dX6_run_52 rfl (lv_at hl 2 rfl) ?_
        refine m_callV (v := none) (ci := 6) (n := 0) (As := []) (rest := []) (st2 := []) (w2 := modw cI b (blk sj 0 (blk he 0 s 522) 522) pa (blk (blk he 0 s 522) 0 sj 522) np (0 : Int) t ty atj rdj) (pre := []) (post := []) ⟨hx, hb, hml, hown, hts⟩ hK hW (kX6_exchanges l D cI cV b sj pa (blk he 0 s 522) np (0 : Int) t ty atj rdj) (by rw [List.nil_append, List.append_nil]) (by rw [List.nil_append, List.append_nil]) rfl rfl rfl gX6_run_X6_exchanges rfl (by decide +kernel) ⟨Nat.le_of_ble_eq_true rfl, Nat.le_of_ble_eq_true rfl⟩ rfl hl.1 (Nat.le_of_ble_eq_true rfl) dX6_run_53 ⟨Nat.zero_le _, Nat.zero_le _⟩ rfl rfl (fun H locs hW => ?_)
        obtain ⟨s_2, es_2⟩ : ∃ zz_, zz_ = blk sj 0 (blk he 0 s 522) 522 := ⟨_, rfl⟩
        rw [← es_2] at hW
        obtain ⟨he_3, ehe_3⟩ : ∃ zz_, zz_ = blk (blk he 0 s 522) 0 sj 522 := ⟨_, rfl⟩
        rw [← ehe_3] at hW
        refine lv_iload_n hx hb dX6_run_56 rfl (lv_at hl 0 rfl) ?_
        refine j_bi hx hb dX6_run_57 rfl ?_
        refine j_ieq (tgt := 68) hx hb (by omega) (by omega) dX6_run_59 (by decide) (fun c2 => ?_) (fun c2 => ?_)
        · refine lv_aload_n hx hb dX6_run_68 rfl (lv_at hl 2 rfl) ?_
          refine m_callV (v := none) (ci := 6) (n := 0) (As := []) (rest := []) (st2 := []) (w2 := modw cI b s_2 (if (0 : Int) = 0 then (actP s_2 pa np) else (pa)) he_3 (if (0 : Int) = 0 then (actN np + 1) else (np)) (0 : Int) t ty atj rdj) (pre := []) (post := []) ⟨hx, hb, hml, hown, hts⟩ hK hW (kX6_acts l D cI cV b s_2 pa he_3 np (0 : Int) t ty atj rdj (by omega) (by omega)) (by rw [List.nil_append, List.append_nil]) (by rw [List.nil_append, List.append_nil]) rfl rfl rfl gX6_run_X6_acts rfl (by decide +kernel) ⟨Nat.le_of_ble_eq_true rfl, Nat.le_of_ble_eq_true rfl⟩ rfl hl.1 (Nat.le_of_ble_eq_true rfl) dX6_run_69 ⟨Nat.zero_le _, Nat.zero_le _⟩ rfl rfl (fun H locs hW => ?_)
          obtain ⟨pa_4, epa_4⟩ : ∃ zz_, zz_ = if (0 : Int) = 0 then (actP s_2 pa np) else (pa) := ⟨_, rfl⟩
          rw [← epa_4] at hW
          refine lv_aload_n hx hb dX6_run_72 rfl (lv_at hl 2 rfl) ?_
          refine m_callV (v := none) (ci := 6) (n := 0) (As := []) (rest := []) (st2 := []) (w2 := modw cI b (blk s_2 0 he_3 522) pa_4 (blk he_3 0 s_2 522) (if (0 : Int) = 0 then (actN np + 1) else (np)) (0 : Int) t ty atj rdj) (pre := []) (post := []) ⟨hx, hb, hml, hown, hts⟩ hK hW (kX6_exchanges l D cI cV b s_2 pa_4 he_3 (if (0 : Int) = 0 then (actN np + 1) else (np)) (0 : Int) t ty atj rdj) (by rw [List.nil_append, List.append_nil]) (by rw [List.nil_append, List.append_nil]) rfl rfl rfl gX6_run_X6_exchanges rfl (by decide +kernel) ⟨Nat.le_of_ble_eq_true rfl, Nat.le_of_ble_eq_true rfl⟩ rfl hl.1 (Nat.le_of_ble_eq_true rfl) dX6_run_73 ⟨Nat.zero_le _, Nat.zero_le _⟩ rfl rfl (fun H locs hW => ?_)
          obtain ⟨s_5, es_5⟩ : ∃ zz_, zz_ = blk s_2 0 he_3 522 := ⟨_, rfl⟩
          rw [← es_5] at hW
          obtain ⟨he_6, ehe_6⟩ : ∃ zz_, zz_ = blk he_3 0 s_2 522 := ⟨_, rfl⟩
          rw [← ehe_6] at hW
          refine lv_aload_n hx hb dX6_run_76 rfl (lv_at hl 2 rfl) ?_
          refine j_c hx hb dX6_run_77 ?_
          refine Mp6 hx hb hts hin hown hK hW (by decide +kernel) dX6_run_78 (fun H locs hW => ?_)
          refine lv_iload_n hx hb dX6_run_81 rfl (lv_at hl 1 rfl) ?_
          exact m_iret hx hb hr hlocks hW (by (by_cases zq0 : rr.2.1 ≠ -9 <;> first | (simp only [if_pos zq0]; first | done | (first | done | (subst ehe_6; subst es_5; subst epa_4; subst ehe_3; subst es_2; rw [modw_s (s := s) (fun j hj => blk_back hj), hrr]; first | done | rfl) | (subst ehe_6; subst es_5; subst epa_4; subst ehe_3; subst es_2; rw [if_pos rfl, if_pos rfl, actP_congr (s := s) (fun i hi => blk_back hi), modw_s (s := sj) (fun j hj => blk_back hj), hrr]; first | done | rfl) | (subst ehe_6; subst es_5; subst epa_4; subst ehe_3; subst es_2; rw [hrr, actP_congr (s := s) (fun i hi => blk_back hi), modw_s (s := sj) (fun j hj => blk_back hj)]; first | done | rfl) | (exfalso; omega))) | (simp only [if_neg zq0]; first | done | (first | done | (subst ehe_6; subst es_5; subst epa_4; subst ehe_3; subst es_2; rw [modw_s (s := s) (fun j hj => blk_back hj), hrr]; first | done | rfl) | (subst ehe_6; subst es_5; subst epa_4; subst ehe_3; subst es_2; rw [if_pos rfl, if_pos rfl, actP_congr (s := s) (fun i hi => blk_back hi), modw_s (s := sj) (fun j hj => blk_back hj), hrr]; first | done | rfl) | (subst ehe_6; subst es_5; subst epa_4; subst ehe_3; subst es_2; rw [hrr, actP_congr (s := s) (fun i hi => blk_back hi), modw_s (s := sj) (fun j hj => blk_back hj)]; first | done | rfl) | (exfalso; omega))))) (by (by_cases zq0 : rr.2.1 ≠ -9 <;> first | (rw [if_pos zq0]; first | done | (first | omega | rfl | (exfalso; omega))) | (rw [if_neg zq0]; first | done | (first | omega | rfl | (exfalso; omega))))) dX6_run_82
        · refine j_si hx hb dX6_run_62 rfl ?_
          refine lv_iload_n hx hb dX6_run_65 rfl (lv_at hl 0 rfl) ?_
          refine j_sub hx hb dX6_run_66 ?_
          exact m_iret hx hb hr hlocks hW (by (by_cases zq0 : rr.2.1 ≠ -9 <;> first | (simp only [if_pos zq0]; first | done | (first | done | (subst ehe_3; subst es_2; rw [modw_s (s := s) (fun j hj => blk_back hj), hrr]; first | done | rfl) | (subst ehe_3; subst es_2; rw [if_pos rfl, if_pos rfl, actP_congr (s := s) (fun i hi => blk_back hi), modw_s (s := sj) (fun j hj => blk_back hj), hrr]; first | done | rfl) | (subst ehe_3; subst es_2; rw [hrr, actP_congr (s := s) (fun i hi => blk_back hi), modw_s (s := sj) (fun j hj => blk_back hj)]; first | done | rfl) | (exfalso; omega))) | (simp only [if_neg zq0]; first | done | (first | done | (subst ehe_3; subst es_2; rw [modw_s (s := s) (fun j hj => blk_back hj), hrr]; first | done | rfl) | (subst ehe_3; subst es_2; rw [if_pos rfl, if_pos rfl, actP_congr (s := s) (fun i hi => blk_back hi), modw_s (s := sj) (fun j hj => blk_back hj), hrr]; first | done | rfl) | (subst ehe_3; subst es_2; rw [hrr, actP_congr (s := s) (fun i hi => blk_back hi), modw_s (s := sj) (fun j hj => blk_back hj)]; first | done | rfl) | (exfalso; omega))))) (by (by_cases zq0 : rr.2.1 ≠ -9 <;> first | (rw [if_pos zq0]; first | done | (first | omega | rfl | (exfalso; omega))) | (rw [if_neg zq0]; first | done | (first | omega | rfl | (exfalso; omega))))) dX6_run_67
      · refine lv_aload_n hx hb dX6_run_25 rfl (lv_at hl 2 rfl) ?_
        refine Mg7 hx hb hts hin hown hK hW.1 (by decide +kernel) dX6_run_26 ?_
        refine lv_aload_n hx hb dX6_run_29 rfl (lv_at hl 2 rfl) ?_
        refine Mg6 hx hb hts hin hown hK hW.1 (by decide +kernel) dX6_run_30 ?_
        refine j_ige (tgt := 47) hx hb (by omega) (by omega) dX6_run_33 (by decide) (fun c3 => ?_) (fun c3 => ?_)
        · have hrr : rr = ((k : Int), pj, sj, atj, rdj) := by rw [hinv.2.2]; exact runM_end (by omega) _
          have hr2 : rr.2.1 = pj := by rw [hrr]
          have hr1k : rr.1 = (k : Int) := by rw [hrr]
          refine lv_aload_n hx hb dX6_run_47 rfl (lv_at hl 2 rfl) ?_
          refine j_c hx hb dX6_run_48 ?_
          refine Mp4 hx hb hts hin hown hK hW (by decide +kernel) dX6_run_49 (by decide) (fun H locs hW => ?_)
          refine lv_aload_n hx hb dX6_run_52 rfl (lv_at hl 2 rfl) ?_
          refine m_callV (v := none) (ci := 6) (n := 0) (As := []) (rest := []) (st2 := []) (w2 := modw cI b (blk sj 0 (blk he 0 s 522) 522) pa (blk (blk he 0 s 522) 0 sj 522) np (0 : Int) t ty atj rdj) (pre := []) (post := []) ⟨hx, hb, hml, hown, hts⟩ hK hW (kX6_exchanges l D cI cV b sj pa (blk he 0 s 522) np (0 : Int) t ty atj rdj) (by rw [List.nil_append, List.append_nil]) (by rw [List.nil_append, List.append_nil]) rfl rfl rfl gX6_run_X6_exchanges rfl (by decide +kernel) ⟨Nat.le_of_ble_eq_true rfl, Nat.le_of_ble_eq_true rfl⟩ rfl hl.1 (Nat.le_of_ble_eq_true rfl) dX6_run_53 ⟨Nat.zero_le _, Nat.zero_le _⟩ rfl rfl (fun H locs hW => ?_)
          obtain ⟨s_7, es_7⟩ : ∃ zz_, zz_ = blk sj 0 (blk he 0 s 522) 522 := ⟨_, rfl⟩
          rw [← es_7] at hW
          obtain ⟨he_8, ehe_8⟩ : ∃ zz_, zz_ = blk (blk he 0 s 522) 0 sj 522 := ⟨_, rfl⟩
          rw [← ehe_8] at hW
          refine lv_iload_n hx hb dX6_run_56 rfl (lv_at hl 0 rfl) ?_
          refine j_bi hx hb dX6_run_57 rfl ?_
          refine j_ieq (tgt := 68) hx hb (by omega) (by omega) dX6_run_59 (by decide) (fun c4 => ?_) (fun c4 => ?_)
          · refine lv_aload_n hx hb dX6_run_68 rfl (lv_at hl 2 rfl) ?_
            refine m_callV (v := none) (ci := 6) (n := 0) (As := []) (rest := []) (st2 := []) (w2 := modw cI b s_7 (if (0 : Int) = 0 then (actP s_7 pa np) else (pa)) he_8 (if (0 : Int) = 0 then (actN np + 1) else (np)) (0 : Int) t ty atj rdj) (pre := []) (post := []) ⟨hx, hb, hml, hown, hts⟩ hK hW (kX6_acts l D cI cV b s_7 pa he_8 np (0 : Int) t ty atj rdj (by omega) (by omega)) (by rw [List.nil_append, List.append_nil]) (by rw [List.nil_append, List.append_nil]) rfl rfl rfl gX6_run_X6_acts rfl (by decide +kernel) ⟨Nat.le_of_ble_eq_true rfl, Nat.le_of_ble_eq_true rfl⟩ rfl hl.1 (Nat.le_of_ble_eq_true rfl) dX6_run_69 ⟨Nat.zero_le _, Nat.zero_le _⟩ rfl rfl (fun H locs hW => ?_)
            obtain ⟨pa_9, epa_9⟩ : ∃ zz_, zz_ = if (0 : Int) = 0 then (actP s_7 pa np) else (pa) := ⟨_, rfl⟩
            rw [← epa_9] at hW
            refine lv_aload_n hx hb dX6_run_72 rfl (lv_at hl 2 rfl) ?_
            refine m_callV (v := none) (ci := 6) (n := 0) (As := []) (rest := []) (st2 := []) (w2 := modw cI b (blk s_7 0 he_8 522) pa_9 (blk he_8 0 s_7 522) (if (0 : Int) = 0 then (actN np + 1) else (np)) (0 : Int) t ty atj rdj) (pre := []) (post := []) ⟨hx, hb, hml, hown, hts⟩ hK hW (kX6_exchanges l D cI cV b s_7 pa_9 he_8 (if (0 : Int) = 0 then (actN np + 1) else (np)) (0 : Int) t ty atj rdj) (by rw [List.nil_append, List.append_nil]) (by rw [List.nil_append, List.append_nil]) rfl rfl rfl gX6_run_X6_exchanges rfl (by decide +kernel) ⟨Nat.le_of_ble_eq_true rfl, Nat.le_of_ble_eq_true rfl⟩ rfl hl.1 (Nat.le_of_ble_eq_true rfl) dX6_run_73 ⟨Nat.zero_le _, Nat.zero_le _⟩ rfl rfl (fun H locs hW => ?_)
            obtain ⟨s_10, es_10⟩ : ∃ zz_, zz_ = blk s_7 0 he_8 522 := ⟨_, rfl⟩
            rw [← es_10] at hW
            obtain ⟨he_11, ehe_11⟩ : ∃ zz_, zz_ = blk he_8 0 s_7 522 := ⟨_, rfl⟩
            rw [← ehe_11] at hW
            refine lv_aload_n hx hb dX6_run_76 rfl (lv_at hl 2 rfl) ?_
            refine j_c hx hb dX6_run_77 ?_
            refine Mp6 hx hb hts hin hown hK hW (by decide +kernel) dX6_run_78 (fun H locs hW => ?_)
            refine lv_iload_n hx hb dX6_run_81 rfl (lv_at hl 1 rfl) ?_
            exact m_iret hx hb hr hlocks hW (by (by_cases zq0 : rr.2.1 ≠ -9 <;> first | (simp only [if_pos zq0]; first | done | (first | done | (subst ehe_11; subst es_10; subst epa_9; subst ehe_8; subst es_7; rw [modw_s (s := s) (fun j hj => blk_back hj), hrr]; first | done | rfl) | (subst ehe_11; subst es_10; subst epa_9; subst ehe_8; subst es_7; rw [if_pos rfl, if_pos rfl, actP_congr (s := s) (fun i hi => blk_back hi), modw_s (s := sj) (fun j hj => blk_back hj), hrr]; first | done | rfl) | (subst ehe_11; subst es_10; subst epa_9; subst ehe_8; subst es_7; rw [hrr, actP_congr (s := s) (fun i hi => blk_back hi), modw_s (s := sj) (fun j hj => blk_back hj)]; first | done | rfl) | (exfalso; omega))) | (simp only [if_neg zq0]; first | done | (first | done | (subst ehe_11; subst es_10; subst epa_9; subst ehe_8; subst es_7; rw [modw_s (s := s) (fun j hj => blk_back hj), hrr]; first | done | rfl) | (subst ehe_11; subst es_10; subst epa_9; subst ehe_8; subst es_7; rw [if_pos rfl, if_pos rfl, actP_congr (s := s) (fun i hi => blk_back hi), modw_s (s := sj) (fun j hj => blk_back hj), hrr]; first | done | rfl) | (subst ehe_11; subst es_10; subst epa_9; subst ehe_8; subst es_7; rw [hrr, actP_congr (s := s) (fun i hi => blk_back hi), modw_s (s := sj) (fun j hj => blk_back hj)]; first | done | rfl) | (exfalso; omega))))) (by (by_cases zq0 : rr.2.1 ≠ -9 <;> first | (rw [if_pos zq0]; first | done | (first | omega | rfl | (exfalso; omega))) | (rw [if_neg zq0]; first | done | (first | omega | rfl | (exfalso; omega))))) dX6_run_82
          · refine j_si hx hb dX6_run_62 rfl ?_
            refine lv_iload_n hx hb dX6_run_65 rfl (lv_at hl 0 rfl) ?_
            refine j_sub hx hb dX6_run_66 ?_
            exact m_iret hx hb hr hlocks hW (by (by_cases zq0 : rr.2.1 ≠ -9 <;> first | (simp only [if_pos zq0]; first | done | (first | done | (subst ehe_8; subst es_7; rw [modw_s (s := s) (fun j hj => blk_back hj), hrr]; first | done | rfl) | (subst ehe_8; subst es_7; rw [if_pos rfl, if_pos rfl, actP_congr (s := s) (fun i hi => blk_back hi), modw_s (s := sj) (fun j hj => blk_back hj), hrr]; first | done | rfl) | (subst ehe_8; subst es_7; rw [hrr, actP_congr (s := s) (fun i hi => blk_back hi), modw_s (s := sj) (fun j hj => blk_back hj)]; first | done | rfl) | (exfalso; omega))) | (simp only [if_neg zq0]; first | done | (first | done | (subst ehe_8; subst es_7; rw [modw_s (s := s) (fun j hj => blk_back hj), hrr]; first | done | rfl) | (subst ehe_8; subst es_7; rw [if_pos rfl, if_pos rfl, actP_congr (s := s) (fun i hi => blk_back hi), modw_s (s := sj) (fun j hj => blk_back hj), hrr]; first | done | rfl) | (subst ehe_8; subst es_7; rw [hrr, actP_congr (s := s) (fun i hi => blk_back hi), modw_s (s := sj) (fun j hj => blk_back hj)]; first | done | rfl) | (exfalso; omega))))) (by (by_cases zq0 : rr.2.1 ≠ -9 <;> first | (rw [if_pos zq0]; first | done | (first | omega | rfl | (exfalso; omega))) | (rw [if_neg zq0]; first | done | (first | omega | rfl | (exfalso; omega))))) dX6_run_67
        · obtain ⟨c0, hc0⟩ : ∃ zz_, zz_ = nxt t ty atj := ⟨_, rfl⟩
          obtain ⟨v1, hv1⟩ : ∃ zz_, zz_ = (rdN t ty (atj + 1)).1 := ⟨_, rfl⟩
          obtain ⟨q1, hq1⟩ : ∃ zz_, zz_ = (rdN t ty (atj + 1)).2 := ⟨_, rfl⟩
          obtain ⟨v2, hv2⟩ : ∃ zz_, zz_ = (rdN t ty (q1 + 1)).1 := ⟨_, rfl⟩
          obtain ⟨q2, hq2⟩ : ∃ zz_, zz_ = (rdN t ty (q1 + 1)).2 := ⟨_, rfl⟩
          obtain ⟨an, e_an⟩ : ∃ zz_, zz_ = mcA sj c0 v1 v2 := ⟨_, rfl⟩
          obtain ⟨s1, e_s1⟩ : ∃ zz_, zz_ = mcS sj c0 v1 v2 := ⟨_, rfl⟩
          have b_an : rg an := by rw [e_an]; exact rg_mc hinv.2.1
          refine lv_aload_n hx hb dX6_run_36 rfl (lv_at hl 2 rfl) ?_
          refine m_callV (v := some (.int (iI (if ¬ (c0 = 112 ∨ c0 = 115 ∨ c0 = 108 ∨ c0 = 103 ∨ c0 = 98) then (atj) else (if ¬ (v1 ≠ -9 ∧ ((c0 = 112 ∨ c0 = 115) ∧ nxt t ty q1 = 58 ∨ ¬ (c0 = 112 ∨ c0 = 115) ∧ nxt t ty q1 = 59)) then (q1) else (if (c0 = 112 ∨ c0 = 115) ∧ ¬ (v2 ≠ -9 ∧ nxt t ty q2 = 59) then (q2) else (if an < 0 then (atj) else (-9)))))))) (ci := 6) (n := 0) (As := []) (rest := []) (st2 := [.int (iI (if ¬ (c0 = 112 ∨ c0 = 115 ∨ c0 = 108 ∨ c0 = 103 ∨ c0 = 98) then (atj) else (if ¬ (v1 ≠ -9 ∧ ((c0 = 112 ∨ c0 = 115) ∧ nxt t ty q1 = 58 ∨ ¬ (c0 = 112 ∨ c0 = 115) ∧ nxt t ty q1 = 59)) then (q1) else (if (c0 = 112 ∨ c0 = 115) ∧ ¬ (v2 ≠ -9 ∧ nxt t ty q2 = 59) then (q2) else (if an < 0 then (atj) else (-9))))))]) (w2 := modw cI b (if ¬ (c0 = 112 ∨ c0 = 115 ∨ c0 = 108 ∨ c0 = 103 ∨ c0 = 98) then (sj) else (if ¬ (v1 ≠ -9 ∧ ((c0 = 112 ∨ c0 = 115) ∧ nxt t ty q1 = 58 ∨ ¬ (c0 = 112 ∨ c0 = 115) ∧ nxt t ty q1 = 59)) then (sj) else (if (c0 = 112 ∨ c0 = 115) ∧ ¬ (v2 ≠ -9 ∧ nxt t ty q2 = 59) then (sj) else (s1)))) pa (blk he 0 s 522) np (1 : Int) t ty (if ¬ (c0 = 112 ∨ c0 = 115 ∨ c0 = 108 ∨ c0 = 103 ∨ c0 = 98) then (atj) else (if ¬ (v1 ≠ -9 ∧ ((c0 = 112 ∨ c0 = 115) ∧ nxt t ty q1 = 58 ∨ ¬ (c0 = 112 ∨ c0 = 115) ∧ nxt t ty q1 = 59)) then (q1) else (if (c0 = 112 ∨ c0 = 115) ∧ ¬ (v2 ≠ -9 ∧ nxt t ty q2 = 59) then (q2) else (if c0 = 112 ∨ c0 = 115 then (q2 + 1) else (q1 + 1))))) (if ¬ (c0 = 112 ∨ c0 = 115 ∨ c0 = 108 ∨ c0 = 103 ∨ c0 = 98) then (rdj) else (if ¬ (v1 ≠ -9 ∧ ((c0 = 112 ∨ c0 = 115) ∧ nxt t ty q1 = 58 ∨ ¬ (c0 = 112 ∨ c0 = 115) ∧ nxt t ty q1 = 59)) then (if v1 = -9 then (0) else (v1)) else (if (c0 = 112 ∨ c0 = 115) ∧ ¬ (v2 ≠ -9 ∧ nxt t ty q2 = 59) then (if v2 = -9 then (0) else (v2)) else (if c0 = 112 ∨ c0 = 115 then (v2) else (v1)))))) (pre := []) (post := []) ⟨hx, hb, hml, hown, hts⟩ hK hW (kX6_doesOne l D cI cV b sj pa (blk he 0 s 522) np (1 : Int) t ty atj rdj c0 v1 q1 v2 q2 an s1 hM h24 hT (by omega) (by omega) (by omega) hc0 hv1 hq1 hv2 hq2 e_an e_s1 b_an) (by rw [List.nil_append, List.append_nil]) (by rw [List.nil_append, List.append_nil]) rfl rfl rfl gX6_run_X6_doesOne rfl (by decide +kernel) ⟨Nat.le_of_ble_eq_true rfl, Nat.le_of_ble_eq_true rfl⟩ rfl hl.1 (Nat.le_of_ble_eq_true rfl) dX6_run_37 ⟨Nat.zero_le _, Nat.zero_le _⟩ rfl rfl (fun H locs hW => ?_)
          obtain ⟨s_12, es_12⟩ : ∃ zz_, zz_ = if ¬ (c0 = 112 ∨ c0 = 115 ∨ c0 = 108 ∨ c0 = 103 ∨ c0 = 98) then (sj) else (if ¬ (v1 ≠ -9 ∧ ((c0 = 112 ∨ c0 = 115) ∧ nxt t ty q1 = 58 ∨ ¬ (c0 = 112 ∨ c0 = 115) ∧ nxt t ty q1 = 59)) then (sj) else (if (c0 = 112 ∨ c0 = 115) ∧ ¬ (v2 ≠ -9 ∧ nxt t ty q2 = 59) then (sj) else (s1))) := ⟨_, rfl⟩
          rw [← es_12] at hW
          obtain ⟨p1, hp1⟩ : ∃ zz_, zz_ = dPl t ty atj c0 v1 q1 v2 q2 an := ⟨_, rfl⟩
          obtain ⟨sN, hsN⟩ : ∃ zz_, zz_ = dSt t ty atj c0 v1 q1 v2 q2 sj s1 := ⟨_, rfl⟩
          obtain ⟨a1, ha1⟩ : ∃ zz_, zz_ = dAt t ty atj c0 v1 q1 v2 q2 := ⟨_, rfl⟩
          obtain ⟨r1, hr1⟩ : ∃ zz_, zz_ = dRd t ty atj c0 v1 q1 v2 q2 rdj := ⟨_, rfl⟩
          have hpe : (if ¬ (c0 = 112 ∨ c0 = 115 ∨ c0 = 108 ∨ c0 = 103 ∨ c0 = 98) then (atj) else (if ¬ (v1 ≠ -9 ∧ ((c0 = 112 ∨ c0 = 115) ∧ nxt t ty q1 = 58 ∨ ¬ (c0 = 112 ∨ c0 = 115) ∧ nxt t ty q1 = 59)) then (q1) else (if (c0 = 112 ∨ c0 = 115) ∧ ¬ (v2 ≠ -9 ∧ nxt t ty q2 = 59) then (q2) else (if an < 0 then (atj) else (-9)))) : Int) = p1 := hp1.symm
          rw [hpe]
          rw [es_12] at hW
          have hW : Wd D (ad (modw cI b s pa he np ru t ty at_ rd)) (modw cI b sN pa (blk he 0 s 522) np (1 : Int) t ty a1 r1) s0.heap H locs := by rw [hsN, ha1, hr1]; exact hW
          have hdn := d_num (c0 := c0) (an := an) (show 0 ≤ atj ∧ atj < ty by omega) hv1 hq1 hv2 hq2
          rw [← hp1, ← ha1] at hdn
          refine lv_istore_n (lv' := [(2, .int (iI (p1))), (1, .int (iI ((k : Int)))), (0, .ref (b 0))]) hx hb dX6_run_40 rfl hl (by decide) rfl (fun ls hl => ?_)
          refine lv_iinc (v := iI ((k : Int) + 1)) (lv' := [(1, .int (iI ((k : Int) + 1))), (2, .int (iI (p1))), (0, .ref (b 0))]) hx hb dX6_run_41 hl (k := 1) rfl (iI_add _ _) (by decide) rfl (fun ls hl => ?_)
          refine lv_goto (tgt := 19) hx hb dX6_run_44 (by decide) ?_
          have hgo := runM_go (s := sj) (p := pj) (n := (k : Int)) (rd := rdj) hc0 hv1 hq1 hv2 hq2 e_an e_s1 (show ¬ (pj ≠ -9 ∨ ty ≤ atj) by omega) (61 - k - 1)
          rw [← hp1, ← hsN, ← ha1, ← hr1] at hgo
          exact ih (k + 1) p1 sN a1 r1 ((k : Int) + 1) (by first | rfl | omega | (simp only [sm, b2i]; (repeat' split) <;> first | rfl | omega | (exfalso; omega) | (exfalso; simp_all))) (by exact ⟨by omega, by rw [hsN]; exact OKm_d hinv.2.1 (by rw [e_s1]; exact OKm_cmd hinv.2.1), by rw [hinv.2.2, show 61 - k = (61 - k - 1) + 1 from by omega, hgo, show ((k + 1 : Nat) : Int) = (k : Int) + 1 from by omega, show 61 - (k + 1) = 61 - k - 1 from by omega]⟩) (by omega) _ _ (hW) ls (lv_sub hl [1, 0, 2] rfl)
  exact LP19 (_) 0 (-9) s 0 rd 0 (by first | rfl | omega) (by exact ⟨by omega, ⟨hM, h24⟩, e_rr⟩) (by exact Nat.lt_succ_self _) _ _ (by subst ehe_1; exact hW) ls (lv_sub hl [0, 1, 2] rfl)
