set_option maxHeartbeats 4000000 in
set_option maxRecDepth 100000 in
theorem kX6_reachable (l : Launch) (D : va_G) (cI cV : ClassId) (b : Nat → Nat) (s pa he : Nat → Int) (np ru : Int) (t : Nat → Int) (ty at_ rd : Int) (cR : Nat → Int) (hM : MS s) (h24 : s 2 ≤ s 4) (e_cR : cR = blk s 20 (fun k => if (seatL (fun i => s (32 + i)) ((k : Int)) (s 1).toNat ≠ -9 ∨ seatL (fun i => s ((if s 5 ≠ -9 then (37 : Int) else 32).toNat + i)) ((k : Int)) (s 1).toNat ≠ -9) ∧ s (8 + k) = 1 then s 3 else s (20 + k)) (s 0).toNat) : MM l yX6_reachable wsX6_reachable 3 61 [.ref (b 0)] (modw cI b s pa he np ru t ty at_ rd) (modw cI b s pa (if s 1 = 0 then (blk (blk he 0 s 522) 0 cR 522) else (blk (blk he 0 s 522) 0 (mgS ((cR) 3 - (cR) 4).toNat (cR)) 522)) np ru t ty at_ rd) D cI cV (some (.int (iI (if s 1 = 0 then (0) else ((mgS ((cR) 3 - (cR) 4).toNat (cR)) 4 - cR 4))))) := by
  refine MM.of (cc := cX6_reachable) (maxL := 2) (ret := (some .int)) (by decide) rfl (Nat.le_of_ble_eq_true rfl) ?_
  intro p e s0 m below meth c ls hx hb hr hts hown hlocks hml hW hK hl
  have hWk := hW
  have hown : s0.vm.findClass RX6 = some m.cls := hown
  have hin : ∀ w ∈ u_ws RX6 TX6 9, w ∈ wsX6_reachable := by decide +kernel
  have hl : lv_has ls 2 [(0, .ref (b 0))] := hl
  obtain ⟨hbs, h00, h01, h10, h11, h30, h31, h40, h41, h70, h71, h60, h61, hco, hcn⟩ := id hM
  have hb5 := hbs 5
  have hb2 := hbs 2
  refine lv_aload_n hx hb dX6_reachable_0 rfl (lv_at hl 0 rfl) ?_
  refine m_callV (v := none) (ci := 6) (n := 0) (As := []) (rest := []) (st2 := []) (w2 := modw cI b s pa (blk he 0 s 522) np ru t ty at_ rd) (pre := []) (post := []) ⟨hx, hb, hml, hown, hts⟩ hK hW (kX6_holds l D cI cV b s pa he np ru t ty at_ rd) (by rw [List.nil_append, List.append_nil]) (by rw [List.nil_append, List.append_nil]) rfl rfl rfl gX6_reachable_X6_holds rfl (by decide +kernel) ⟨Nat.le_of_ble_eq_true rfl, Nat.le_of_ble_eq_true rfl⟩ rfl hl.1 (Nat.le_of_ble_eq_true rfl) dX6_reachable_1 ⟨Nat.zero_le _, Nat.zero_le _⟩ rfl rfl (fun H locs hW => ?_)
  obtain ⟨he_1, ehe_1⟩ : ∃ zz_, zz_ = blk he 0 s 522 := ⟨_, rfl⟩
  rw [← ehe_1] at hW
  refine j_c hx hb dX6_reachable_4 ?_
  refine lv_istore_n (lv' := [(1, .int (iI (0))), (0, .ref (b 0))]) hx hb dX6_reachable_5 rfl hl (by decide) rfl (fun ls hl => ?_)
  have LP6 : ∀ (fu : Nat) (j : Nat) (sj : Nat → Int) (x1 : Int), x1 = (j : Int) → ((j : Int) ≤ s 0 ∧ sj = blk s 20 (fun k => if (seatL (fun i => s (32 + i)) ((k : Int)) (s 1).toNat ≠ -9 ∨ seatL (fun i => s ((if s 5 ≠ -9 then (37 : Int) else 32).toNat + i)) ((k : Int)) (s 1).toNat ≠ -9) ∧ s (8 + k) = 1 then s 3 else s (20 + k)) j) → (s 0).toNat - j < fu → ∀ (H : Heap) (locs : List Loc), Wd D (ad (modw cI b s pa he np ru t ty at_ rd)) (modw cI b sj pa (blk he 0 s 522) np ru t ty at_ rd) s0.heap H locs → ∀ ls : Array Slot, lv_has ls 2 [(1, .int (iI (x1))), (0, .ref (b 0))] → W p l e (headSpec wsX6_reachable (rmK 3 61)).room s0 m ([.ref (b 0)] : List Value).toArray below meth c H locs 0 0 (MQ below (mQ D (some (.int (iI (if s 1 = 0 then (0) else ((mgS ((cR) 3 - (cR) 4).toNat (cR)) 4 - cR 4))))) (modw cI b s pa (if s 1 = 0 then (blk (blk he 0 s 522) 0 cR 522) else (blk (blk he 0 s 522) 0 (mgS ((cR) 3 - (cR) 4).toNat (cR)) 522)) np ru t ty at_ rd) (ad (modw cI b s pa he np ru t ty at_ rd))) ([.ref (b 0)] : List Value).toArray s0 0 0 (ad (modw cI b s pa he np ru t ty at_ rd))) (F0 m 6 ls []) := by
    intro fu
    induction fu with
    | zero =>
      intros
      omega
    | succ fu ih =>
      intro j sj x1 ex1 hinv hmeas H locs hW ls hl
      subst ex1
      have hs0 : sj 0 = s 0 := by rw [hinv.2]; exact blk_out (by omega)
      have hs1 : sj 1 = s 1 := by rw [hinv.2]; exact blk_out (by omega)
      have hs5 : sj 5 = s 5 := by rw [hinv.2]; exact blk_out (by omega)
      have hs32 : (fun i => sj (32 + i)) = (fun i => s (32 + i)) := by funext i; rw [hinv.2]; exact blk_out (by omega)
      have hsN : (fun i => sj ((if sj 5 ≠ -9 then (37 : Int) else 32).toNat + i)) = (fun i => s ((if s 5 ≠ -9 then (37 : Int) else 32).toNat + i)) := by rw [hs5]; funext i; rw [hinv.2]; exact blk_out (by split <;> omega)
      have hM : MS sj := by rw [hinv.2]; exact MS_cp hM (by omega) (fun i => ite_bd (hbs _) (hbs _))
      refine lv_iload_n hx hb dX6_reachable_6 rfl (lv_at hl 0 rfl) ?_
      refine lv_aload_n hx hb dX6_reachable_7 rfl (lv_at hl 1 rfl) ?_
      refine Mg0 hx hb hts hin hown hK hW.1 (by decide +kernel) dX6_reachable_8 ?_
      refine j_c hx hb dX6_reachable_11 ?_
      refine Ma0 hx hb hK hW.1 (by omega) dX6_reachable_12 ?_
      rw [show (0 : Int).toNat = 0 from by omega]
      rw [show sj 0 = s 0 from by rw [hinv.2]; exact blk_out (by omega)]
      refine j_ige (tgt := 65) hx hb (by omega) (by omega) dX6_reachable_13 (by decide) (fun c1 => ?_) (fun c1 => ?_)
      · have hjj : j = (s 0).toNat := by omega
        have hcR : sj = cR := by rw [e_cR, hinv.2, hjj]
        rw [hcR] at hW hM hs1
        have h24 : cR 2 ≤ cR 4 := by rw [e_cR, blk_out (by omega), blk_out (by omega)]; exact h24
        refine lv_aload_n hx hb dX6_reachable_65 rfl (lv_at hl 1 rfl) ?_
        refine Mg0 hx hb hts hin hown hK hW.1 (by decide +kernel) dX6_reachable_66 ?_
        refine j_c hx hb dX6_reachable_69 ?_
        refine Ma0 hx hb hK hW.1 (by omega) dX6_reachable_70 ?_
        rw [show (1 : Int).toNat = 1 from by omega]
        rw [hs1]
        refine j_zne (tgt := 78) hx hb (by omega) dX6_reachable_71 (by decide) (fun c2 => ?_) (fun c2 => ?_)
        · refine lv_aload_n hx hb dX6_reachable_78 rfl (lv_at hl 1 rfl) ?_
          refine m_callV (v := some (.int (iI ((mgS (cR 3 - cR 4).toNat cR) 4 - cR 4)))) (ci := 6) (n := 0) (As := []) (rest := []) (st2 := [.int (iI ((mgS (cR 3 - cR 4).toNat cR) 4 - cR 4))]) (w2 := modw cI b (mgS (cR 3 - cR 4).toNat cR) pa (blk he 0 s 522) np ru t ty at_ rd) (pre := []) (post := []) ⟨hx, hb, hml, hown, hts⟩ hK hW (kX6_agrees l D cI cV b cR pa (blk he 0 s 522) np ru t ty at_ rd hM h24) (by rw [List.nil_append, List.append_nil]) (by rw [List.nil_append, List.append_nil]) rfl rfl rfl gX6_reachable_X6_agrees rfl (by decide +kernel) ⟨Nat.le_of_ble_eq_true rfl, Nat.le_of_ble_eq_true rfl⟩ rfl hl.1 (Nat.le_of_ble_eq_true rfl) dX6_reachable_79 ⟨Nat.zero_le _, Nat.zero_le _⟩ rfl rfl (fun H locs hW => ?_)
          obtain ⟨s_2, es_2⟩ : ∃ zz_, zz_ = mgS (cR 3 - cR 4).toNat cR := ⟨_, rfl⟩
          rw [← es_2] at hW
          have hmgr := mg_rg hM h24 (cR 3 - cR 4).toNat
          refine lv_istore_n (lv' := [(1, .int (iI ((mgS (cR 3 - cR 4).toNat cR) 4 - cR 4))), (0, .ref (b 0))]) hx hb dX6_reachable_82 rfl hl (by decide) rfl (fun ls hl => ?_)
          refine lv_aload_n hx hb dX6_reachable_83 rfl (lv_at hl 1 rfl) ?_
          refine m_callV (v := none) (ci := 6) (n := 0) (As := []) (rest := []) (st2 := []) (w2 := modw cI b (blk s_2 0 (blk he 0 s 522) 522) pa (blk (blk he 0 s 522) 0 s_2 522) np ru t ty at_ rd) (pre := []) (post := []) ⟨hx, hb, hml, hown, hts⟩ hK hW (kX6_exchanges l D cI cV b s_2 pa (blk he 0 s 522) np ru t ty at_ rd) (by rw [List.nil_append, List.append_nil]) (by rw [List.nil_append, List.append_nil]) rfl rfl rfl gX6_reachable_X6_exchanges rfl (by decide +kernel) ⟨Nat.le_of_ble_eq_true rfl, Nat.le_of_ble_eq_true rfl⟩ rfl hl.1 (Nat.le_of_ble_eq_true rfl) dX6_reachable_84 ⟨Nat.zero_le _, Nat.zero_le _⟩ rfl rfl (fun H locs hW => ?_)
          obtain ⟨s_3, es_3⟩ : ∃ zz_, zz_ = blk s_2 0 (blk he 0 s 522) 522 := ⟨_, rfl⟩
          rw [← es_3] at hW
          obtain ⟨he_4, ehe_4⟩ : ∃ zz_, zz_ = blk (blk he 0 s 522) 0 s_2 522 := ⟨_, rfl⟩
          rw [← ehe_4] at hW
          refine lv_iload_n hx hb dX6_reachable_87 rfl (lv_at hl 0 rfl) ?_
          exact m_iret hx hb hr hlocks hW (by (by_cases zq0 : s 1 = 0 <;> first | (simp only [if_pos zq0]; first | done | (first | done | (subst ehe_4; subst es_3; subst es_2; rw [modw_s (s := s) (fun j hj => blk_back hj)]; first | done | rfl) | (exfalso; omega))) | (simp only [if_neg zq0]; first | done | (first | done | (subst ehe_4; subst es_3; subst es_2; rw [modw_s (s := s) (fun j hj => blk_back hj)]; first | done | rfl) | (exfalso; omega))))) (by (by_cases zq0 : s 1 = 0 <;> first | (rw [if_pos zq0]; first | done | (first | done | omega | (subst ehe_4; subst es_3; subst es_2; rfl) | (subst ehe_4; subst es_3; subst es_2; omega) | (exfalso; omega))) | (rw [if_neg zq0]; first | done | (first | done | omega | (subst ehe_4; subst es_3; subst es_2; rfl) | (subst ehe_4; subst es_3; subst es_2; omega) | (exfalso; omega))))) dX6_reachable_88
        · refine j_c hx hb dX6_reachable_74 ?_
          refine lv_goto (tgt := 82) hx hb dX6_reachable_75 (by decide) ?_
          refine lv_istore_n (lv' := [(1, .int (iI (0))), (0, .ref (b 0))]) hx hb dX6_reachable_82 rfl hl (by decide) rfl (fun ls hl => ?_)
          refine lv_aload_n hx hb dX6_reachable_83 rfl (lv_at hl 1 rfl) ?_
          refine m_callV (v := none) (ci := 6) (n := 0) (As := []) (rest := []) (st2 := []) (w2 := modw cI b (blk cR 0 (blk he 0 s 522) 522) pa (blk (blk he 0 s 522) 0 cR 522) np ru t ty at_ rd) (pre := []) (post := []) ⟨hx, hb, hml, hown, hts⟩ hK hW (kX6_exchanges l D cI cV b cR pa (blk he 0 s 522) np ru t ty at_ rd) (by rw [List.nil_append, List.append_nil]) (by rw [List.nil_append, List.append_nil]) rfl rfl rfl gX6_reachable_X6_exchanges rfl (by decide +kernel) ⟨Nat.le_of_ble_eq_true rfl, Nat.le_of_ble_eq_true rfl⟩ rfl hl.1 (Nat.le_of_ble_eq_true rfl) dX6_reachable_84 ⟨Nat.zero_le _, Nat.zero_le _⟩ rfl rfl (fun H locs hW => ?_)
          obtain ⟨s_5, es_5⟩ : ∃ zz_, zz_ = blk cR 0 (blk he 0 s 522) 522 := ⟨_, rfl⟩
          rw [← es_5] at hW
          obtain ⟨he_6, ehe_6⟩ : ∃ zz_, zz_ = blk (blk he 0 s 522) 0 cR 522 := ⟨_, rfl⟩
          rw [← ehe_6] at hW
          refine lv_iload_n hx hb dX6_reachable_87 rfl (lv_at hl 0 rfl) ?_
          exact m_iret hx hb hr hlocks hW (by (by_cases zq0 : s 1 = 0 <;> first | (simp only [if_pos zq0]; first | done | (first | done | (subst ehe_6; subst es_5; rw [modw_s (s := s) (fun j hj => blk_back hj)]; first | done | rfl) | (exfalso; omega))) | (simp only [if_neg zq0]; first | done | (first | done | (subst ehe_6; subst es_5; rw [modw_s (s := s) (fun j hj => blk_back hj)]; first | done | rfl) | (exfalso; omega))))) (by (by_cases zq0 : s 1 = 0 <;> first | (rw [if_pos zq0]; first | done | (first | done | omega | (subst ehe_6; subst es_5; rfl) | (subst ehe_6; subst es_5; omega) | (exfalso; omega))) | (rw [if_neg zq0]; first | done | (first | done | omega | (subst ehe_6; subst es_5; rfl) | (subst ehe_6; subst es_5; omega) | (exfalso; omega))))) dX6_reachable_88
      · refine lv_aload_n hx hb dX6_reachable_16 rfl (lv_at hl 1 rfl) ?_
        refine Mg0 hx hb hts hin hown hK hW.1 (by decide +kernel) dX6_reachable_17 ?_
        refine j_bi hx hb dX6_reachable_20 rfl ?_
        refine lv_iload_n hx hb dX6_reachable_22 rfl (lv_at hl 0 rfl) ?_
        refine j_add hx hb dX6_reachable_23 ?_
        refine lv_aload_n hx hb dX6_reachable_24 rfl (lv_at hl 1 rfl) ?_
        refine lv_iload_n hx hb dX6_reachable_25 rfl (lv_at hl 0 rfl) ?_
        refine p_callV (v := .int (iI (b2i (seatL (fun i => sj (32 + i)) ((j : Int)) (sj 1).toNat ≠ -9 ∨ seatL (fun i => sj ((if sj 5 ≠ -9 then (37 : Int) else 32).toNat + i)) ((j : Int)) (sj 1).toNat ≠ -9)))) (ci := 6) (n := 1) (As := [.int (iI ((j : Int)))]) (rest := [.int (iI (20 + (j : Int))), .ref (b 1)]) ⟨hx, hb, hml, hown, hts⟩ hK (kX6_isElder l D cI cV b sj pa (blk he 0 s 522) np ru t ty at_ rd (j : Int) hM (by omega)) hW.1 rfl rfl gX6_reachable_X6_isElder rfl (by decide +kernel) ⟨Nat.le_of_ble_eq_true rfl, Nat.le_of_ble_eq_true rfl⟩ rfl hl.1 (Nat.le_of_ble_eq_true rfl) dX6_reachable_26 ⟨Nat.zero_le _, Nat.zero_le _⟩ rfl ?_
        simp only [hs32, hsN, hs1]
        refine j_beq (tgt := 49) hx hb dX6_reachable_29 (by decide) (fun c3 => ?_) (fun c3 => ?_)
        · refine lv_aload_n hx hb dX6_reachable_49 rfl (lv_at hl 1 rfl) ?_
          refine Mg0 hx hb hts hin hown hK hW.1 (by decide +kernel) dX6_reachable_50 ?_
          refine j_bi hx hb dX6_reachable_53 rfl ?_
          refine lv_iload_n hx hb dX6_reachable_55 rfl (lv_at hl 0 rfl) ?_
          refine j_add hx hb dX6_reachable_56 ?_
          refine Ma0 hx hb hK hW.1 (by omega) dX6_reachable_57 ?_
          rw [show (20 + (j : Int) : Int).toNat = 20 + j from by omega]
          rw [show sj (20 + j) = s (20 + j) from by rw [hinv.2]; exact blk_out (by omega)]
          refine Ms0 hx hb hK hW (by omega) dX6_reachable_58 (fun H locs hW => ?_)
          rw [show (20 + (j : Int) : Int).toNat = 20 + j from by omega] at hW
          obtain ⟨s_7, es_7⟩ : ∃ zz_, zz_ = up sj (20 + j) (s (20 + j)) := ⟨_, rfl⟩
          rw [← es_7] at hW
          refine lv_iinc (v := iI ((j : Int) + 1)) (lv' := [(1, .int (iI ((j : Int) + 1))), (0, .ref (b 0))]) hx hb dX6_reachable_59 hl (k := 0) rfl (iI_add _ _) (by decide) rfl (fun ls hl => ?_)
          refine lv_goto (tgt := 6) hx hb dX6_reachable_62 (by decide) ?_
          exact ih (j + 1) s_7 ((j : Int) + 1) (by first | rfl | omega | (simp only [sm, b2i]; (repeat' split) <;> first | rfl | omega | (exfalso; omega) | (exfalso; simp_all))) (by exact ⟨by omega, by rw [es_7, hinv.2, ← blk_step (v := fun k => if (seatL (fun i => s (32 + i)) ((k : Int)) (s 1).toNat ≠ -9 ∨ seatL (fun i => s ((if s 5 ≠ -9 then (37 : Int) else 32).toNat + i)) ((k : Int)) (s 1).toNat ≠ -9) ∧ s (8 + k) = 1 then s 3 else s (20 + k))]; first | rw [if_pos (show (seatL (fun i => s (32 + i)) ((j : Int)) (s 1).toNat ≠ -9 ∨ seatL (fun i => s ((if s 5 ≠ -9 then (37 : Int) else 32).toNat + i)) ((j : Int)) (s 1).toNat ≠ -9) ∧ s (8 + j) = 1 from by omega)] | rw [if_neg (show ¬ ((seatL (fun i => s (32 + i)) ((j : Int)) (s 1).toNat ≠ -9 ∨ seatL (fun i => s ((if s 5 ≠ -9 then (37 : Int) else 32).toNat + i)) ((j : Int)) (s 1).toNat ≠ -9) ∧ s (8 + j) = 1) from by omega)]⟩) (by omega) _ _ (hW) ls (lv_sub hl [0, 1] rfl)
        · refine lv_aload_n hx hb dX6_reachable_32 rfl (lv_at hl 1 rfl) ?_
          refine lv_iload_n hx hb dX6_reachable_33 rfl (lv_at hl 0 rfl) ?_
          refine p_callV (v := .int (iI (b2i (sj (8 + (j : Int).toNat) = 1)))) (ci := 6) (n := 1) (As := [.int (iI ((j : Int)))]) (rest := [.int (iI (20 + (j : Int))), .ref (b 1)]) ⟨hx, hb, hml, hown, hts⟩ hK (kX6_isPresent l D cI cV b sj pa (blk he 0 s 522) np ru t ty at_ rd (j : Int) hM (by omega)) hW.1 rfl rfl gX6_reachable_X6_isPresent rfl (by decide +kernel) ⟨Nat.le_of_ble_eq_true rfl, Nat.le_of_ble_eq_true rfl⟩ rfl hl.1 (Nat.le_of_ble_eq_true rfl) dX6_reachable_34 ⟨Nat.zero_le _, Nat.zero_le _⟩ rfl ?_
          rw [show sj (8 + (j : Int).toNat) = s (8 + j) from by rw [hinv.2, Int.toNat_natCast]; exact blk_out (by omega)]
          refine j_beq (tgt := 49) hx hb dX6_reachable_37 (by decide) (fun c4 => ?_) (fun c4 => ?_)
          · refine lv_aload_n hx hb dX6_reachable_49 rfl (lv_at hl 1 rfl) ?_
            refine Mg0 hx hb hts hin hown hK hW.1 (by decide +kernel) dX6_reachable_50 ?_
            refine j_bi hx hb dX6_reachable_53 rfl ?_
            refine lv_iload_n hx hb dX6_reachable_55 rfl (lv_at hl 0 rfl) ?_
            refine j_add hx hb dX6_reachable_56 ?_
            refine Ma0 hx hb hK hW.1 (by omega) dX6_reachable_57 ?_
            rw [show (20 + (j : Int) : Int).toNat = 20 + j from by omega]
            rw [show sj (20 + j) = s (20 + j) from by rw [hinv.2]; exact blk_out (by omega)]
            refine Ms0 hx hb hK hW (by omega) dX6_reachable_58 (fun H locs hW => ?_)
            rw [show (20 + (j : Int) : Int).toNat = 20 + j from by omega] at hW
            obtain ⟨s_8, es_8⟩ : ∃ zz_, zz_ = up sj (20 + j) (s (20 + j)) := ⟨_, rfl⟩
            rw [← es_8] at hW
            refine lv_iinc (v := iI ((j : Int) + 1)) (lv' := [(1, .int (iI ((j : Int) + 1))), (0, .ref (b 0))]) hx hb dX6_reachable_59 hl (k := 0) rfl (iI_add _ _) (by decide) rfl (fun ls hl => ?_)
            refine lv_goto (tgt := 6) hx hb dX6_reachable_62 (by decide) ?_
            exact ih (j + 1) s_8 ((j : Int) + 1) (by first | rfl | omega | (simp only [sm, b2i]; (repeat' split) <;> first | rfl | omega | (exfalso; omega) | (exfalso; simp_all))) (by exact ⟨by omega, by rw [es_8, hinv.2, ← blk_step (v := fun k => if (seatL (fun i => s (32 + i)) ((k : Int)) (s 1).toNat ≠ -9 ∨ seatL (fun i => s ((if s 5 ≠ -9 then (37 : Int) else 32).toNat + i)) ((k : Int)) (s 1).toNat ≠ -9) ∧ s (8 + k) = 1 then s 3 else s (20 + k))]; first | rw [if_pos (show (seatL (fun i => s (32 + i)) ((j : Int)) (s 1).toNat ≠ -9 ∨ seatL (fun i => s ((if s 5 ≠ -9 then (37 : Int) else 32).toNat + i)) ((j : Int)) (s 1).toNat ≠ -9) ∧ s (8 + j) = 1 from by omega)] | rw [if_neg (show ¬ ((seatL (fun i => s (32 + i)) ((j : Int)) (s 1).toNat ≠ -9 ∨ seatL (fun i => s ((if s 5 ≠ -9 then (37 : Int) else 32).toNat + i)) ((j : Int)) (s 1).toNat ≠ -9) ∧ s (8 + j) = 1) from by omega)]⟩) (by omega) _ _ (hW) ls (lv_sub hl [0, 1] rfl)
          · refine lv_aload_n hx hb dX6_reachable_40 rfl (lv_at hl 1 rfl) ?_
            refine Mg0 hx hb hts hin hown hK hW.1 (by decide +kernel) dX6_reachable_41 ?_
            refine j_c hx hb dX6_reachable_44 ?_
            refine Ma0 hx hb hK hW.1 (by omega) dX6_reachable_45 ?_
            rw [show (3 : Int).toNat = 3 from by omega]
            rw [show sj 3 = s 3 from by rw [hinv.2]; exact blk_out (by omega)]
            refine lv_goto (tgt := 58) hx hb dX6_reachable_46 (by decide) ?_
            refine Ms0 hx hb hK hW (by omega) dX6_reachable_58 (fun H locs hW => ?_)
            rw [show (20 + (j : Int) : Int).toNat = 20 + j from by omega] at hW
            obtain ⟨s_9, es_9⟩ : ∃ zz_, zz_ = up sj (20 + j) (s 3) := ⟨_, rfl⟩
            rw [← es_9] at hW
            refine lv_iinc (v := iI ((j : Int) + 1)) (lv' := [(1, .int (iI ((j : Int) + 1))), (0, .ref (b 0))]) hx hb dX6_reachable_59 hl (k := 0) rfl (iI_add _ _) (by decide) rfl (fun ls hl => ?_)
            refine lv_goto (tgt := 6) hx hb dX6_reachable_62 (by decide) ?_
            exact ih (j + 1) s_9 ((j : Int) + 1) (by first | rfl | omega | (simp only [sm, b2i]; (repeat' split) <;> first | rfl | omega | (exfalso; omega) | (exfalso; simp_all))) (by exact ⟨by omega, by rw [es_9, hinv.2, ← blk_step (v := fun k => if (seatL (fun i => s (32 + i)) ((k : Int)) (s 1).toNat ≠ -9 ∨ seatL (fun i => s ((if s 5 ≠ -9 then (37 : Int) else 32).toNat + i)) ((k : Int)) (s 1).toNat ≠ -9) ∧ s (8 + k) = 1 then s 3 else s (20 + k))]; first | rw [if_pos (show (seatL (fun i => s (32 + i)) ((j : Int)) (s 1).toNat ≠ -9 ∨ seatL (fun i => s ((if s 5 ≠ -9 then (37 : Int) else 32).toNat + i)) ((j : Int)) (s 1).toNat ≠ -9) ∧ s (8 + j) = 1 from by omega)] | rw [if_neg (show ¬ ((seatL (fun i => s (32 + i)) ((j : Int)) (s 1).toNat ≠ -9 ∨ seatL (fun i => s ((if s 5 ≠ -9 then (37 : Int) else 32).toNat + i)) ((j : Int)) (s 1).toNat ≠ -9) ∧ s (8 + j) = 1) from by omega)]⟩) (by omega) _ _ (hW) ls (lv_sub hl [0, 1] rfl)
  exact LP6 (_) 0 s 0 (by first | rfl | omega) (by exact ⟨by omega, blk_0.symm⟩) (by exact Nat.lt_succ_self _) _ _ (by subst ehe_1; exact hW) ls (lv_sub hl [0, 1] rfl)
