theorem modw_ar {cI : ClassId} {b : Nat → Nat} {s pa he t : Nat → Int} {np ru ty at_ rd at2 rd2 : Int} (h : at_ = at2) (h2 : rd = rd2) : modw cI b s pa he np ru t ty at_ rd = modw cI b s pa he np ru t ty at2 rd2 := by
  rw [h, h2]
theorem nxt_in {t : Nat → Int} {n q : Int} (h : 0 ≤ q ∧ q < n) : nxt t n q = t q.toNat := if_pos h
theorem nxt_out {t : Nat → Int} {n q : Int} (h : ¬ (0 ≤ q ∧ q < n)) : nxt t n q = -9 := if_neg h
set_option maxHeartbeats 4000000 in
set_option maxRecDepth 100000 in
theorem kX6_number (l : Launch) (D : va_G) (cI cV : ClassId) (b : Nat → Nat) (s pa he : Nat → Int) (np ru : Int) (t : Nat → Int) (ty at_ rd : Int) (x : Int) (v1 : Int) (q1 : Int) (hT : MT t ty) (h_at : 0 ≤ at_ ∧ at_ ≤ ty) (r_x : rg x) (h_x : 0 ≤ x) (hv1 : v1 = (rdN t ty at_).1) (hq1 : q1 = (rdN t ty at_).2) : MM l yX6_number wsX6_number 2 44 [.ref (b 0), .int (iI (x))] (modw cI b s pa he np ru t ty at_ rd) (modw cI b s pa he np ru t ty (if v1 ≠ -9 ∧ nxt t ty q1 = x then (q1 + 1) else (q1)) (if v1 = -9 then (0) else (v1))) D cI cV (some (.int (iI (b2i (v1 ≠ -9 ∧ nxt t ty q1 = x))))) := by
  refine MM.of (cc := cX6_number) (maxL := 3) (ret := (some .boolean)) (by decide) rfl (Nat.le_of_ble_eq_true rfl) ?_
  intro p e s0 m below meth c ls hx hb hr hts hown hlocks hml hW hK hl
  have hWk := hW
  have hown : s0.vm.findClass RX6 = some m.cls := hown
  have hin : ∀ w ∈ u_ws RX6 TX6 9, w ∈ wsX6_number := by decide +kernel
  have hl : lv_has ls 3 [(0, .ref (b 0)), (1, .int (iI (x)))] := hl
  obtain ⟨hbt, ht0, ht1⟩ := id hT
  refine lv_aload_n hx hb dX6_number_0 rfl (lv_at hl 0 rfl) ?_
  refine Mg7 hx hb hts hin hown hK hW.1 (by decide +kernel) dX6_number_1 ?_
  refine lv_istore_n (lv' := [(2, .int (iI (at_))), (0, .ref (b 0)), (1, .int (iI (x)))]) hx hb dX6_number_4 rfl hl (by decide) rfl (fun ls hl => ?_)
  refine lv_aload_n hx hb dX6_number_5 rfl (lv_at hl 1 rfl) ?_
  refine j_c hx hb dX6_number_6 ?_
  refine Mp8 hx hb hts hin hown hK hW (by decide +kernel) dX6_number_7 (fun H locs hW => ?_)
  have LP10 : ∀ (fu : Nat) (j : Nat) (v : Int) (q : Int), ((q = at_ + (j : Int) ∧ j ≤ 3 ∧ q ≤ ty) ∧ ((j = 0 → v = 0) ∧ 0 ≤ v ∧ v ≤ 999 ∧ (j = 1 → v ≤ 9) ∧ (j = 2 → v ≤ 99)) ∧ (1 ≤ j → (48 ≤ nxt t ty at_ ∧ nxt t ty at_ ≤ 57) ∧ rdN t ty at_ = rdL t ty (3 - j) v q)) → 4 - j < fu → ∀ (H : Heap) (locs : List Loc), Wd D (ad (modw cI b s pa he np ru t ty at_ rd)) (modw cI b s pa he np ru t ty q v) s0.heap H locs → ∀ ls : Array Slot, lv_has ls 3 [(2, .int (iI (at_))), (0, .ref (b 0)), (1, .int (iI (x)))] → W p l e (headSpec wsX6_number (rmK 2 44)).room s0 m ([.ref (b 0), .int (iI (x))] : List Value).toArray below meth c H locs 0 0 (MQ below (mQ D (some (.int (iI (b2i (v1 ≠ -9 ∧ nxt t ty q1 = x))))) (modw cI b s pa he np ru t ty (if v1 ≠ -9 ∧ nxt t ty q1 = x then (q1 + 1) else (q1)) (if v1 = -9 then (0) else (v1))) (ad (modw cI b s pa he np ru t ty at_ rd))) ([.ref (b 0), .int (iI (x))] : List Value).toArray s0 0 0 (ad (modw cI b s pa he np ru t ty at_ rd))) (F0 m 10 ls []) := by
    intro fu
    induction fu with
    | zero =>
      intros
      omega
    | succ fu ih =>
      intro j v q   hinv hmeas H locs hW ls hl
      have hnx1 : q < ty → nxt t ty q = t q.toNat := fun h => nxt_in ⟨by omega, h⟩
      have hnx2 : ty ≤ q → nxt t ty q = -9 := fun h => nxt_out (by omega)
      refine lv_aload_n hx hb dX6_number_10 rfl (lv_at hl 1 rfl) ?_
      refine j_bi hx hb dX6_number_11 rfl ?_
      refine j_bi hx hb dX6_number_13 rfl ?_
      refine p_callV (v := .int (iI (b2i (q < ty ∧ ((48 : Int) ≤ t q.toNat ∧ t q.toNat ≤ (57 : Int)))))) (ci := 6) (n := 2) (As := [.int (iI (48)), .int (iI (57))]) (rest := []) ⟨hx, hb, hml, hown, hts⟩ hK (kX6_isAt l D cI cV b s pa he np ru t ty q v 48 57 (by omega) (by omega) hT (by omega)) hW.1 rfl rfl gX6_number_X6_isAt rfl (by decide +kernel) ⟨Nat.le_of_ble_eq_true rfl, Nat.le_of_ble_eq_true rfl⟩ rfl hl.1 (Nat.le_of_ble_eq_true rfl) dX6_number_15 ⟨Nat.zero_le _, Nat.zero_le _⟩ rfl ?_
      refine j_beq (tgt := 83) hx hb dX6_number_18 (by decide) (fun c1 => ?_) (fun c1 => ?_)
      · have hfin : (j = 0 → v1 = -9 ∧ q1 = at_) ∧ (1 ≤ j → v1 = v ∧ q1 = q) := by
                            constructor
                            · intro h0
                              have hqa : at_ = q := by omega
                              subst hqa
                              first | (exfalso; omega) | (rw [hv1, hq1]; unfold rdN; rw [if_neg (by omega)]; exact ⟨rfl, rfl⟩)
                            · intro h1
                              rw [hv1, hq1, (hinv.2.2 h1).2]
                              first | (rw [rdL_stop (by omega)]; exact ⟨rfl, rfl⟩) | (rw [show 3 - j = 0 from by omega]; exact ⟨rfl, rfl⟩)
        have hq1e : 1 ≤ j → nxt t ty q1 = nxt t ty q := fun h => by rw [(hfin.2 h).2]
        refine lv_aload_n hx hb dX6_number_83 rfl (lv_at hl 1 rfl) ?_
        refine Mg7 hx hb hts hin hown hK hW.1 (by decide +kernel) dX6_number_84 ?_
        refine lv_iload_n hx hb dX6_number_87 rfl (lv_at hl 0 rfl) ?_
        refine j_ieq (tgt := 100) hx hb (by omega) (by omega) dX6_number_88 (by decide) (fun c2 => ?_) (fun c2 => ?_)
        · refine j_c hx hb dX6_number_100 ?_
          exact m_zret hx hb hr hlocks hW (by (by_cases zq0 : v1 ≠ -9 ∧ nxt t ty q1 = x <;> first | (simp only [if_pos zq0]; first | done | (by_cases zq1 : v1 = -9 <;> first | (simp only [if_pos zq1]; first | done | (first | done | exact modw_ar (by omega) (by omega) | (exfalso; omega))) | (simp only [if_neg zq1]; first | done | (first | done | exact modw_ar (by omega) (by omega) | (exfalso; omega))))) | (simp only [if_neg zq0]; first | done | (by_cases zq1 : v1 = -9 <;> first | (simp only [if_pos zq1]; first | done | (first | done | exact modw_ar (by omega) (by omega) | (exfalso; omega))) | (simp only [if_neg zq1]; first | done | (first | done | exact modw_ar (by omega) (by omega) | (exfalso; omega))))))) (by first | decide | exact b2i_or) (by first | rfl | omega | exact (b2i_t (by omega)).symm | exact (b2i_f (by omega)).symm | (simp only [b2i]; (repeat' split) <;> first | rfl | omega | (exfalso; omega))) dX6_number_101
        · refine lv_aload_n hx hb dX6_number_91 rfl (lv_at hl 1 rfl) ?_
          refine lv_iload_n hx hb dX6_number_92 rfl (lv_at hl 2 rfl) ?_
          refine lv_iload_n hx hb dX6_number_93 rfl (lv_at hl 2 rfl) ?_
          refine p_callV (v := .int (iI (b2i (q < ty ∧ (x ≤ t q.toNat ∧ t q.toNat ≤ x))))) (ci := 6) (n := 2) (As := [.int (iI (x)), .int (iI (x))]) (rest := []) ⟨hx, hb, hml, hown, hts⟩ hK (kX6_isAt l D cI cV b s pa he np ru t ty q v x x (by omega) (by omega) hT (by omega)) hW.1 rfl rfl gX6_number_X6_isAt rfl (by decide +kernel) ⟨Nat.le_of_ble_eq_true rfl, Nat.le_of_ble_eq_true rfl⟩ rfl hl.1 (Nat.le_of_ble_eq_true rfl) dX6_number_94 ⟨Nat.zero_le _, Nat.zero_le _⟩ rfl ?_
          refine j_bne (tgt := 102) hx hb dX6_number_97 (by decide) (fun c3 => ?_) (fun c3 => ?_)
          · refine lv_aload_n hx hb dX6_number_102 rfl (lv_at hl 1 rfl) ?_
            refine lv_dup hx hb dX6_number_103 rfl ?_
            refine Mg7 hx hb hts hin hown hK hW.1 (by decide +kernel) dX6_number_104 ?_
            refine j_c hx hb dX6_number_107 ?_
            refine j_add hx hb dX6_number_108 ?_
            refine Mp7 hx hb hts hin hown hK hW (by decide +kernel) dX6_number_109 (fun H locs hW => ?_)
            refine j_c hx hb dX6_number_112 ?_
            exact m_zret hx hb hr hlocks hW (by (by_cases zq0 : v1 ≠ -9 ∧ nxt t ty q1 = x <;> first | (simp only [if_pos zq0]; first | done | (by_cases zq1 : v1 = -9 <;> first | (simp only [if_pos zq1]; first | done | (first | done | exact modw_ar (by omega) (by omega) | (exfalso; omega))) | (simp only [if_neg zq1]; first | done | (first | done | exact modw_ar (by omega) (by omega) | (exfalso; omega))))) | (simp only [if_neg zq0]; first | done | (by_cases zq1 : v1 = -9 <;> first | (simp only [if_pos zq1]; first | done | (first | done | exact modw_ar (by omega) (by omega) | (exfalso; omega))) | (simp only [if_neg zq1]; first | done | (first | done | exact modw_ar (by omega) (by omega) | (exfalso; omega))))))) (by first | decide | exact b2i_or) (by first | rfl | omega | exact (b2i_t (by omega)).symm | exact (b2i_f (by omega)).symm | (simp only [b2i]; (repeat' split) <;> first | rfl | omega | (exfalso; omega))) dX6_number_113
          · refine j_c hx hb dX6_number_100 ?_
            exact m_zret hx hb hr hlocks hW (by (by_cases zq0 : v1 ≠ -9 ∧ nxt t ty q1 = x <;> first | (simp only [if_pos zq0]; first | done | (by_cases zq1 : v1 = -9 <;> first | (simp only [if_pos zq1]; first | done | (first | done | exact modw_ar (by omega) (by omega) | (exfalso; omega))) | (simp only [if_neg zq1]; first | done | (first | done | exact modw_ar (by omega) (by omega) | (exfalso; omega))))) | (simp only [if_neg zq0]; first | done | (by_cases zq1 : v1 = -9 <;> first | (simp only [if_pos zq1]; first | done | (first | done | exact modw_ar (by omega) (by omega) | (exfalso; omega))) | (simp only [if_neg zq1]; first | done | (first | done | exact modw_ar (by omega) (by omega) | (exfalso; omega))))))) (by first | decide | exact b2i_or) (by first | rfl | omega | exact (b2i_t (by omega)).symm | exact (b2i_f (by omega)).symm | (simp only [b2i]; (repeat' split) <;> first | rfl | omega | (exfalso; omega))) dX6_number_101
      · refine lv_aload_n hx hb dX6_number_21 rfl (lv_at hl 1 rfl) ?_
        refine Mg7 hx hb hts hin hown hK hW.1 (by decide +kernel) dX6_number_22 ?_
        refine lv_iload_n hx hb dX6_number_25 rfl (lv_at hl 0 rfl) ?_
        refine j_sub hx hb dX6_number_26 ?_
        refine j_c hx hb dX6_number_27 ?_
        refine j_ige (tgt := 83) hx hb (by omega) (by omega) dX6_number_28 (by decide) (fun c4 => ?_) (fun c4 => ?_)
        · have hfin : (j = 0 → v1 = -9 ∧ q1 = at_) ∧ (1 ≤ j → v1 = v ∧ q1 = q) := by
                            constructor
                            · intro h0
                              have hqa : at_ = q := by omega
                              subst hqa
                              first | (exfalso; omega) | (rw [hv1, hq1]; unfold rdN; rw [if_neg (by omega)]; exact ⟨rfl, rfl⟩)
                            · intro h1
                              rw [hv1, hq1, (hinv.2.2 h1).2]
                              first | (rw [rdL_stop (by omega)]; exact ⟨rfl, rfl⟩) | (rw [show 3 - j = 0 from by omega]; exact ⟨rfl, rfl⟩)
          have hq1e : 1 ≤ j → nxt t ty q1 = nxt t ty q := fun h => by rw [(hfin.2 h).2]
          refine lv_aload_n hx hb dX6_number_83 rfl (lv_at hl 1 rfl) ?_
          refine Mg7 hx hb hts hin hown hK hW.1 (by decide +kernel) dX6_number_84 ?_
          refine lv_iload_n hx hb dX6_number_87 rfl (lv_at hl 0 rfl) ?_
          refine j_ieq (tgt := 100) hx hb (by omega) (by omega) dX6_number_88 (by decide) (fun c5 => ?_) (fun c5 => ?_)
          · refine j_c hx hb dX6_number_100 ?_
            exact m_zret hx hb hr hlocks hW (by (by_cases zq0 : v1 ≠ -9 ∧ nxt t ty q1 = x <;> first | (simp only [if_pos zq0]; first | done | (by_cases zq1 : v1 = -9 <;> first | (simp only [if_pos zq1]; first | done | (first | done | exact modw_ar (by omega) (by omega) | (exfalso; omega))) | (simp only [if_neg zq1]; first | done | (first | done | exact modw_ar (by omega) (by omega) | (exfalso; omega))))) | (simp only [if_neg zq0]; first | done | (by_cases zq1 : v1 = -9 <;> first | (simp only [if_pos zq1]; first | done | (first | done | exact modw_ar (by omega) (by omega) | (exfalso; omega))) | (simp only [if_neg zq1]; first | done | (first | done | exact modw_ar (by omega) (by omega) | (exfalso; omega))))))) (by first | decide | exact b2i_or) (by first | rfl | omega | exact (b2i_t (by omega)).symm | exact (b2i_f (by omega)).symm | (simp only [b2i]; (repeat' split) <;> first | rfl | omega | (exfalso; omega))) dX6_number_101
          · refine lv_aload_n hx hb dX6_number_91 rfl (lv_at hl 1 rfl) ?_
            refine lv_iload_n hx hb dX6_number_92 rfl (lv_at hl 2 rfl) ?_
            refine lv_iload_n hx hb dX6_number_93 rfl (lv_at hl 2 rfl) ?_
            refine p_callV (v := .int (iI (b2i (q < ty ∧ (x ≤ t q.toNat ∧ t q.toNat ≤ x))))) (ci := 6) (n := 2) (As := [.int (iI (x)), .int (iI (x))]) (rest := []) ⟨hx, hb, hml, hown, hts⟩ hK (kX6_isAt l D cI cV b s pa he np ru t ty q v x x (by omega) (by omega) hT (by omega)) hW.1 rfl rfl gX6_number_X6_isAt rfl (by decide +kernel) ⟨Nat.le_of_ble_eq_true rfl, Nat.le_of_ble_eq_true rfl⟩ rfl hl.1 (Nat.le_of_ble_eq_true rfl) dX6_number_94 ⟨Nat.zero_le _, Nat.zero_le _⟩ rfl ?_
            refine j_bne (tgt := 102) hx hb dX6_number_97 (by decide) (fun c6 => ?_) (fun c6 => ?_)
            · refine lv_aload_n hx hb dX6_number_102 rfl (lv_at hl 1 rfl) ?_
              refine lv_dup hx hb dX6_number_103 rfl ?_
              refine Mg7 hx hb hts hin hown hK hW.1 (by decide +kernel) dX6_number_104 ?_
              refine j_c hx hb dX6_number_107 ?_
              refine j_add hx hb dX6_number_108 ?_
              refine Mp7 hx hb hts hin hown hK hW (by decide +kernel) dX6_number_109 (fun H locs hW => ?_)
              refine j_c hx hb dX6_number_112 ?_
              exact m_zret hx hb hr hlocks hW (by (by_cases zq0 : v1 ≠ -9 ∧ nxt t ty q1 = x <;> first | (simp only [if_pos zq0]; first | done | (by_cases zq1 : v1 = -9 <;> first | (simp only [if_pos zq1]; first | done | (first | done | exact modw_ar (by omega) (by omega) | (exfalso; omega))) | (simp only [if_neg zq1]; first | done | (first | done | exact modw_ar (by omega) (by omega) | (exfalso; omega))))) | (simp only [if_neg zq0]; first | done | (by_cases zq1 : v1 = -9 <;> first | (simp only [if_pos zq1]; first | done | (first | done | exact modw_ar (by omega) (by omega) | (exfalso; omega))) | (simp only [if_neg zq1]; first | done | (first | done | exact modw_ar (by omega) (by omega) | (exfalso; omega))))))) (by first | decide | exact b2i_or) (by first | rfl | omega | exact (b2i_t (by omega)).symm | exact (b2i_f (by omega)).symm | (simp only [b2i]; (repeat' split) <;> first | rfl | omega | (exfalso; omega))) dX6_number_113
            · refine j_c hx hb dX6_number_100 ?_
              exact m_zret hx hb hr hlocks hW (by (by_cases zq0 : v1 ≠ -9 ∧ nxt t ty q1 = x <;> first | (simp only [if_pos zq0]; first | done | (by_cases zq1 : v1 = -9 <;> first | (simp only [if_pos zq1]; first | done | (first | done | exact modw_ar (by omega) (by omega) | (exfalso; omega))) | (simp only [if_neg zq1]; first | done | (first | done | exact modw_ar (by omega) (by omega) | (exfalso; omega))))) | (simp only [if_neg zq0]; first | done | (by_cases zq1 : v1 = -9 <;> first | (simp only [if_pos zq1]; first | done | (first | done | exact modw_ar (by omega) (by omega) | (exfalso; omega))) | (simp only [if_neg zq1]; first | done | (first | done | exact modw_ar (by omega) (by omega) | (exfalso; omega))))))) (by first | decide | exact b2i_or) (by first | rfl | omega | exact (b2i_t (by omega)).symm | exact (b2i_f (by omega)).symm | (simp only [b2i]; (repeat' split) <;> first | rfl | omega | (exfalso; omega))) dX6_number_101
        · refine lv_aload_n hx hb dX6_number_31 rfl (lv_at hl 1 rfl) ?_
          refine Mg7 hx hb hts hin hown hK hW.1 (by decide +kernel) dX6_number_32 ?_
          refine lv_iload_n hx hb dX6_number_35 rfl (lv_at hl 0 rfl) ?_
          refine j_ieq (tgt := 46) hx hb (by omega) (by omega) dX6_number_36 (by decide) (fun c7 => ?_) (fun c7 => ?_)
          · refine lv_aload_n hx hb dX6_number_46 rfl (lv_at hl 1 rfl) ?_
            refine j_bi hx hb dX6_number_47 rfl ?_
            refine lv_aload_n hx hb dX6_number_49 rfl (lv_at hl 1 rfl) ?_
            refine Mg8 hx hb hts hin hown hK hW.1 (by decide +kernel) dX6_number_50 ?_
            refine j_mul hx hb dX6_number_53 ?_
            refine lv_aload_n hx hb dX6_number_54 rfl (lv_at hl 1 rfl) ?_
            refine Mg5 hx hb hts hin hown hK hW.1 (by decide +kernel) dX6_number_55 ?_
            refine lv_aload_n hx hb dX6_number_58 rfl (lv_at hl 1 rfl) ?_
            refine Mg7 hx hb hts hin hown hK hW.1 (by decide +kernel) dX6_number_59 ?_
            refine Ma3 hx hb hK hW.1 (by omega) dX6_number_62 ?_
            refine j_add hx hb dX6_number_63 ?_
            refine j_bi hx hb dX6_number_64 rfl ?_
            refine j_sub hx hb dX6_number_66 ?_
            refine Mp8 hx hb hts hin hown hK hW (by decide +kernel) dX6_number_67 (fun H locs hW => ?_)
            refine lv_aload_n hx hb dX6_number_70 rfl (lv_at hl 1 rfl) ?_
            refine lv_dup hx hb dX6_number_71 rfl ?_
            refine Mg7 hx hb hts hin hown hK hW.1 (by decide +kernel) dX6_number_72 ?_
            refine j_c hx hb dX6_number_75 ?_
            refine j_add hx hb dX6_number_76 ?_
            refine Mp7 hx hb hts hin hown hK hW (by decide +kernel) dX6_number_77 (fun H locs hW => ?_)
            refine lv_goto (tgt := 10) hx hb dX6_number_80 (by decide) ?_
            have hI : (q + 1 = at_ + ((j + 1 : Nat) : Int) ∧ j + 1 ≤ 3 ∧ q + 1 ≤ ty) ∧ ((j + 1 = 0 → 10 * v + t q.toNat - 48 = 0) ∧ 0 ≤ 10 * v + t q.toNat - 48 ∧ 10 * v + t q.toNat - 48 ≤ 999 ∧ (j + 1 = 1 → 10 * v + t q.toNat - 48 ≤ 9) ∧ (j + 1 = 2 → 10 * v + t q.toNat - 48 ≤ 99)) ∧ (1 ≤ j + 1 → (48 ≤ nxt t ty at_ ∧ nxt t ty at_ ≤ 57) ∧ rdN t ty at_ = rdL t ty (3 - (j + 1)) (10 * v + t q.toNat - 48) (q + 1)) := by
                                have hqn : nxt t ty q = t q.toNat := hnx1 (by omega)
                                refine ⟨by omega, by omega, fun _ => ?_⟩
                                by_cases hj0 : j = 0
                                · have hqa : q = at_ := by omega
                                  have hq2 : nxt t ty at_ = t q.toNat := by rw [← hqa]; exact hqn
                                  have hdd : 48 ≤ nxt t ty at_ ∧ nxt t ty at_ ≤ 57 := by omega
                                  refine ⟨hdd, ?_⟩
                                  unfold rdN
                                  rw [if_pos hdd, show 3 - (j + 1) = 2 from by omega, show nxt t ty at_ - 48 = 10 * v + t q.toNat - 48 from by omega, hqa]
                                · refine ⟨(hinv.2.2 (by omega)).1, ?_⟩
                                  rw [(hinv.2.2 (by omega)).2, show 3 - j = 3 - (j + 1) + 1 from by omega, rdL_go (by omega), show v * 10 + nxt t ty q - 48 = 10 * v + t q.toNat - 48 from by omega]
            exact ih (j + 1) (((10 * v) + (t q.toNat)) - 48) (q + 1)   (by exact hI) (by omega) _ _ (hW) ls (lv_sub hl [0, 1, 2] rfl)
          · refine lv_aload_n hx hb dX6_number_39 rfl (lv_at hl 1 rfl) ?_
            refine Mg8 hx hb hts hin hown hK hW.1 (by decide +kernel) dX6_number_40 ?_
            refine j_zle (tgt := 83) hx hb (by omega) dX6_number_43 (by decide) (fun c8 => ?_) (fun c8 => ?_)
            · have hfin : (j = 0 → v1 = -9 ∧ q1 = at_) ∧ (1 ≤ j → v1 = v ∧ q1 = q) := by
                            constructor
                            · intro h0
                              have hqa : at_ = q := by omega
                              subst hqa
                              first | (exfalso; omega) | (rw [hv1, hq1]; unfold rdN; rw [if_neg (by omega)]; exact ⟨rfl, rfl⟩)
                            · intro h1
                              rw [hv1, hq1, (hinv.2.2 h1).2]
                              first | (rw [rdL_stop (by omega)]; exact ⟨rfl, rfl⟩) | (rw [show 3 - j = 0 from by omega]; exact ⟨rfl, rfl⟩)
              have hq1e : 1 ≤ j → nxt t ty q1 = nxt t ty q := fun h => by rw [(hfin.2 h).2]
              refine lv_aload_n hx hb dX6_number_83 rfl (lv_at hl 1 rfl) ?_
              refine Mg7 hx hb hts hin hown hK hW.1 (by decide +kernel) dX6_number_84 ?_
              refine lv_iload_n hx hb dX6_number_87 rfl (lv_at hl 0 rfl) ?_
              refine j_ieq (tgt := 100) hx hb (by omega) (by omega) dX6_number_88 (by decide) (fun c9 => ?_) (fun c9 => ?_)
              · refine j_c hx hb dX6_number_100 ?_
                exact m_zret hx hb hr hlocks hW (by (by_cases zq0 : v1 ≠ -9 ∧ nxt t ty q1 = x <;> first | (simp only [if_pos zq0]; first | done | (by_cases zq1 : v1 = -9 <;> first | (simp only [if_pos zq1]; first | done | (first | done | exact modw_ar (by omega) (by omega) | (exfalso; omega))) | (simp only [if_neg zq1]; first | done | (first | done | exact modw_ar (by omega) (by omega) | (exfalso; omega))))) | (simp only [if_neg zq0]; first | done | (by_cases zq1 : v1 = -9 <;> first | (simp only [if_pos zq1]; first | done | (first | done | exact modw_ar (by omega) (by omega) | (exfalso; omega))) | (simp only [if_neg zq1]; first | done | (first | done | exact modw_ar (by omega) (by omega) | (exfalso; omega))))))) (by first | decide | exact b2i_or) (by first | rfl | omega | exact (b2i_t (by omega)).symm | exact (b2i_f (by omega)).symm | (simp only [b2i]; (repeat' split) <;> first | rfl | omega | (exfalso; omega))) dX6_number_101
              · refine lv_aload_n hx hb dX6_number_91 rfl (lv_at hl 1 rfl) ?_
                refine lv_iload_n hx hb dX6_number_92 rfl (lv_at hl 2 rfl) ?_
                refine lv_iload_n hx hb dX6_number_93 rfl (lv_at hl 2 rfl) ?_
                refine p_callV (v := .int (iI (b2i (q < ty ∧ (x ≤ t q.toNat ∧ t q.toNat ≤ x))))) (ci := 6) (n := 2) (As := [.int (iI (x)), .int (iI (x))]) (rest := []) ⟨hx, hb, hml, hown, hts⟩ hK (kX6_isAt l D cI cV b s pa he np ru t ty q v x x (by omega) (by omega) hT (by omega)) hW.1 rfl rfl gX6_number_X6_isAt rfl (by decide +kernel) ⟨Nat.le_of_ble_eq_true rfl, Nat.le_of_ble_eq_true rfl⟩ rfl hl.1 (Nat.le_of_ble_eq_true rfl) dX6_number_94 ⟨Nat.zero_le _, Nat.zero_le _⟩ rfl ?_
                refine j_bne (tgt := 102) hx hb dX6_number_97 (by decide) (fun c10 => ?_) (fun c10 => ?_)
                · refine lv_aload_n hx hb dX6_number_102 rfl (lv_at hl 1 rfl) ?_
                  refine lv_dup hx hb dX6_number_103 rfl ?_
                  refine Mg7 hx hb hts hin hown hK hW.1 (by decide +kernel) dX6_number_104 ?_
                  refine j_c hx hb dX6_number_107 ?_
                  refine j_add hx hb dX6_number_108 ?_
                  refine Mp7 hx hb hts hin hown hK hW (by decide +kernel) dX6_number_109 (fun H locs hW => ?_)
                  refine j_c hx hb dX6_number_112 ?_
                  exact m_zret hx hb hr hlocks hW (by (by_cases zq0 : v1 ≠ -9 ∧ nxt t ty q1 = x <;> first | (simp only [if_pos zq0]; first | done | (by_cases zq1 : v1 = -9 <;> first | (simp only [if_pos zq1]; first | done | (first | done | exact modw_ar (by omega) (by omega) | (exfalso; omega))) | (simp only [if_neg zq1]; first | done | (first | done | exact modw_ar (by omega) (by omega) | (exfalso; omega))))) | (simp only [if_neg zq0]; first | done | (by_cases zq1 : v1 = -9 <;> first | (simp only [if_pos zq1]; first | done | (first | done | exact modw_ar (by omega) (by omega) | (exfalso; omega))) | (simp only [if_neg zq1]; first | done | (first | done | exact modw_ar (by omega) (by omega) | (exfalso; omega))))))) (by first | decide | exact b2i_or) (by first | rfl | omega | exact (b2i_t (by omega)).symm | exact (b2i_f (by omega)).symm | (simp only [b2i]; (repeat' split) <;> first | rfl | omega | (exfalso; omega))) dX6_number_113
                · refine j_c hx hb dX6_number_100 ?_
                  exact m_zret hx hb hr hlocks hW (by (by_cases zq0 : v1 ≠ -9 ∧ nxt t ty q1 = x <;> first | (simp only [if_pos zq0]; first | done | (by_cases zq1 : v1 = -9 <;> first | (simp only [if_pos zq1]; first | done | (first | done | exact modw_ar (by omega) (by omega) | (exfalso; omega))) | (simp only [if_neg zq1]; first | done | (first | done | exact modw_ar (by omega) (by omega) | (exfalso; omega))))) | (simp only [if_neg zq0]; first | done | (by_cases zq1 : v1 = -9 <;> first | (simp only [if_pos zq1]; first | done | (first | done | exact modw_ar (by omega) (by omega) | (exfalso; omega))) | (simp only [if_neg zq1]; first | done | (first | done | exact modw_ar (by omega) (by omega) | (exfalso; omega))))))) (by first | decide | exact b2i_or) (by first | rfl | omega | exact (b2i_t (by omega)).symm | exact (b2i_f (by omega)).symm | (simp only [b2i]; (repeat' split) <;> first | rfl | omega | (exfalso; omega))) dX6_number_101
            · refine lv_aload_n hx hb dX6_number_46 rfl (lv_at hl 1 rfl) ?_
              refine j_bi hx hb dX6_number_47 rfl ?_
              refine lv_aload_n hx hb dX6_number_49 rfl (lv_at hl 1 rfl) ?_
              refine Mg8 hx hb hts hin hown hK hW.1 (by decide +kernel) dX6_number_50 ?_
              refine j_mul hx hb dX6_number_53 ?_
              refine lv_aload_n hx hb dX6_number_54 rfl (lv_at hl 1 rfl) ?_
              refine Mg5 hx hb hts hin hown hK hW.1 (by decide +kernel) dX6_number_55 ?_
              refine lv_aload_n hx hb dX6_number_58 rfl (lv_at hl 1 rfl) ?_
              refine Mg7 hx hb hts hin hown hK hW.1 (by decide +kernel) dX6_number_59 ?_
              refine Ma3 hx hb hK hW.1 (by omega) dX6_number_62 ?_
              refine j_add hx hb dX6_number_63 ?_
              refine j_bi hx hb dX6_number_64 rfl ?_
              refine j_sub hx hb dX6_number_66 ?_
              refine Mp8 hx hb hts hin hown hK hW (by decide +kernel) dX6_number_67 (fun H locs hW => ?_)
              refine lv_aload_n hx hb dX6_number_70 rfl (lv_at hl 1 rfl) ?_
              refine lv_dup hx hb dX6_number_71 rfl ?_
              refine Mg7 hx hb hts hin hown hK hW.1 (by decide +kernel) dX6_number_72 ?_
              refine j_c hx hb dX6_number_75 ?_
              refine j_add hx hb dX6_number_76 ?_
              refine Mp7 hx hb hts hin hown hK hW (by decide +kernel) dX6_number_77 (fun H locs hW => ?_)
              refine lv_goto (tgt := 10) hx hb dX6_number_80 (by decide) ?_
              have hI : (q + 1 = at_ + ((j + 1 : Nat) : Int) ∧ j + 1 ≤ 3 ∧ q + 1 ≤ ty) ∧ ((j + 1 = 0 → 10 * v + t q.toNat - 48 = 0) ∧ 0 ≤ 10 * v + t q.toNat - 48 ∧ 10 * v + t q.toNat - 48 ≤ 999 ∧ (j + 1 = 1 → 10 * v + t q.toNat - 48 ≤ 9) ∧ (j + 1 = 2 → 10 * v + t q.toNat - 48 ≤ 99)) ∧ (1 ≤ j + 1 → (48 ≤ nxt t ty at_ ∧ nxt t ty at_ ≤ 57) ∧ rdN t ty at_ = rdL t ty (3 - (j + 1)) (10 * v + t q.toNat - 48) (q + 1)) := by
                                have hqn : nxt t ty q = t q.toNat := hnx1 (by omega)
                                refine ⟨by omega, by omega, fun _ => ?_⟩
                                by_cases hj0 : j = 0
                                · have hqa : q = at_ := by omega
                                  have hq2 : nxt t ty at_ = t q.toNat := by rw [← hqa]; exact hqn
                                  have hdd : 48 ≤ nxt t ty at_ ∧ nxt t ty at_ ≤ 57 := by omega
                                  refine ⟨hdd, ?_⟩
                                  unfold rdN
                                  rw [if_pos hdd, show 3 - (j + 1) = 2 from by omega, show nxt t ty at_ - 48 = 10 * v + t q.toNat - 48 from by omega, hqa]
                                · refine ⟨(hinv.2.2 (by omega)).1, ?_⟩
                                  rw [(hinv.2.2 (by omega)).2, show 3 - j = 3 - (j + 1) + 1 from by omega, rdL_go (by omega), show v * 10 + nxt t ty q - 48 = 10 * v + t q.toNat - 48 from by omega]
              exact ih (j + 1) (((10 * v) + (t q.toNat)) - 48) (q + 1)   (by exact hI) (by omega) _ _ (hW) ls (lv_sub hl [0, 1, 2] rfl)
  exact LP10 (_) 0 0 at_   (by exact ⟨by omega, by omega, fun h => absurd h (by omega)⟩) (by exact Nat.lt_succ_self _) _ _ (hW) ls (lv_sub hl [0, 1, 2] rfl)
