/-! the law: isSo -/
theorem sm_pres {m : Nat → Int} (h : Inv m) : ∀ n : Nat, n ≤ 12 → 0 ≤ sm (fun i => m (8 + i)) n ∧ sm (fun i => m (8 + i)) n ≤ n
  | 0, _ => ⟨Int.le_refl _, Int.le_refl _⟩
  | n + 1, hn => by
    have q := sm_pres h n (by omega)
    have r := h.2.2.2.1 n (by omega)
    simp only [sm]
    omega
set_option maxHeartbeats 4000000 in
set_option maxRecDepth 100000 in
theorem kL_isSo (l : Launch) (D : va_G) (cI cV cL : ClassId) (ga va ea da : Nat) (g a : Nat → Nat) (ra : Nat → Nat → Nat) (m ev dv : Nat → Int) (wL : va_W) (hS : SV m ev dv) (hL : LW cI cV g a ra m wL) : PL l yL_isSo wsL_isSo 5 113 [.ref (g 0), .ref (ga), .ref (va), .ref (ea), .ref (da)] (lw2 cI ga va m (ed2 cL ea da ev dv wL)) D cI cV cL (some (.int (iI (1)))) := by
  refine PL.of (cc := cL_isSo) (maxL := 12) (ret := (some .boolean)) (by decide) rfl (Nat.le_of_ble_eq_true rfl) ?_
  intro p e s0 mi below meth c ls hx hb hr hts hown hlocks hml hP hK hl
  have hown : s0.vm.findClass RL = some mi.cls := hown
  have hl : lv_has ls 12 [(0, .ref (g 0)), (1, .ref (ga)), (2, .ref (va)), (3, .ref (ea)), (4, .ref (da))] := hl
  obtain ⟨hI, ⟨hE, hD, hN, hX⟩, hev, hdv⟩ := id hS
  obtain ⟨hbd, k0, k12, k1, k15, k3, k360, k4, k43, k7, k76, k6, k66, ho, hn⟩ := id hI.1
  have h5 : m 5 = -9 ∨ 0 ≤ m 5 := by
    have := hI.h45
    omega
  have hK2 : va_K D vwCl (kt cI cV) s0 := hK.sub [0, 1] rfl
  have hhd := hL.head
  have hPL : va_P D vwCl wL s0.heap := va_P.mid (pre := lw2 cI ga va m (ed2 cL ea da ev dv [])) (wc := wL) (post := []) (by rw [List.append_nil]; exact hP)
  have hN7 : (m 5 = -9 ∧ m 7 = m 2) ∨ (m 5 ≠ -9 ∧ m 7 = m 2 + 1) := by
    have q := hN.2.1
    by_cases c : m 5 = -9
    · rw [if_pos c] at q
      exact Or.inl ⟨c, by omega⟩
    · rw [if_neg c] at q
      exact Or.inr ⟨c, q⟩
  have b2 := hbd 2
  refine j_c hx hb dL_isSo_0 ?_
  refine lv_istore (lv' := [(5, .int (iI (0))), (0, .ref (g 0)), (1, .ref (ga)), (2, .ref (va)), (3, .ref (ea)), (4, .ref (da))]) hx hb dL_isSo_1 hl (by decide) rfl (fun ls hl => ?_)
  refine j_c hx hb dL_isSo_3 ?_
  refine lv_istore (lv' := [(6, .int (iI (0))), (5, .int (iI (0))), (0, .ref (g 0)), (1, .ref (ga)), (2, .ref (va)), (3, .ref (ea)), (4, .ref (da))]) hx hb dL_isSo_4 hl (by decide) rfl (fun ls hl => ?_)
  refine j_c hx hb dL_isSo_6 ?_
  refine lv_istore (lv' := [(7, .int (iI (1))), (6, .int (iI (0))), (5, .int (iI (0))), (0, .ref (g 0)), (1, .ref (ga)), (2, .ref (va)), (3, .ref (ea)), (4, .ref (da))]) hx hb dL_isSo_7 hl (by decide) rfl (fun ls hl => ?_)
  refine j_c hx hb dL_isSo_9 ?_
  refine lv_istore (lv' := [(8, .int (iI (0))), (7, .int (iI (1))), (6, .int (iI (0))), (5, .int (iI (0))), (0, .ref (g 0)), (1, .ref (ga)), (2, .ref (va)), (3, .ref (ea)), (4, .ref (da))]) hx hb dL_isSo_10 hl (by decide) rfl (fun ls hl => ?_)
  have LP12 : ∀ (fu : Nat) (k : Nat) (x7 x6 : Int), x7 = 1 → x6 = sm (fun i => b2i (m (224 + 5 * i) ≠ m (225 + 5 * i))) k → ((k : Int) ≤ m 7) → (m 7).toNat - k < fu → ∀ ls : Array Slot, lv_has ls 12 [(8, .int (iI ((k : Int)))), (7, .int (iI (x7))), (6, .int (iI (x6))), (5, .int (iI (0))), (0, .ref (g 0)), (1, .ref (ga)), (2, .ref (va)), (3, .ref (ea)), (4, .ref (da))] → W p l e (headSpec wsL_isSo (rmK 5 113)).room s0 mi ([.ref (g 0), .ref (ga), .ref (va), .ref (ea), .ref (da)] : List Value).toArray below meth c s0.heap [] 0 0 (MQ below (pQ (some (.int (iI (1))))) ([.ref (g 0), .ref (ga), .ref (va), .ref (ea), .ref (da)] : List Value).toArray s0 0 0 (fun _ => False)) (F0 mi 12 ls []) := by
    intro fu
    induction fu with
    | zero =>
      intros
      omega
    | succ fu ih12 =>
      intro k x7 x6 ex7 ex6 hinv hmeas ls hl
      have sr6 := sm_rg (f := (fun i => b2i (m (224 + 5 * i) ≠ m (225 + 5 * i)))) (fun k => b2i_rg) k
      refine lv_iload hx hb dL_isSo_12 (lv_at hl 0 rfl) ?_
      refine lv_aload_n hx hb dL_isSo_14 rfl (lv_at hl 5 rfl) ?_
      refine j_bi hx hb dL_isSo_15 rfl ?_
      refine Gld hx hb hK hP (7) (by omega) (by omega) dL_isSo_17 ?_
      have r1 : bd (m 7) := hbd 7
      refine j_ige (tgt := 188) hx hb (by omega) (by omega) dL_isSo_18 (by decide) (fun c2 => ?_) (fun c2 => ?_)
      · have ex6 : x6 = sm (fun i => b2i (m (224 + 5 * i) ≠ m (225 + 5 * i))) (m 7).toNat := by
          rw [ex6]
          congr 1
          omega
        clear hinv
        refine j_c hx hb dL_isSo_188 ?_
        refine lv_istore (lv' := [(8, .int (iI (0))), (7, .int (iI (x7))), (6, .int (iI (x6))), (5, .int (iI (0))), (0, .ref (g 0)), (1, .ref (ga)), (2, .ref (va)), (3, .ref (ea)), (4, .ref (da))]) hx hb dL_isSo_189 hl (by decide) rfl (fun ls hl => ?_)
        have LP191 : ∀ (fu : Nat) (k2 : Nat) (x7 x5 : Int), x7 = 1 → x5 = sm (fun i => m (8 + i)) k2 → ((k2 : Int) ≤ m 0) → (m 0).toNat - k2 < fu → ∀ ls : Array Slot, lv_has ls 12 [(8, .int (iI ((k2 : Int)))), (7, .int (iI (x7))), (6, .int (iI (x6))), (5, .int (iI (x5))), (0, .ref (g 0)), (1, .ref (ga)), (2, .ref (va)), (3, .ref (ea)), (4, .ref (da))] → W p l e (headSpec wsL_isSo (rmK 5 113)).room s0 mi ([.ref (g 0), .ref (ga), .ref (va), .ref (ea), .ref (da)] : List Value).toArray below meth c s0.heap [] 0 0 (MQ below (pQ (some (.int (iI (1))))) ([.ref (g 0), .ref (ga), .ref (va), .ref (ea), .ref (da)] : List Value).toArray s0 0 0 (fun _ => False)) (F0 mi 191 ls []) := by
          intro fu
          induction fu with
          | zero =>
            intros
            omega
          | succ fu ih191 =>
            intro k2 x7 x5 ex7 ex5 hinv hmeas ls hl
            have sr5 := sm_pres hI k2 (by omega)
            refine lv_iload hx hb dL_isSo_191 (lv_at hl 0 rfl) ?_
            refine lv_aload_n hx hb dL_isSo_193 rfl (lv_at hl 5 rfl) ?_
            refine j_c hx hb dL_isSo_194 ?_
            refine Gld hx hb hK hP (0) (by omega) (by omega) dL_isSo_195 ?_
            have r3 : bd (m 0) := hbd 0
            refine j_ige (tgt := 359) hx hb (by omega) (by omega) dL_isSo_196 (by decide) (fun c4 => ?_) (fun c4 => ?_)
            · have ex5 : x5 = sm (fun i => m (8 + i)) (m 0).toNat := by
                rw [ex5]
                congr 1
                omega
              refine j_c hx hb dL_isSo_359 ?_
              refine lv_istore (lv' := [(8, .int (iI (0))), (7, .int (iI (x7))), (6, .int (iI (x6))), (5, .int (iI (x5))), (0, .ref (g 0)), (1, .ref (ga)), (2, .ref (va)), (3, .ref (ea)), (4, .ref (da))]) hx hb dL_isSo_360 hl (by decide) rfl (fun ls hl => ?_)
              have LP362 : ∀ (fu : Nat) (k3 : Nat) (x7 : Int), x7 = 1 → ((k3 : Int) ≤ m 3) → (m 3).toNat - k3 < fu → ∀ ls : Array Slot, lv_has ls 12 [(8, .int (iI ((k3 : Int)))), (7, .int (iI (x7))), (6, .int (iI (x6))), (5, .int (iI (x5))), (0, .ref (g 0)), (1, .ref (ga)), (2, .ref (va)), (3, .ref (ea)), (4, .ref (da))] → W p l e (headSpec wsL_isSo (rmK 5 113)).room s0 mi ([.ref (g 0), .ref (ga), .ref (va), .ref (ea), .ref (da)] : List Value).toArray below meth c s0.heap [] 0 0 (MQ below (pQ (some (.int (iI (1))))) ([.ref (g 0), .ref (ga), .ref (va), .ref (ea), .ref (da)] : List Value).toArray s0 0 0 (fun _ => False)) (F0 mi 362 ls []) := by
                intro fu
                induction fu with
                | zero =>
                  intros
                  omega
                | succ fu ih362 =>
                  intro k3 x7 ex7 hinv hmeas ls hl
                  refine lv_iload hx hb dL_isSo_362 (lv_at hl 0 rfl) ?_
                  refine lv_aload_n hx hb dL_isSo_364 rfl (lv_at hl 5 rfl) ?_
                  refine j_c hx hb dL_isSo_365 ?_
                  refine Gld hx hb hK hP (3) (by omega) (by omega) dL_isSo_366 ?_
                  have r5 : bd (m 3) := hbd 3
                  refine j_ige (tgt := 576) hx hb (by omega) (by omega) dL_isSo_367 (by decide) (fun c6 => ?_) (fun c6 => ?_)
                  · refine j_c hx hb dL_isSo_576 ?_
                    refine lv_istore (lv' := [(8, .int (iI (0))), (7, .int (iI (x7))), (6, .int (iI (x6))), (5, .int (iI (x5))), (0, .ref (g 0)), (1, .ref (ga)), (2, .ref (va)), (3, .ref (ea)), (4, .ref (da))]) hx hb dL_isSo_577 hl (by decide) rfl (fun ls hl => ?_)
                    have LP579 : ∀ (fu : Nat) (k4 : Nat) (x7 : Int), x7 = 1 → ((k4 : Int) ≤ m 1) → (m 1).toNat - k4 < fu → ∀ ls : Array Slot, lv_has ls 12 [(8, .int (iI ((k4 : Int)))), (7, .int (iI (x7))), (6, .int (iI (x6))), (5, .int (iI (x5))), (0, .ref (g 0)), (1, .ref (ga)), (2, .ref (va)), (3, .ref (ea)), (4, .ref (da))] → W p l e (headSpec wsL_isSo (rmK 5 113)).room s0 mi ([.ref (g 0), .ref (ga), .ref (va), .ref (ea), .ref (da)] : List Value).toArray below meth c s0.heap [] 0 0 (MQ below (pQ (some (.int (iI (1))))) ([.ref (g 0), .ref (ga), .ref (va), .ref (ea), .ref (da)] : List Value).toArray s0 0 0 (fun _ => False)) (F0 mi 579 ls []) := by
                      intro fu
                      induction fu with
                      | zero =>
                        intros
                        omega
                      | succ fu ih579 =>
                        intro k4 x7 ex7 hinv hmeas ls hl
                        refine lv_iload hx hb dL_isSo_579 (lv_at hl 0 rfl) ?_
                        refine lv_aload_n hx hb dL_isSo_581 rfl (lv_at hl 5 rfl) ?_
                        refine j_c hx hb dL_isSo_582 ?_
                        refine Gld hx hb hK hP (1) (by omega) (by omega) dL_isSo_583 ?_
                        have r7 : bd (m 1) := hbd 1
                        refine j_ige (tgt := 661) hx hb (by omega) (by omega) dL_isSo_584 (by decide) (fun c8 => ?_) (fun c8 => ?_)
                        · refine j_c hx hb dL_isSo_661 ?_
                          refine lv_istore (lv' := [(8, .int (iI (0))), (7, .int (iI (x7))), (6, .int (iI (x6))), (5, .int (iI (x5))), (0, .ref (g 0)), (1, .ref (ga)), (2, .ref (va)), (3, .ref (ea)), (4, .ref (da))]) hx hb dL_isSo_662 hl (by decide) rfl (fun ls hl => ?_)
                          refine j_c hx hb dL_isSo_664 ?_
                          refine lv_istore (lv' := [(9, .int (iI (0))), (8, .int (iI (0))), (7, .int (iI (x7))), (6, .int (iI (x6))), (5, .int (iI (x5))), (0, .ref (g 0)), (1, .ref (ga)), (2, .ref (va)), (3, .ref (ea)), (4, .ref (da))]) hx hb dL_isSo_665 hl (by decide) rfl (fun ls hl => ?_)
                          have LP667 : ∀ (fu : Nat) (k5 : Nat) (x8 : Int), x8 = sm (fun k => b2i (m (42 + 3 * k) = -9)) k5 → ((k5 : Int) ≤ m 4) → (m 4).toNat - k5 < fu → ∀ ls : Array Slot, lv_has ls 12 [(9, .int (iI ((k5 : Int)))), (8, .int (iI (x8))), (7, .int (iI (x7))), (6, .int (iI (x6))), (5, .int (iI (x5))), (0, .ref (g 0)), (1, .ref (ga)), (2, .ref (va)), (3, .ref (ea)), (4, .ref (da))] → W p l e (headSpec wsL_isSo (rmK 5 113)).room s0 mi ([.ref (g 0), .ref (ga), .ref (va), .ref (ea), .ref (da)] : List Value).toArray below meth c s0.heap [] 0 0 (MQ below (pQ (some (.int (iI (1))))) ([.ref (g 0), .ref (ga), .ref (va), .ref (ea), .ref (da)] : List Value).toArray s0 0 0 (fun _ => False)) (F0 mi 667 ls []) := by
                            intro fu
                            induction fu with
                            | zero =>
                              intros
                              omega
                            | succ fu ih667 =>
                              intro k5 x8 ex8 hinv hmeas ls hl
                              have sr8 := sm_rg (f := fun k => b2i (m (42 + 3 * k) = -9)) (fun k => b2i_rg) k5
                              refine lv_iload hx hb dL_isSo_667 (lv_at hl 0 rfl) ?_
                              refine lv_aload_n hx hb dL_isSo_669 rfl (lv_at hl 6 rfl) ?_
                              refine j_c hx hb dL_isSo_670 ?_
                              refine Gld hx hb hK hP (4) (by omega) (by omega) dL_isSo_671 ?_
                              have r9 : bd (m 4) := hbd 4
                              refine j_ige (tgt := 704) hx hb (by omega) (by omega) dL_isSo_672 (by decide) (fun c10 => ?_) (fun c10 => ?_)
                              · have ex8 : x8 = m 2 := by
                                  rw [ex8, hN.1]
                                  congr 1
                                  omega
                                refine lv_iload hx hb dL_isSo_704 (lv_at hl 2 rfl) ?_
                                refine j_zeq (tgt := 743) hx hb (by omega) dL_isSo_706 (by decide) (fun c11 => absurd c11 (by omega)) (fun c11 => ?_)
                                refine lv_iload hx hb dL_isSo_709 (lv_at hl 1 rfl) ?_
                                refine lv_aload_n hx hb dL_isSo_711 rfl (lv_at hl 6 rfl) ?_
                                refine j_c hx hb dL_isSo_712 ?_
                                refine Gld hx hb hK hP (2) (by omega) (by omega) dL_isSo_713 ?_
                                have r12 : bd (m 2) := hbd 2
                                refine j_ine (tgt := 743) hx hb (by omega) (by omega) dL_isSo_714 (by decide) (fun c13 => absurd c13 (by omega)) (fun c13 => ?_)
                                refine lv_aload_n hx hb dL_isSo_717 rfl (lv_at hl 6 rfl) ?_
                                refine j_bi hx hb dL_isSo_718 rfl ?_
                                refine Gld hx hb hK hP (7) (by omega) (by omega) dL_isSo_720 ?_
                                have r14 : bd (m 7) := hbd 7
                                refine lv_aload_n hx hb dL_isSo_721 rfl (lv_at hl 6 rfl) ?_
                                refine j_c hx hb dL_isSo_722 ?_
                                refine Gld hx hb hK hP (2) (by omega) (by omega) dL_isSo_723 ?_
                                have r15 : bd (m 2) := hbd 2
                                refine lv_aload_n hx hb dL_isSo_724 rfl (lv_at hl 6 rfl) ?_
                                refine j_c hx hb dL_isSo_725 ?_
                                refine Gld hx hb hK hP (5) (by omega) (by omega) dL_isSo_726 ?_
                                have r16 : bd (m 5) := hbd 5
                                refine j_zge (tgt := 734) hx hb (by omega) dL_isSo_727 (by decide) (fun c17 => ?_) (fun c17 => ?_)
                                · refine j_c hx hb dL_isSo_734 ?_
                                  refine j_add hx hb dL_isSo_735 ?_
                                  refine j_ine (tgt := 743) hx hb (by omega) (by omega) dL_isSo_736 (by decide) (fun c18 => absurd c18 (by omega)) (fun c18 => ?_)
                                  refine j_c hx hb dL_isSo_739 ?_
                                  refine lv_goto (tgt := 744) hx hb dL_isSo_740 (by decide) ?_
                                  refine lv_istore (lv' := [(7, .int (iI (1))), (9, .int (iI ((k5 : Int)))), (8, .int (iI (x8))), (6, .int (iI (x6))), (5, .int (iI (x5))), (0, .ref (g 0)), (1, .ref (ga)), (2, .ref (va)), (3, .ref (ea)), (4, .ref (da))]) hx hb dL_isSo_744 hl (by decide) rfl (fun ls hl => ?_)
                                  refine lv_iload hx hb dL_isSo_746 (lv_at hl 0 rfl) ?_
                                  refine j_zeq (tgt := 935) hx hb (by decide) dL_isSo_748 (by decide) (fun h => absurd h (by decide)) (fun _ => ?_)
                                  refine lv_aload_n hx hb dL_isSo_751 rfl (lv_at hl 5 rfl) ?_
                                  refine j_c hx hb dL_isSo_752 ?_
                                  refine p_callV (v := .int (iI (m 0))) (ci := 5) (n := 1) (As := [.int (iI (0))]) (rest := []) ⟨hx, hb, hml, hown, hts⟩ hK2 (an_count_0 l D hL hI) hPL rfl hhd gL_isSo_X5_count rfl (by decide +kernel) ⟨Nat.le_of_ble_eq_true rfl, Nat.le_of_ble_eq_true rfl⟩ rfl hl.1 (Nat.le_of_ble_eq_true rfl) dL_isSo_753 ⟨Nat.zero_le _, Nat.zero_le _⟩ rfl ?_
                                  refine lv_aload_n hx hb dL_isSo_756 rfl (lv_at hl 6 rfl) ?_
                                  refine j_c hx hb dL_isSo_757 ?_
                                  refine Gld hx hb hK hP (0) (by omega) (by omega) dL_isSo_758 ?_
                                  have r20 : bd (m 0) := hbd 0
                                  refine j_ine (tgt := 935) hx hb (by omega) (by omega) dL_isSo_759 (by decide) (fun c21 => absurd c21 (by omega)) (fun c21 => ?_)
                                  refine lv_aload_n hx hb dL_isSo_762 rfl (lv_at hl 5 rfl) ?_
                                  refine j_c hx hb dL_isSo_763 ?_
                                  refine p_callV (v := .int (iI (sm (fun i => m (8 + i)) (m 0).toNat))) (ci := 5) (n := 1) (As := [.int (iI (1))]) (rest := []) ⟨hx, hb, hml, hown, hts⟩ hK2 (an_count_1 l D hL hI) hPL rfl hhd gL_isSo_X5_count rfl (by decide +kernel) ⟨Nat.le_of_ble_eq_true rfl, Nat.le_of_ble_eq_true rfl⟩ rfl hl.1 (Nat.le_of_ble_eq_true rfl) dL_isSo_764 ⟨Nat.zero_le _, Nat.zero_le _⟩ rfl ?_
                                  have pr1 := sm_pres hI (m 0).toNat (by omega)
                                  refine lv_iload hx hb dL_isSo_767 (lv_at hl 4 rfl) ?_
                                  refine j_ine (tgt := 935) hx hb (by omega) (by omega) dL_isSo_769 (by decide) (fun c22 => absurd c22 (by omega)) (fun c22 => ?_)
                                  refine lv_aload_n hx hb dL_isSo_772 rfl (lv_at hl 5 rfl) ?_
                                  refine j_c hx hb dL_isSo_773 ?_
                                  refine p_callV (v := .int (iI (m 1))) (ci := 5) (n := 1) (As := [.int (iI (2))]) (rest := []) ⟨hx, hb, hml, hown, hts⟩ hK2 (an_count_2 l D hL hI) hPL rfl hhd gL_isSo_X5_count rfl (by decide +kernel) ⟨Nat.le_of_ble_eq_true rfl, Nat.le_of_ble_eq_true rfl⟩ rfl hl.1 (Nat.le_of_ble_eq_true rfl) dL_isSo_774 ⟨Nat.zero_le _, Nat.zero_le _⟩ rfl ?_
                                  refine lv_aload_n hx hb dL_isSo_777 rfl (lv_at hl 6 rfl) ?_
                                  refine j_c hx hb dL_isSo_778 ?_
                                  refine Gld hx hb hK hP (1) (by omega) (by omega) dL_isSo_779 ?_
                                  have r23 : bd (m 1) := hbd 1
                                  refine j_ine (tgt := 935) hx hb (by omega) (by omega) dL_isSo_780 (by decide) (fun c24 => absurd c24 (by omega)) (fun c24 => ?_)
                                  refine lv_aload_n hx hb dL_isSo_783 rfl (lv_at hl 5 rfl) ?_
                                  refine j_c hx hb dL_isSo_784 ?_
                                  refine p_callV (v := .int (iI (m 2))) (ci := 5) (n := 1) (As := [.int (iI (3))]) (rest := []) ⟨hx, hb, hml, hown, hts⟩ hK2 (an_count_3 l D hL hI) hPL rfl hhd gL_isSo_X5_count rfl (by decide +kernel) ⟨Nat.le_of_ble_eq_true rfl, Nat.le_of_ble_eq_true rfl⟩ rfl hl.1 (Nat.le_of_ble_eq_true rfl) dL_isSo_785 ⟨Nat.zero_le _, Nat.zero_le _⟩ rfl ?_
                                  refine lv_aload_n hx hb dL_isSo_788 rfl (lv_at hl 6 rfl) ?_
                                  refine j_c hx hb dL_isSo_789 ?_
                                  refine Gld hx hb hK hP (2) (by omega) (by omega) dL_isSo_790 ?_
                                  have r25 : bd (m 2) := hbd 2
                                  refine j_ine (tgt := 935) hx hb (by omega) (by omega) dL_isSo_791 (by decide) (fun c26 => absurd c26 (by omega)) (fun c26 => ?_)
                                  refine lv_aload_n hx hb dL_isSo_794 rfl (lv_at hl 5 rfl) ?_
                                  refine j_c hx hb dL_isSo_795 ?_
                                  refine p_callV (v := .int (iI (m 3))) (ci := 5) (n := 1) (As := [.int (iI (4))]) (rest := []) ⟨hx, hb, hml, hown, hts⟩ hK2 (an_count_4 l D hL hI) hPL rfl hhd gL_isSo_X5_count rfl (by decide +kernel) ⟨Nat.le_of_ble_eq_true rfl, Nat.le_of_ble_eq_true rfl⟩ rfl hl.1 (Nat.le_of_ble_eq_true rfl) dL_isSo_796 ⟨Nat.zero_le _, Nat.zero_le _⟩ rfl ?_
                                  refine lv_aload_n hx hb dL_isSo_799 rfl (lv_at hl 6 rfl) ?_
                                  refine j_c hx hb dL_isSo_800 ?_
                                  refine Gld hx hb hK hP (3) (by omega) (by omega) dL_isSo_801 ?_
                                  have r27 : bd (m 3) := hbd 3
                                  refine j_ine (tgt := 935) hx hb (by omega) (by omega) dL_isSo_802 (by decide) (fun c28 => absurd c28 (by omega)) (fun c28 => ?_)
                                  refine lv_aload_n hx hb dL_isSo_805 rfl (lv_at hl 5 rfl) ?_
                                  refine j_c hx hb dL_isSo_806 ?_
                                  refine p_callV (v := .int (iI (m 4))) (ci := 5) (n := 1) (As := [.int (iI (5))]) (rest := []) ⟨hx, hb, hml, hown, hts⟩ hK2 (an_count_5 l D hL hI) hPL rfl hhd gL_isSo_X5_count rfl (by decide +kernel) ⟨Nat.le_of_ble_eq_true rfl, Nat.le_of_ble_eq_true rfl⟩ rfl hl.1 (Nat.le_of_ble_eq_true rfl) dL_isSo_807 ⟨Nat.zero_le _, Nat.zero_le _⟩ rfl ?_
                                  refine lv_aload_n hx hb dL_isSo_810 rfl (lv_at hl 6 rfl) ?_
                                  refine j_c hx hb dL_isSo_811 ?_
                                  refine Gld hx hb hK hP (4) (by omega) (by omega) dL_isSo_812 ?_
                                  have r29 : bd (m 4) := hbd 4
                                  refine j_ine (tgt := 935) hx hb (by omega) (by omega) dL_isSo_813 (by decide) (fun c30 => absurd c30 (by omega)) (fun c30 => ?_)
                                  refine lv_aload_n hx hb dL_isSo_816 rfl (lv_at hl 5 rfl) ?_
                                  refine j_bi hx hb dL_isSo_817 rfl ?_
                                  refine p_callV (v := .int (iI (if m 5 ≠ -9 then 1 else 0))) (ci := 5) (n := 1) (As := [.int (iI (6))]) (rest := []) ⟨hx, hb, hml, hown, hts⟩ hK2 (an_count_6 l D hL hI) hPL rfl hhd gL_isSo_X5_count rfl (by decide +kernel) ⟨Nat.le_of_ble_eq_true rfl, Nat.le_of_ble_eq_true rfl⟩ rfl hl.1 (Nat.le_of_ble_eq_true rfl) dL_isSo_819 ⟨Nat.zero_le _, Nat.zero_le _⟩ rfl ?_
                                  have if6 : (if m 5 ≠ -9 then (1 : Int) else 0) = 0 ∨ (if m 5 ≠ -9 then (1 : Int) else 0) = 1 := by split <;> omega
                                  refine lv_aload_n hx hb dL_isSo_822 rfl (lv_at hl 6 rfl) ?_
                                  refine j_c hx hb dL_isSo_823 ?_
                                  refine Gld hx hb hK hP (5) (by omega) (by omega) dL_isSo_824 ?_
                                  have r31 : bd (m 5) := hbd 5
                                  refine j_zge (tgt := 832) hx hb (by omega) dL_isSo_825 (by decide) (fun c32 => ?_) (fun c32 => absurd c32 (by omega))
                                  refine j_c hx hb dL_isSo_832 ?_
                                  refine j_ine (tgt := 935) hx hb (by omega) (by omega) dL_isSo_833 (by decide) (fun c33 => absurd c33 (by first | (rw [if_pos (by omega)]; omega) | (rw [if_neg (by omega)]; omega))) (fun c33 => ?_)
                                  refine lv_aload_n hx hb dL_isSo_836 rfl (lv_at hl 5 rfl) ?_
                                  refine j_bi hx hb dL_isSo_837 rfl ?_
                                  refine p_callV (v := .int (iI (m 6))) (ci := 5) (n := 1) (As := [.int (iI (7))]) (rest := []) ⟨hx, hb, hml, hown, hts⟩ hK2 (an_count_7 l D hL hI) hPL rfl hhd gL_isSo_X5_count rfl (by decide +kernel) ⟨Nat.le_of_ble_eq_true rfl, Nat.le_of_ble_eq_true rfl⟩ rfl hl.1 (Nat.le_of_ble_eq_true rfl) dL_isSo_839 ⟨Nat.zero_le _, Nat.zero_le _⟩ rfl ?_
                                  refine lv_aload_n hx hb dL_isSo_842 rfl (lv_at hl 6 rfl) ?_
                                  refine j_bi hx hb dL_isSo_843 rfl ?_
                                  refine Gld hx hb hK hP (6) (by omega) (by omega) dL_isSo_845 ?_
                                  have r34 : bd (m 6) := hbd 6
                                  refine j_ine (tgt := 935) hx hb (by omega) (by omega) dL_isSo_846 (by decide) (fun c35 => absurd c35 (by omega)) (fun c35 => ?_)
                                  refine lv_aload_n hx hb dL_isSo_849 rfl (lv_at hl 5 rfl) ?_
                                  refine j_bi hx hb dL_isSo_850 rfl ?_
                                  refine p_callV (v := .int (iI (m 7))) (ci := 5) (n := 1) (As := [.int (iI (8))]) (rest := []) ⟨hx, hb, hml, hown, hts⟩ hK2 (an_count_8 l D hL hI) hPL rfl hhd gL_isSo_X5_count rfl (by decide +kernel) ⟨Nat.le_of_ble_eq_true rfl, Nat.le_of_ble_eq_true rfl⟩ rfl hl.1 (Nat.le_of_ble_eq_true rfl) dL_isSo_852 ⟨Nat.zero_le _, Nat.zero_le _⟩ rfl ?_
                                  refine lv_aload_n hx hb dL_isSo_855 rfl (lv_at hl 6 rfl) ?_
                                  refine j_bi hx hb dL_isSo_856 rfl ?_
                                  refine Gld hx hb hK hP (7) (by omega) (by omega) dL_isSo_858 ?_
                                  have r36 : bd (m 7) := hbd 7
                                  refine j_ine (tgt := 935) hx hb (by omega) (by omega) dL_isSo_859 (by decide) (fun c37 => absurd c37 (by omega)) (fun c37 => ?_)
                                  refine lv_aload_n hx hb dL_isSo_862 rfl (lv_at hl 5 rfl) ?_
                                  refine j_bi hx hb dL_isSo_863 rfl ?_
                                  refine p_callV (v := .int (iI (sm (fun i => b2i (m (224 + 5 * i) ≠ m (225 + 5 * i))) (m 7).toNat))) (ci := 5) (n := 1) (As := [.int (iI (9))]) (rest := []) ⟨hx, hb, hml, hown, hts⟩ hK2 (an_count_9 l D hL hI) hPL rfl hhd gL_isSo_X5_count rfl (by decide +kernel) ⟨Nat.le_of_ble_eq_true rfl, Nat.le_of_ble_eq_true rfl⟩ rfl hl.1 (Nat.le_of_ble_eq_true rfl) dL_isSo_865 ⟨Nat.zero_le _, Nat.zero_le _⟩ rfl ?_
                                  have fo9 := sm_rg (f := fun i => b2i (m (224 + 5 * i) ≠ m (225 + 5 * i))) (fun k => b2i_rg) (m 7).toNat
                                  refine lv_iload hx hb dL_isSo_868 (lv_at hl 3 rfl) ?_
                                  refine j_ine (tgt := 935) hx hb (by omega) (by omega) dL_isSo_870 (by decide) (fun c38 => absurd c38 (by omega)) (fun c38 => ?_)
                                  refine lv_aload_n hx hb dL_isSo_873 rfl (lv_at hl 5 rfl) ?_
                                  refine j_bi hx hb dL_isSo_874 rfl ?_
                                  refine p_callV (v := .int (iI (0))) (ci := 5) (n := 1) (As := [.int (iI (11))]) (rest := []) ⟨hx, hb, hml, hown, hts⟩ hK2 (an_count_11 l D hL hI) hPL rfl hhd gL_isSo_X5_count rfl (by decide +kernel) ⟨Nat.le_of_ble_eq_true rfl, Nat.le_of_ble_eq_true rfl⟩ rfl hl.1 (Nat.le_of_ble_eq_true rfl) dL_isSo_876 ⟨Nat.zero_le _, Nat.zero_le _⟩ rfl ?_
                                  refine j_zne (tgt := 935) hx hb (by decide) dL_isSo_879 (by decide) (fun h => absurd h (by decide)) (fun _ => ?_)
                                  refine lv_aload_n hx hb dL_isSo_882 rfl (lv_at hl 5 rfl) ?_
                                  refine lv_aload_n hx hb dL_isSo_883 rfl (lv_at hl 6 rfl) ?_
                                  refine j_c hx hb dL_isSo_884 ?_
                                  refine Gld hx hb hK hP (0) (by omega) (by omega) dL_isSo_885 ?_
                                  have r40 : bd (m 0) := hbd 0
                                  refine j_c hx hb dL_isSo_886 ?_
                                  refine p_callV (v := .int (iI ((-1)))) (ci := 5) (n := 2) (As := [.int (iI (m 0)), .int (iI (0))]) (rest := []) ⟨hx, hb, hml, hown, hts⟩ hK2 (an_villager_no l D hL hI) hPL rfl hhd gL_isSo_X5_villager rfl (by decide +kernel) ⟨Nat.le_of_ble_eq_true rfl, Nat.le_of_ble_eq_true rfl⟩ rfl hl.1 (Nat.le_of_ble_eq_true rfl) dL_isSo_887 ⟨Nat.zero_le _, Nat.zero_le _⟩ rfl ?_
                                  refine j_c hx hb dL_isSo_890 ?_
                                  refine j_ine (tgt := 935) hx hb (by omega) (by omega) dL_isSo_891 (by decide) (fun c41 => absurd c41 (by decide)) (fun c41 => ?_)
                                  refine lv_aload_n hx hb dL_isSo_894 rfl (lv_at hl 5 rfl) ?_
                                  refine lv_aload_n hx hb dL_isSo_895 rfl (lv_at hl 6 rfl) ?_
                                  refine j_c hx hb dL_isSo_896 ?_
                                  refine Gld hx hb hK hP (3) (by omega) (by omega) dL_isSo_897 ?_
                                  have r42 : bd (m 3) := hbd 3
                                  refine j_c hx hb dL_isSo_898 ?_
                                  refine p_callV (v := .int (iI ((-1)))) (ci := 5) (n := 2) (As := [.int (iI (m 3)), .int (iI (0))]) (rest := []) ⟨hx, hb, hml, hown, hts⟩ hK2 (an_entry_no l D hL hI) hPL rfl hhd gL_isSo_X5_entry rfl (by decide +kernel) ⟨Nat.le_of_ble_eq_true rfl, Nat.le_of_ble_eq_true rfl⟩ rfl hl.1 (Nat.le_of_ble_eq_true rfl) dL_isSo_899 ⟨Nat.zero_le _, Nat.zero_le _⟩ rfl ?_
                                  refine j_c hx hb dL_isSo_902 ?_
                                  refine j_ine (tgt := 935) hx hb (by omega) (by omega) dL_isSo_903 (by decide) (fun c43 => absurd c43 (by decide)) (fun c43 => ?_)
                                  refine lv_aload_n hx hb dL_isSo_906 rfl (lv_at hl 5 rfl) ?_
                                  refine lv_aload_n hx hb dL_isSo_907 rfl (lv_at hl 6 rfl) ?_
                                  refine j_bi hx hb dL_isSo_908 rfl ?_
                                  refine Gld hx hb hK hP (7) (by omega) (by omega) dL_isSo_910 ?_
                                  have r44 : bd (m 7) := hbd 7
                                  refine j_c hx hb dL_isSo_911 ?_
                                  refine p_callV (v := .int (iI ((-1)))) (ci := 5) (n := 2) (As := [.int (iI (m 7)), .int (iI (0))]) (rest := []) ⟨hx, hb, hml, hown, hts⟩ hK2 (an_draw_no l D hL hI) hPL rfl hhd gL_isSo_X5_draw rfl (by decide +kernel) ⟨Nat.le_of_ble_eq_true rfl, Nat.le_of_ble_eq_true rfl⟩ rfl hl.1 (Nat.le_of_ble_eq_true rfl) dL_isSo_912 ⟨Nat.zero_le _, Nat.zero_le _⟩ rfl ?_
                                  refine j_c hx hb dL_isSo_915 ?_
                                  refine j_ine (tgt := 935) hx hb (by omega) (by omega) dL_isSo_916 (by decide) (fun c45 => absurd c45 (by decide)) (fun c45 => ?_)
                                  refine lv_aload_n hx hb dL_isSo_919 rfl (lv_at hl 5 rfl) ?_
                                  refine j_c hx hb dL_isSo_920 ?_
                                  refine lv_aload_n hx hb dL_isSo_921 rfl (lv_at hl 6 rfl) ?_
                                  refine j_c hx hb dL_isSo_922 ?_
                                  refine Gld hx hb hK hP (1) (by omega) (by omega) dL_isSo_923 ?_
                                  have r46 : bd (m 1) := hbd 1
                                  refine p_callV (v := .int (iI ((-1)))) (ci := 5) (n := 2) (As := [.int (iI (0)), .int (iI (m 1))]) (rest := []) ⟨hx, hb, hml, hown, hts⟩ hK2 (an_elder_no l D hL hI) hPL rfl hhd gL_isSo_X5_elder rfl (by decide +kernel) ⟨Nat.le_of_ble_eq_true rfl, Nat.le_of_ble_eq_true rfl⟩ rfl hl.1 (Nat.le_of_ble_eq_true rfl) dL_isSo_924 ⟨Nat.zero_le _, Nat.zero_le _⟩ rfl ?_
                                  refine j_c hx hb dL_isSo_927 ?_
                                  refine j_ine (tgt := 935) hx hb (by omega) (by omega) dL_isSo_928 (by decide) (fun c47 => absurd c47 (by decide)) (fun c47 => ?_)
                                  refine j_c hx hb dL_isSo_931 ?_
                                  refine lv_goto (tgt := 936) hx hb dL_isSo_932 (by decide) ?_
                                  exact p_zret hx hb hr hlocks (by first | decide | exact b2i_or) (by rfl) dL_isSo_936
                                · refine j_c hx hb dL_isSo_730 ?_
                                  refine lv_goto (tgt := 735) hx hb dL_isSo_731 (by decide) ?_
                                  refine j_add hx hb dL_isSo_735 ?_
                                  refine j_ine (tgt := 743) hx hb (by omega) (by omega) dL_isSo_736 (by decide) (fun c48 => absurd c48 (by omega)) (fun c48 => ?_)
                                  refine j_c hx hb dL_isSo_739 ?_
                                  refine lv_goto (tgt := 744) hx hb dL_isSo_740 (by decide) ?_
                                  refine lv_istore (lv' := [(7, .int (iI (1))), (9, .int (iI ((k5 : Int)))), (8, .int (iI (x8))), (6, .int (iI (x6))), (5, .int (iI (x5))), (0, .ref (g 0)), (1, .ref (ga)), (2, .ref (va)), (3, .ref (ea)), (4, .ref (da))]) hx hb dL_isSo_744 hl (by decide) rfl (fun ls hl => ?_)
                                  refine lv_iload hx hb dL_isSo_746 (lv_at hl 0 rfl) ?_
                                  refine j_zeq (tgt := 935) hx hb (by decide) dL_isSo_748 (by decide) (fun h => absurd h (by decide)) (fun _ => ?_)
                                  refine lv_aload_n hx hb dL_isSo_751 rfl (lv_at hl 5 rfl) ?_
                                  refine j_c hx hb dL_isSo_752 ?_
                                  refine p_callV (v := .int (iI (m 0))) (ci := 5) (n := 1) (As := [.int (iI (0))]) (rest := []) ⟨hx, hb, hml, hown, hts⟩ hK2 (an_count_0 l D hL hI) hPL rfl hhd gL_isSo_X5_count rfl (by decide +kernel) ⟨Nat.le_of_ble_eq_true rfl, Nat.le_of_ble_eq_true rfl⟩ rfl hl.1 (Nat.le_of_ble_eq_true rfl) dL_isSo_753 ⟨Nat.zero_le _, Nat.zero_le _⟩ rfl ?_
                                  refine lv_aload_n hx hb dL_isSo_756 rfl (lv_at hl 6 rfl) ?_
                                  refine j_c hx hb dL_isSo_757 ?_
                                  refine Gld hx hb hK hP (0) (by omega) (by omega) dL_isSo_758 ?_
                                  have r50 : bd (m 0) := hbd 0
                                  refine j_ine (tgt := 935) hx hb (by omega) (by omega) dL_isSo_759 (by decide) (fun c51 => absurd c51 (by omega)) (fun c51 => ?_)
                                  refine lv_aload_n hx hb dL_isSo_762 rfl (lv_at hl 5 rfl) ?_
                                  refine j_c hx hb dL_isSo_763 ?_
                                  refine p_callV (v := .int (iI (sm (fun i => m (8 + i)) (m 0).toNat))) (ci := 5) (n := 1) (As := [.int (iI (1))]) (rest := []) ⟨hx, hb, hml, hown, hts⟩ hK2 (an_count_1 l D hL hI) hPL rfl hhd gL_isSo_X5_count rfl (by decide +kernel) ⟨Nat.le_of_ble_eq_true rfl, Nat.le_of_ble_eq_true rfl⟩ rfl hl.1 (Nat.le_of_ble_eq_true rfl) dL_isSo_764 ⟨Nat.zero_le _, Nat.zero_le _⟩ rfl ?_
                                  have pr1 := sm_pres hI (m 0).toNat (by omega)
                                  refine lv_iload hx hb dL_isSo_767 (lv_at hl 4 rfl) ?_
                                  refine j_ine (tgt := 935) hx hb (by omega) (by omega) dL_isSo_769 (by decide) (fun c52 => absurd c52 (by omega)) (fun c52 => ?_)
                                  refine lv_aload_n hx hb dL_isSo_772 rfl (lv_at hl 5 rfl) ?_
                                  refine j_c hx hb dL_isSo_773 ?_
                                  refine p_callV (v := .int (iI (m 1))) (ci := 5) (n := 1) (As := [.int (iI (2))]) (rest := []) ⟨hx, hb, hml, hown, hts⟩ hK2 (an_count_2 l D hL hI) hPL rfl hhd gL_isSo_X5_count rfl (by decide +kernel) ⟨Nat.le_of_ble_eq_true rfl, Nat.le_of_ble_eq_true rfl⟩ rfl hl.1 (Nat.le_of_ble_eq_true rfl) dL_isSo_774 ⟨Nat.zero_le _, Nat.zero_le _⟩ rfl ?_
                                  refine lv_aload_n hx hb dL_isSo_777 rfl (lv_at hl 6 rfl) ?_
                                  refine j_c hx hb dL_isSo_778 ?_
                                  refine Gld hx hb hK hP (1) (by omega) (by omega) dL_isSo_779 ?_
                                  have r53 : bd (m 1) := hbd 1
                                  refine j_ine (tgt := 935) hx hb (by omega) (by omega) dL_isSo_780 (by decide) (fun c54 => absurd c54 (by omega)) (fun c54 => ?_)
                                  refine lv_aload_n hx hb dL_isSo_783 rfl (lv_at hl 5 rfl) ?_
                                  refine j_c hx hb dL_isSo_784 ?_
                                  refine p_callV (v := .int (iI (m 2))) (ci := 5) (n := 1) (As := [.int (iI (3))]) (rest := []) ⟨hx, hb, hml, hown, hts⟩ hK2 (an_count_3 l D hL hI) hPL rfl hhd gL_isSo_X5_count rfl (by decide +kernel) ⟨Nat.le_of_ble_eq_true rfl, Nat.le_of_ble_eq_true rfl⟩ rfl hl.1 (Nat.le_of_ble_eq_true rfl) dL_isSo_785 ⟨Nat.zero_le _, Nat.zero_le _⟩ rfl ?_
                                  refine lv_aload_n hx hb dL_isSo_788 rfl (lv_at hl 6 rfl) ?_
                                  refine j_c hx hb dL_isSo_789 ?_
                                  refine Gld hx hb hK hP (2) (by omega) (by omega) dL_isSo_790 ?_
                                  have r55 : bd (m 2) := hbd 2
                                  refine j_ine (tgt := 935) hx hb (by omega) (by omega) dL_isSo_791 (by decide) (fun c56 => absurd c56 (by omega)) (fun c56 => ?_)
                                  refine lv_aload_n hx hb dL_isSo_794 rfl (lv_at hl 5 rfl) ?_
                                  refine j_c hx hb dL_isSo_795 ?_
                                  refine p_callV (v := .int (iI (m 3))) (ci := 5) (n := 1) (As := [.int (iI (4))]) (rest := []) ⟨hx, hb, hml, hown, hts⟩ hK2 (an_count_4 l D hL hI) hPL rfl hhd gL_isSo_X5_count rfl (by decide +kernel) ⟨Nat.le_of_ble_eq_true rfl, Nat.le_of_ble_eq_true rfl⟩ rfl hl.1 (Nat.le_of_ble_eq_true rfl) dL_isSo_796 ⟨Nat.zero_le _, Nat.zero_le _⟩ rfl ?_
                                  refine lv_aload_n hx hb dL_isSo_799 rfl (lv_at hl 6 rfl) ?_
                                  refine j_c hx hb dL_isSo_800 ?_
                                  refine Gld hx hb hK hP (3) (by omega) (by omega) dL_isSo_801 ?_
                                  have r57 : bd (m 3) := hbd 3
                                  refine j_ine (tgt := 935) hx hb (by omega) (by omega) dL_isSo_802 (by decide) (fun c58 => absurd c58 (by omega)) (fun c58 => ?_)
                                  refine lv_aload_n hx hb dL_isSo_805 rfl (lv_at hl 5 rfl) ?_
                                  refine j_c hx hb dL_isSo_806 ?_
                                  refine p_callV (v := .int (iI (m 4))) (ci := 5) (n := 1) (As := [.int (iI (5))]) (rest := []) ⟨hx, hb, hml, hown, hts⟩ hK2 (an_count_5 l D hL hI) hPL rfl hhd gL_isSo_X5_count rfl (by decide +kernel) ⟨Nat.le_of_ble_eq_true rfl, Nat.le_of_ble_eq_true rfl⟩ rfl hl.1 (Nat.le_of_ble_eq_true rfl) dL_isSo_807 ⟨Nat.zero_le _, Nat.zero_le _⟩ rfl ?_
                                  refine lv_aload_n hx hb dL_isSo_810 rfl (lv_at hl 6 rfl) ?_
                                  refine j_c hx hb dL_isSo_811 ?_
                                  refine Gld hx hb hK hP (4) (by omega) (by omega) dL_isSo_812 ?_
                                  have r59 : bd (m 4) := hbd 4
                                  refine j_ine (tgt := 935) hx hb (by omega) (by omega) dL_isSo_813 (by decide) (fun c60 => absurd c60 (by omega)) (fun c60 => ?_)
                                  refine lv_aload_n hx hb dL_isSo_816 rfl (lv_at hl 5 rfl) ?_
                                  refine j_bi hx hb dL_isSo_817 rfl ?_
                                  refine p_callV (v := .int (iI (if m 5 ≠ -9 then 1 else 0))) (ci := 5) (n := 1) (As := [.int (iI (6))]) (rest := []) ⟨hx, hb, hml, hown, hts⟩ hK2 (an_count_6 l D hL hI) hPL rfl hhd gL_isSo_X5_count rfl (by decide +kernel) ⟨Nat.le_of_ble_eq_true rfl, Nat.le_of_ble_eq_true rfl⟩ rfl hl.1 (Nat.le_of_ble_eq_true rfl) dL_isSo_819 ⟨Nat.zero_le _, Nat.zero_le _⟩ rfl ?_
                                  have if6 : (if m 5 ≠ -9 then (1 : Int) else 0) = 0 ∨ (if m 5 ≠ -9 then (1 : Int) else 0) = 1 := by split <;> omega
                                  refine lv_aload_n hx hb dL_isSo_822 rfl (lv_at hl 6 rfl) ?_
                                  refine j_c hx hb dL_isSo_823 ?_
                                  refine Gld hx hb hK hP (5) (by omega) (by omega) dL_isSo_824 ?_
                                  have r61 : bd (m 5) := hbd 5
                                  refine j_zge (tgt := 832) hx hb (by omega) dL_isSo_825 (by decide) (fun c62 => absurd c62 (by omega)) (fun c62 => ?_)
                                  refine j_c hx hb dL_isSo_828 ?_
                                  refine lv_goto (tgt := 833) hx hb dL_isSo_829 (by decide) ?_
                                  refine j_ine (tgt := 935) hx hb (by omega) (by omega) dL_isSo_833 (by decide) (fun c63 => absurd c63 (by first | (rw [if_pos (by omega)]; omega) | (rw [if_neg (by omega)]; omega))) (fun c63 => ?_)
                                  refine lv_aload_n hx hb dL_isSo_836 rfl (lv_at hl 5 rfl) ?_
                                  refine j_bi hx hb dL_isSo_837 rfl ?_
                                  refine p_callV (v := .int (iI (m 6))) (ci := 5) (n := 1) (As := [.int (iI (7))]) (rest := []) ⟨hx, hb, hml, hown, hts⟩ hK2 (an_count_7 l D hL hI) hPL rfl hhd gL_isSo_X5_count rfl (by decide +kernel) ⟨Nat.le_of_ble_eq_true rfl, Nat.le_of_ble_eq_true rfl⟩ rfl hl.1 (Nat.le_of_ble_eq_true rfl) dL_isSo_839 ⟨Nat.zero_le _, Nat.zero_le _⟩ rfl ?_
                                  refine lv_aload_n hx hb dL_isSo_842 rfl (lv_at hl 6 rfl) ?_
                                  refine j_bi hx hb dL_isSo_843 rfl ?_
                                  refine Gld hx hb hK hP (6) (by omega) (by omega) dL_isSo_845 ?_
                                  have r64 : bd (m 6) := hbd 6
                                  refine j_ine (tgt := 935) hx hb (by omega) (by omega) dL_isSo_846 (by decide) (fun c65 => absurd c65 (by omega)) (fun c65 => ?_)
                                  refine lv_aload_n hx hb dL_isSo_849 rfl (lv_at hl 5 rfl) ?_
                                  refine j_bi hx hb dL_isSo_850 rfl ?_
                                  refine p_callV (v := .int (iI (m 7))) (ci := 5) (n := 1) (As := [.int (iI (8))]) (rest := []) ⟨hx, hb, hml, hown, hts⟩ hK2 (an_count_8 l D hL hI) hPL rfl hhd gL_isSo_X5_count rfl (by decide +kernel) ⟨Nat.le_of_ble_eq_true rfl, Nat.le_of_ble_eq_true rfl⟩ rfl hl.1 (Nat.le_of_ble_eq_true rfl) dL_isSo_852 ⟨Nat.zero_le _, Nat.zero_le _⟩ rfl ?_
                                  refine lv_aload_n hx hb dL_isSo_855 rfl (lv_at hl 6 rfl) ?_
                                  refine j_bi hx hb dL_isSo_856 rfl ?_
                                  refine Gld hx hb hK hP (7) (by omega) (by omega) dL_isSo_858 ?_
                                  have r66 : bd (m 7) := hbd 7
                                  refine j_ine (tgt := 935) hx hb (by omega) (by omega) dL_isSo_859 (by decide) (fun c67 => absurd c67 (by omega)) (fun c67 => ?_)
                                  refine lv_aload_n hx hb dL_isSo_862 rfl (lv_at hl 5 rfl) ?_
                                  refine j_bi hx hb dL_isSo_863 rfl ?_
                                  refine p_callV (v := .int (iI (sm (fun i => b2i (m (224 + 5 * i) ≠ m (225 + 5 * i))) (m 7).toNat))) (ci := 5) (n := 1) (As := [.int (iI (9))]) (rest := []) ⟨hx, hb, hml, hown, hts⟩ hK2 (an_count_9 l D hL hI) hPL rfl hhd gL_isSo_X5_count rfl (by decide +kernel) ⟨Nat.le_of_ble_eq_true rfl, Nat.le_of_ble_eq_true rfl⟩ rfl hl.1 (Nat.le_of_ble_eq_true rfl) dL_isSo_865 ⟨Nat.zero_le _, Nat.zero_le _⟩ rfl ?_
                                  have fo9 := sm_rg (f := fun i => b2i (m (224 + 5 * i) ≠ m (225 + 5 * i))) (fun k => b2i_rg) (m 7).toNat
                                  refine lv_iload hx hb dL_isSo_868 (lv_at hl 3 rfl) ?_
                                  refine j_ine (tgt := 935) hx hb (by omega) (by omega) dL_isSo_870 (by decide) (fun c68 => absurd c68 (by omega)) (fun c68 => ?_)
                                  refine lv_aload_n hx hb dL_isSo_873 rfl (lv_at hl 5 rfl) ?_
                                  refine j_bi hx hb dL_isSo_874 rfl ?_
                                  refine p_callV (v := .int (iI (0))) (ci := 5) (n := 1) (As := [.int (iI (11))]) (rest := []) ⟨hx, hb, hml, hown, hts⟩ hK2 (an_count_11 l D hL hI) hPL rfl hhd gL_isSo_X5_count rfl (by decide +kernel) ⟨Nat.le_of_ble_eq_true rfl, Nat.le_of_ble_eq_true rfl⟩ rfl hl.1 (Nat.le_of_ble_eq_true rfl) dL_isSo_876 ⟨Nat.zero_le _, Nat.zero_le _⟩ rfl ?_
                                  refine j_zne (tgt := 935) hx hb (by decide) dL_isSo_879 (by decide) (fun h => absurd h (by decide)) (fun _ => ?_)
                                  refine lv_aload_n hx hb dL_isSo_882 rfl (lv_at hl 5 rfl) ?_
                                  refine lv_aload_n hx hb dL_isSo_883 rfl (lv_at hl 6 rfl) ?_
                                  refine j_c hx hb dL_isSo_884 ?_
                                  refine Gld hx hb hK hP (0) (by omega) (by omega) dL_isSo_885 ?_
                                  have r70 : bd (m 0) := hbd 0
                                  refine j_c hx hb dL_isSo_886 ?_
                                  refine p_callV (v := .int (iI ((-1)))) (ci := 5) (n := 2) (As := [.int (iI (m 0)), .int (iI (0))]) (rest := []) ⟨hx, hb, hml, hown, hts⟩ hK2 (an_villager_no l D hL hI) hPL rfl hhd gL_isSo_X5_villager rfl (by decide +kernel) ⟨Nat.le_of_ble_eq_true rfl, Nat.le_of_ble_eq_true rfl⟩ rfl hl.1 (Nat.le_of_ble_eq_true rfl) dL_isSo_887 ⟨Nat.zero_le _, Nat.zero_le _⟩ rfl ?_
                                  refine j_c hx hb dL_isSo_890 ?_
                                  refine j_ine (tgt := 935) hx hb (by omega) (by omega) dL_isSo_891 (by decide) (fun c71 => absurd c71 (by decide)) (fun c71 => ?_)
                                  refine lv_aload_n hx hb dL_isSo_894 rfl (lv_at hl 5 rfl) ?_
                                  refine lv_aload_n hx hb dL_isSo_895 rfl (lv_at hl 6 rfl) ?_
                                  refine j_c hx hb dL_isSo_896 ?_
                                  refine Gld hx hb hK hP (3) (by omega) (by omega) dL_isSo_897 ?_
                                  have r72 : bd (m 3) := hbd 3
                                  refine j_c hx hb dL_isSo_898 ?_
                                  refine p_callV (v := .int (iI ((-1)))) (ci := 5) (n := 2) (As := [.int (iI (m 3)), .int (iI (0))]) (rest := []) ⟨hx, hb, hml, hown, hts⟩ hK2 (an_entry_no l D hL hI) hPL rfl hhd gL_isSo_X5_entry rfl (by decide +kernel) ⟨Nat.le_of_ble_eq_true rfl, Nat.le_of_ble_eq_true rfl⟩ rfl hl.1 (Nat.le_of_ble_eq_true rfl) dL_isSo_899 ⟨Nat.zero_le _, Nat.zero_le _⟩ rfl ?_
                                  refine j_c hx hb dL_isSo_902 ?_
                                  refine j_ine (tgt := 935) hx hb (by omega) (by omega) dL_isSo_903 (by decide) (fun c73 => absurd c73 (by decide)) (fun c73 => ?_)
                                  refine lv_aload_n hx hb dL_isSo_906 rfl (lv_at hl 5 rfl) ?_
                                  refine lv_aload_n hx hb dL_isSo_907 rfl (lv_at hl 6 rfl) ?_
                                  refine j_bi hx hb dL_isSo_908 rfl ?_
                                  refine Gld hx hb hK hP (7) (by omega) (by omega) dL_isSo_910 ?_
                                  have r74 : bd (m 7) := hbd 7
                                  refine j_c hx hb dL_isSo_911 ?_
                                  refine p_callV (v := .int (iI ((-1)))) (ci := 5) (n := 2) (As := [.int (iI (m 7)), .int (iI (0))]) (rest := []) ⟨hx, hb, hml, hown, hts⟩ hK2 (an_draw_no l D hL hI) hPL rfl hhd gL_isSo_X5_draw rfl (by decide +kernel) ⟨Nat.le_of_ble_eq_true rfl, Nat.le_of_ble_eq_true rfl⟩ rfl hl.1 (Nat.le_of_ble_eq_true rfl) dL_isSo_912 ⟨Nat.zero_le _, Nat.zero_le _⟩ rfl ?_
                                  refine j_c hx hb dL_isSo_915 ?_
                                  refine j_ine (tgt := 935) hx hb (by omega) (by omega) dL_isSo_916 (by decide) (fun c75 => absurd c75 (by decide)) (fun c75 => ?_)
                                  refine lv_aload_n hx hb dL_isSo_919 rfl (lv_at hl 5 rfl) ?_
                                  refine j_c hx hb dL_isSo_920 ?_
                                  refine lv_aload_n hx hb dL_isSo_921 rfl (lv_at hl 6 rfl) ?_
                                  refine j_c hx hb dL_isSo_922 ?_
                                  refine Gld hx hb hK hP (1) (by omega) (by omega) dL_isSo_923 ?_
                                  have r76 : bd (m 1) := hbd 1
                                  refine p_callV (v := .int (iI ((-1)))) (ci := 5) (n := 2) (As := [.int (iI (0)), .int (iI (m 1))]) (rest := []) ⟨hx, hb, hml, hown, hts⟩ hK2 (an_elder_no l D hL hI) hPL rfl hhd gL_isSo_X5_elder rfl (by decide +kernel) ⟨Nat.le_of_ble_eq_true rfl, Nat.le_of_ble_eq_true rfl⟩ rfl hl.1 (Nat.le_of_ble_eq_true rfl) dL_isSo_924 ⟨Nat.zero_le _, Nat.zero_le _⟩ rfl ?_
                                  refine j_c hx hb dL_isSo_927 ?_
                                  refine j_ine (tgt := 935) hx hb (by omega) (by omega) dL_isSo_928 (by decide) (fun c77 => absurd c77 (by decide)) (fun c77 => ?_)
                                  refine j_c hx hb dL_isSo_931 ?_
                                  refine lv_goto (tgt := 936) hx hb dL_isSo_932 (by decide) ?_
                                  exact p_zret hx hb hr hlocks (by first | decide | exact b2i_or) (by rfl) dL_isSo_936
                              · have hEk := hE k5 (by omega)
                                have hek := hev k5 (by omega)
                                unfold eE at hek
                                refine lv_iload hx hb dL_isSo_675 (lv_at hl 1 rfl) ?_
                                refine lv_aload_n hx hb dL_isSo_677 rfl (lv_at hl 8 rfl) ?_
                                refine lv_iload hx hb dL_isSo_678 (lv_at hl 0 rfl) ?_
                                refine Ala hx hb hK hP 2 (j := k5) (f := ev) rfl (by omega) (by omega) (by omega) dL_isSo_680 ?_
                                refine j_ldc2 (n := 1023) hx hb hown (hts (.constantLong RL 101 1023) (by decide +kernel)) rfl dL_isSo_681 ?_
                                refine j_land (q := 1024) (s' := 10) (P := 1024) hx hb (by omega) (by decide) (by decide) (by decide) (by decide) (by decide) dL_isSo_684 ?_
                                refine lv_lconst (v := lI 0) hx hb dL_isSo_685 rfl ?_
                                refine j_lcne (tgt := 694) hx hb (by omega) (by omega) dL_isSo_686 dL_isSo_687 (by decide) (fun c78 => ?_) (fun c78 => ?_)
                                · refine j_c hx hb dL_isSo_694 ?_
                                  refine j_add hx hb dL_isSo_695 ?_
                                  refine lv_istore (lv' := [(8, .int (iI (x8 + 0))), (9, .int (iI ((k5 : Int)))), (7, .int (iI (x7))), (6, .int (iI (x6))), (5, .int (iI (x5))), (0, .ref (g 0)), (1, .ref (ga)), (2, .ref (va)), (3, .ref (ea)), (4, .ref (da))]) hx hb dL_isSo_696 hl (by decide) rfl (fun ls hl => ?_)
                                  refine lv_iinc (v := iI ((k5 : Int) + 1)) (lv' := [(9, .int (iI ((k5 : Int) + 1))), (8, .int (iI (x8 + 0))), (7, .int (iI (x7))), (6, .int (iI (x6))), (5, .int (iI (x5))), (0, .ref (g 0)), (1, .ref (ga)), (2, .ref (va)), (3, .ref (ea)), (4, .ref (da))]) hx hb dL_isSo_698 hl (k := 1) rfl (iI_add _ _) (by decide) rfl (fun ls hl => ?_)
                                  refine lv_goto (tgt := 667) hx hb dL_isSo_701 (by decide) ?_
                                  exact ih667 (k5 + 1) (x8 + 0) (by simp only [sm]; first | rw [b2i_t (by omega), ← ex8] | rw [b2i_f (by omega), ← ex8]) (by omega) (by omega) ls (lv_sub hl [0, 1, 2, 3, 4, 5, 6, 7, 8, 9] rfl)
                                · refine j_c hx hb dL_isSo_690 ?_
                                  refine lv_goto (tgt := 695) hx hb dL_isSo_691 (by decide) ?_
                                  refine j_add hx hb dL_isSo_695 ?_
                                  refine lv_istore (lv' := [(8, .int (iI (x8 + 1))), (9, .int (iI ((k5 : Int)))), (7, .int (iI (x7))), (6, .int (iI (x6))), (5, .int (iI (x5))), (0, .ref (g 0)), (1, .ref (ga)), (2, .ref (va)), (3, .ref (ea)), (4, .ref (da))]) hx hb dL_isSo_696 hl (by decide) rfl (fun ls hl => ?_)
                                  refine lv_iinc (v := iI ((k5 : Int) + 1)) (lv' := [(9, .int (iI ((k5 : Int) + 1))), (8, .int (iI (x8 + 1))), (7, .int (iI (x7))), (6, .int (iI (x6))), (5, .int (iI (x5))), (0, .ref (g 0)), (1, .ref (ga)), (2, .ref (va)), (3, .ref (ea)), (4, .ref (da))]) hx hb dL_isSo_698 hl (k := 1) rfl (iI_add _ _) (by decide) rfl (fun ls hl => ?_)
                                  refine lv_goto (tgt := 667) hx hb dL_isSo_701 (by decide) ?_
                                  exact ih667 (k5 + 1) (x8 + 1) (by simp only [sm]; first | rw [b2i_t (by omega), ← ex8] | rw [b2i_f (by omega), ← ex8]) (by omega) (by omega) ls (lv_sub hl [0, 1, 2, 3, 4, 5, 6, 7, 8, 9] rfl)
                          exact LP667 _ 0 0 (by rfl) (by omega) (Nat.lt_succ_self _) ls (lv_sub hl [0, 1, 2, 3, 4, 5, 6, 7, 8, 9] rfl)
                        · refine lv_iload hx hb dL_isSo_587 (lv_at hl 1 rfl) ?_
                          refine j_zeq (tgt := 661) hx hb (by omega) dL_isSo_589 (by decide) (fun c79 => absurd c79 (by omega)) (fun c79 => ?_)
                          refine lv_aload_n hx hb dL_isSo_592 rfl (lv_at hl 4 rfl) ?_
                          refine j_c hx hb dL_isSo_593 ?_
                          refine lv_iload hx hb dL_isSo_594 (lv_at hl 0 rfl) ?_
                          refine p_callV (v := .int (iI (m (32 + k4)))) (ci := 5) (n := 2) (As := [.int (iI (0)), .int (iI ((k4 : Int)))]) (rest := []) ⟨hx, hb, hml, hown, hts⟩ hK2 (an_elder_0 l D hL hI (k := k4) (by omega)) hPL rfl hhd gL_isSo_X5_elder rfl (by decide +kernel) ⟨Nat.le_of_ble_eq_true rfl, Nat.le_of_ble_eq_true rfl⟩ rfl hl.1 (Nat.le_of_ble_eq_true rfl) dL_isSo_596 ⟨Nat.zero_le _, Nat.zero_le _⟩ rfl ?_
                          have b80 := hbd (32 + k4)
                          refine lv_aload_n hx hb dL_isSo_599 rfl (lv_at hl 6 rfl) ?_
                          refine j_bi hx hb dL_isSo_600 rfl ?_
                          refine lv_iload hx hb dL_isSo_602 (lv_at hl 0 rfl) ?_
                          refine j_add hx hb dL_isSo_604 ?_
                          refine Vld hx hb hK hP (32 + k4) (by omega) (by omega) dL_isSo_605 ?_
                          have r83 : bd (m (32 + k4)) := hbd (32 + k4)
                          refine j_ine (tgt := 652) hx hb (by omega) (by omega) dL_isSo_606 (by decide) (fun c84 => absurd c84 (by omega)) (fun c84 => ?_)
                          refine lv_aload_n hx hb dL_isSo_609 rfl (lv_at hl 4 rfl) ?_
                          refine j_c hx hb dL_isSo_610 ?_
                          refine lv_iload hx hb dL_isSo_611 (lv_at hl 0 rfl) ?_
                          refine p_callV (v := .int (iI (if m 5 ≠ -9 then m (37 + k4) else -9))) (ci := 5) (n := 2) (As := [.int (iI (1)), .int (iI ((k4 : Int)))]) (rest := []) ⟨hx, hb, hml, hown, hts⟩ hK2 (an_elder_1 l D hL hI (k := k4) (by omega)) hPL rfl hhd gL_isSo_X5_elder rfl (by decide +kernel) ⟨Nat.le_of_ble_eq_true rfl, Nat.le_of_ble_eq_true rfl⟩ rfl hl.1 (Nat.le_of_ble_eq_true rfl) dL_isSo_613 ⟨Nat.zero_le _, Nat.zero_le _⟩ rfl ?_
                          have b86 := hbd (37 + k4)
                          have b87 : (if m 5 ≠ -9 then m (37 + k4) else (-9 : Int)) = m (37 + k4) ∨ (if m 5 ≠ -9 then m (37 + k4) else (-9 : Int)) = -9 := by split <;> simp
                          refine lv_aload_n hx hb dL_isSo_616 rfl (lv_at hl 5 rfl) ?_
                          refine j_c hx hb dL_isSo_617 ?_
                          refine Gld hx hb hK hP (5) (by omega) (by omega) dL_isSo_618 ?_
                          have r88 : bd (m 5) := hbd 5
                          refine j_zge (tgt := 627) hx hb (by omega) dL_isSo_619 (by decide) (fun c89 => ?_) (fun c89 => ?_)
                          · refine lv_aload_n hx hb dL_isSo_627 rfl (lv_at hl 6 rfl) ?_
                            refine j_bi hx hb dL_isSo_628 rfl ?_
                            refine lv_iload hx hb dL_isSo_630 (lv_at hl 0 rfl) ?_
                            refine j_add hx hb dL_isSo_632 ?_
                            refine Vld hx hb hK hP (37 + k4) (by omega) (by omega) dL_isSo_633 ?_
                            have r90 : bd (m (37 + k4)) := hbd (37 + k4)
                            refine j_ine (tgt := 652) hx hb (by omega) (by omega) dL_isSo_634 (by decide) (fun c91 => absurd c91 (by first | (rw [if_pos (by omega)]; omega) | (rw [if_neg (by omega)]; omega))) (fun c91 => ?_)
                            refine lv_aload_n hx hb dL_isSo_637 rfl (lv_at hl 4 rfl) ?_
                            refine j_c hx hb dL_isSo_638 ?_
                            refine lv_iload hx hb dL_isSo_639 (lv_at hl 0 rfl) ?_
                            refine p_callV (v := .int (iI ((-1)))) (ci := 5) (n := 2) (As := [.int (iI (2)), .int (iI ((k4 : Int)))]) (rest := []) ⟨hx, hb, hml, hown, hts⟩ hK2 (an_elder_2 l D hL hI (k := k4) (by omega)) hPL rfl hhd gL_isSo_X5_elder rfl (by decide +kernel) ⟨Nat.le_of_ble_eq_true rfl, Nat.le_of_ble_eq_true rfl⟩ rfl hl.1 (Nat.le_of_ble_eq_true rfl) dL_isSo_641 ⟨Nat.zero_le _, Nat.zero_le _⟩ rfl ?_
                            refine j_c hx hb dL_isSo_644 ?_
                            refine j_ine (tgt := 652) hx hb (by omega) (by omega) dL_isSo_645 (by decide) (fun c92 => absurd c92 (by decide)) (fun c92 => ?_)
                            refine j_c hx hb dL_isSo_648 ?_
                            refine lv_goto (tgt := 653) hx hb dL_isSo_649 (by decide) ?_
                            refine lv_istore (lv' := [(7, .int (iI (1))), (8, .int (iI ((k4 : Int)))), (6, .int (iI (x6))), (5, .int (iI (x5))), (0, .ref (g 0)), (1, .ref (ga)), (2, .ref (va)), (3, .ref (ea)), (4, .ref (da))]) hx hb dL_isSo_653 hl (by decide) rfl (fun ls hl => ?_)
                            refine lv_iinc (v := iI ((k4 : Int) + 1)) (lv' := [(8, .int (iI ((k4 : Int) + 1))), (7, .int (iI (1))), (6, .int (iI (x6))), (5, .int (iI (x5))), (0, .ref (g 0)), (1, .ref (ga)), (2, .ref (va)), (3, .ref (ea)), (4, .ref (da))]) hx hb dL_isSo_655 hl (k := 1) rfl (iI_add _ _) (by decide) rfl (fun ls hl => ?_)
                            refine lv_goto (tgt := 579) hx hb dL_isSo_658 (by decide) ?_
                            exact ih579 (k4 + 1) 1 (by rfl) (by omega) (by omega) ls (lv_sub hl [0, 1, 2, 3, 4, 5, 6, 7, 8] rfl)
                          · refine j_bi hx hb dL_isSo_622 rfl ?_
                            refine lv_goto (tgt := 634) hx hb dL_isSo_624 (by decide) ?_
                            refine j_ine (tgt := 652) hx hb (by omega) (by omega) dL_isSo_634 (by decide) (fun c93 => absurd c93 (by first | (rw [if_pos (by omega)]; omega) | (rw [if_neg (by omega)]; omega))) (fun c93 => ?_)
                            refine lv_aload_n hx hb dL_isSo_637 rfl (lv_at hl 4 rfl) ?_
                            refine j_c hx hb dL_isSo_638 ?_
                            refine lv_iload hx hb dL_isSo_639 (lv_at hl 0 rfl) ?_
                            refine p_callV (v := .int (iI ((-1)))) (ci := 5) (n := 2) (As := [.int (iI (2)), .int (iI ((k4 : Int)))]) (rest := []) ⟨hx, hb, hml, hown, hts⟩ hK2 (an_elder_2 l D hL hI (k := k4) (by omega)) hPL rfl hhd gL_isSo_X5_elder rfl (by decide +kernel) ⟨Nat.le_of_ble_eq_true rfl, Nat.le_of_ble_eq_true rfl⟩ rfl hl.1 (Nat.le_of_ble_eq_true rfl) dL_isSo_641 ⟨Nat.zero_le _, Nat.zero_le _⟩ rfl ?_
                            refine j_c hx hb dL_isSo_644 ?_
                            refine j_ine (tgt := 652) hx hb (by omega) (by omega) dL_isSo_645 (by decide) (fun c94 => absurd c94 (by decide)) (fun c94 => ?_)
                            refine j_c hx hb dL_isSo_648 ?_
                            refine lv_goto (tgt := 653) hx hb dL_isSo_649 (by decide) ?_
                            refine lv_istore (lv' := [(7, .int (iI (1))), (8, .int (iI ((k4 : Int)))), (6, .int (iI (x6))), (5, .int (iI (x5))), (0, .ref (g 0)), (1, .ref (ga)), (2, .ref (va)), (3, .ref (ea)), (4, .ref (da))]) hx hb dL_isSo_653 hl (by decide) rfl (fun ls hl => ?_)
                            refine lv_iinc (v := iI ((k4 : Int) + 1)) (lv' := [(8, .int (iI ((k4 : Int) + 1))), (7, .int (iI (1))), (6, .int (iI (x6))), (5, .int (iI (x5))), (0, .ref (g 0)), (1, .ref (ga)), (2, .ref (va)), (3, .ref (ea)), (4, .ref (da))]) hx hb dL_isSo_655 hl (k := 1) rfl (iI_add _ _) (by decide) rfl (fun ls hl => ?_)
                            refine lv_goto (tgt := 579) hx hb dL_isSo_658 (by decide) ?_
                            exact ih579 (k4 + 1) 1 (by rfl) (by omega) (by omega) ls (lv_sub hl [0, 1, 2, 3, 4, 5, 6, 7, 8] rfl)
                    exact LP579 _ 0 x7 (by exact ex7) (by omega) (Nat.lt_succ_self _) ls (lv_sub hl [0, 1, 2, 3, 4, 5, 6, 7, 8] rfl)
                  · refine lv_iload hx hb dL_isSo_370 (lv_at hl 1 rfl) ?_
                    refine j_zeq (tgt := 576) hx hb (by omega) dL_isSo_372 (by decide) (fun c95 => absurd c95 (by omega)) (fun c95 => ?_)
                    refine j_c hx hb dL_isSo_375 ?_
                    refine lv_istore (lv' := [(9, .int (iI (0))), (8, .int (iI ((k3 : Int)))), (7, .int (iI (x7))), (6, .int (iI (x6))), (5, .int (iI (x5))), (0, .ref (g 0)), (1, .ref (ga)), (2, .ref (va)), (3, .ref (ea)), (4, .ref (da))]) hx hb dL_isSo_376 hl (by decide) rfl (fun ls hl => ?_)
                    refine j_c hx hb dL_isSo_378 ?_
                    refine lv_istore (lv' := [(10, .int (iI (0))), (9, .int (iI (0))), (8, .int (iI ((k3 : Int)))), (7, .int (iI (x7))), (6, .int (iI (x6))), (5, .int (iI (x5))), (0, .ref (g 0)), (1, .ref (ga)), (2, .ref (va)), (3, .ref (ea)), (4, .ref (da))]) hx hb dL_isSo_379 hl (by decide) rfl (fun ls hl => ?_)
                    have LP381 : ∀ (fu : Nat) (j : Nat) (x9 : Int), x9 = sm (fun i => b2i ((k3 : Int) < m (20 + i))) j → ((j : Int) ≤ m 0) → (m 0).toNat - j < fu → ∀ ls : Array Slot, lv_has ls 12 [(10, .int (iI ((j : Int)))), (9, .int (iI (x9))), (8, .int (iI ((k3 : Int)))), (7, .int (iI (x7))), (6, .int (iI (x6))), (5, .int (iI (x5))), (0, .ref (g 0)), (1, .ref (ga)), (2, .ref (va)), (3, .ref (ea)), (4, .ref (da))] → W p l e (headSpec wsL_isSo (rmK 5 113)).room s0 mi ([.ref (g 0), .ref (ga), .ref (va), .ref (ea), .ref (da)] : List Value).toArray below meth c s0.heap [] 0 0 (MQ below (pQ (some (.int (iI (1))))) ([.ref (g 0), .ref (ga), .ref (va), .ref (ea), .ref (da)] : List Value).toArray s0 0 0 (fun _ => False)) (F0 mi 381 ls []) := by
                      intro fu
                      induction fu with
                      | zero =>
                        intros
                        omega
                      | succ fu ih381 =>
                        intro j x9 ex9 hinv hmeas ls hl
                        have sr9 := sm_rg (f := fun i => b2i ((k3 : Int) < m (20 + i))) (fun k => b2i_rg) j
                        refine lv_iload hx hb dL_isSo_381 (lv_at hl 0 rfl) ?_
                        refine lv_aload_n hx hb dL_isSo_383 rfl (lv_at hl 7 rfl) ?_
                        refine j_c hx hb dL_isSo_384 ?_
                        refine Gld hx hb hK hP (0) (by omega) (by omega) dL_isSo_385 ?_
                        have r96 : bd (m 0) := hbd 0
                        refine j_ige (tgt := 417) hx hb (by omega) (by omega) dL_isSo_386 (by decide) (fun c97 => ?_) (fun c97 => ?_)
                        · have ex9 : x9 = sm (fun i => b2i ((k3 : Int) < m (20 + i))) (m 0).toNat := by
                            rw [ex9]
                            congr 1
                            omega
                          have hEk := hE k3 (by omega)
                          have hek := hev k3 (by omega)
                          unfold eE at hek
                          refine lv_aload_n hx hb dL_isSo_417 rfl (lv_at hl 7 rfl) ?_
                          refine lv_aload_n hx hb dL_isSo_418 rfl (lv_at hl 8 rfl) ?_
                          refine j_bi hx hb dL_isSo_419 rfl ?_
                          refine lv_iload hx hb dL_isSo_421 (lv_at hl 2 rfl) ?_
                          refine pl_callS (v := .int (iI (sm (fun i => b2i ((k3 : Int) < m (20 + (m (32 + i)).toNat))) (m 1).toNat))) (n := 4) (w := lw2 cI ga va m (ed2 cL ea da ev dv wL)) (As := [.ref (ga), .ref (va), .int (iI (24)), .int (iI ((k3 : Int)))]) (rest := []) ⟨hx, hb, hml, hown, hts⟩ hK (kL_have l D cI cV cL ga va (ed2 cL ea da ev dv wL) m hbd ⟨k1, k15⟩ 24 32 (k3 : Int) (by decide) (by decide) (by omega) (fun i hi => ho i (by omega))) hP gL_isSo_L_have rfl (by decide +kernel) ⟨Nat.le_of_ble_eq_true rfl, Nat.le_of_ble_eq_true rfl⟩ rfl hl.1 (Nat.le_of_ble_eq_true rfl) dL_isSo_423 ⟨Nat.zero_le _, Nat.zero_le _⟩ rfl ?_
                          have sm98 := sm_rg (f := (fun i => b2i ((k3 : Int) < m (20 + (m (32 + i)).toNat)))) (fun k => b2i_rg) (m 1).toNat
                          refine lv_istore (lv' := [(10, .int (iI (sm (fun i => b2i ((k3 : Int) < m (20 + (m (32 + i)).toNat))) (m 1).toNat))), (9, .int (iI (x9))), (8, .int (iI ((k3 : Int)))), (7, .int (iI (x7))), (6, .int (iI (x6))), (5, .int (iI (x5))), (0, .ref (g 0)), (1, .ref (ga)), (2, .ref (va)), (3, .ref (ea)), (4, .ref (da))]) hx hb dL_isSo_426 hl (by decide) rfl (fun ls hl => ?_)
                          refine lv_aload_n hx hb dL_isSo_428 rfl (lv_at hl 6 rfl) ?_
                          refine lv_iload hx hb dL_isSo_429 (lv_at hl 2 rfl) ?_
                          refine j_c hx hb dL_isSo_431 ?_
                          refine p_callV (v := .int (iI (m (42 + 3 * k3)))) (ci := 5) (n := 2) (As := [.int (iI ((k3 : Int))), .int (iI (0))]) (rest := []) ⟨hx, hb, hml, hown, hts⟩ hK2 (an_entry_0 l D hL hI (k := k3) (by omega)) hPL rfl hhd gL_isSo_X5_entry rfl (by decide +kernel) ⟨Nat.le_of_ble_eq_true rfl, Nat.le_of_ble_eq_true rfl⟩ rfl hl.1 (Nat.le_of_ble_eq_true rfl) dL_isSo_432 ⟨Nat.zero_le _, Nat.zero_le _⟩ rfl ?_
                          refine j_i2l hx hb (by omega) dL_isSo_435 ?_
                          refine lv_aload_n hx hb dL_isSo_436 rfl (lv_at hl 9 rfl) ?_
                          refine lv_iload hx hb dL_isSo_437 (lv_at hl 2 rfl) ?_
                          refine Ala hx hb hK hP 2 (j := k3) (f := ev) rfl (by omega) (by omega) (by omega) dL_isSo_439 ?_
                          refine j_ldc2 (n := 1023) hx hb hown (hts (.constantLong RL 101 1023) (by decide +kernel)) rfl dL_isSo_440 ?_
                          refine j_land (q := 1024) (s' := 10) (P := 1024) hx hb (by omega) (by decide) (by decide) (by decide) (by decide) (by decide) dL_isSo_443 ?_
                          refine j_ldc2 (n := 9) hx hb hown (hts (.constantLong RL 28 9) (by decide +kernel)) rfl dL_isSo_444 ?_
                          refine j_lsub hx hb dL_isSo_447 ?_
                          refine j_lcne (tgt := 567) hx hb (by omega) (by omega) dL_isSo_448 dL_isSo_449 (by decide) (fun c101 => absurd (by omega) c101) (fun _ => ?_)
                          refine lv_aload_n hx hb dL_isSo_452 rfl (lv_at hl 6 rfl) ?_
                          refine lv_iload hx hb dL_isSo_453 (lv_at hl 2 rfl) ?_
                          refine j_c hx hb dL_isSo_455 ?_
                          refine p_callV (v := .int (iI (m (43 + 3 * k3)))) (ci := 5) (n := 2) (As := [.int (iI ((k3 : Int))), .int (iI (1))]) (rest := []) ⟨hx, hb, hml, hown, hts⟩ hK2 (an_entry_1 l D hL hI (k := k3) (by omega)) hPL rfl hhd gL_isSo_X5_entry rfl (by decide +kernel) ⟨Nat.le_of_ble_eq_true rfl, Nat.le_of_ble_eq_true rfl⟩ rfl hl.1 (Nat.le_of_ble_eq_true rfl) dL_isSo_456 ⟨Nat.zero_le _, Nat.zero_le _⟩ rfl ?_
                          refine j_i2l hx hb (by omega) dL_isSo_459 ?_
                          refine lv_aload_n hx hb dL_isSo_460 rfl (lv_at hl 9 rfl) ?_
                          refine lv_iload hx hb dL_isSo_461 (lv_at hl 2 rfl) ?_
                          refine Ala hx hb hK hP 2 (j := k3) (f := ev) rfl (by omega) (by omega) (by omega) dL_isSo_463 ?_
                          refine j_bi hx hb dL_isSo_464 rfl ?_
                          refine j_lshr (q := 1024) (k' := 10) (P := 1024) hx hb (by omega) (by decide) (by decide) (by decide) dL_isSo_466 ?_
                          refine j_ldc2 (n := 255) hx hb hown (hts (.constantLong RL 103 255) (by decide +kernel)) rfl dL_isSo_467 ?_
                          refine j_land (q := 256) (s' := 8) (P := 256) hx hb (by omega) (by decide) (by decide) (by decide) (by decide) (by decide) dL_isSo_470 ?_
                          refine j_lcne (tgt := 567) hx hb (by omega) (by omega) dL_isSo_471 dL_isSo_472 (by decide) (fun c104 => absurd (by omega) c104) (fun _ => ?_)
                          refine lv_aload_n hx hb dL_isSo_475 rfl (lv_at hl 6 rfl) ?_
                          refine lv_iload hx hb dL_isSo_476 (lv_at hl 2 rfl) ?_
                          refine j_c hx hb dL_isSo_478 ?_
                          refine p_callV (v := .int (iI (if (k3 : Int) < m 4 then 1 else 0))) (ci := 5) (n := 2) (As := [.int (iI ((k3 : Int))), .int (iI (2))]) (rest := []) ⟨hx, hb, hml, hown, hts⟩ hK2 (an_entry_2 l D hL hI (k := k3) (by omega)) hPL rfl hhd gL_isSo_X5_entry rfl (by decide +kernel) ⟨Nat.le_of_ble_eq_true rfl, Nat.le_of_ble_eq_true rfl⟩ rfl hl.1 (Nat.le_of_ble_eq_true rfl) dL_isSo_479 ⟨Nat.zero_le _, Nat.zero_le _⟩ rfl ?_
                          have b105 : (if (k3 : Int) < m 4 then (1 : Int) else 0) = 0 ∨ (if (k3 : Int) < m 4 then (1 : Int) else 0) = 1 := by split <;> omega
                          refine lv_iload hx hb dL_isSo_482 (lv_at hl 2 rfl) ?_
                          refine lv_aload_n hx hb dL_isSo_484 rfl (lv_at hl 7 rfl) ?_
                          refine j_c hx hb dL_isSo_485 ?_
                          refine Gld hx hb hK hP (4) (by omega) (by omega) dL_isSo_486 ?_
                          have r107 : bd (m 4) := hbd 4
                          refine j_ige (tgt := 494) hx hb (by omega) (by omega) dL_isSo_487 (by decide) (fun c108 => ?_) (fun c108 => ?_)
                          · refine j_c hx hb dL_isSo_494 ?_
                            refine j_ine (tgt := 567) hx hb (by omega) (by omega) dL_isSo_495 (by decide) (fun c109 => absurd c109 (by first | (rw [if_pos (by omega)]; omega) | (rw [if_neg (by omega)]; omega))) (fun c109 => ?_)
                            refine lv_aload_n hx hb dL_isSo_498 rfl (lv_at hl 6 rfl) ?_
                            refine lv_iload hx hb dL_isSo_499 (lv_at hl 2 rfl) ?_
                            refine j_c hx hb dL_isSo_501 ?_
                            refine p_callV (v := .int (iI (sm (fun i => b2i ((k3 : Int) < m (20 + i))) (m 0).toNat))) (ci := 5) (n := 2) (As := [.int (iI ((k3 : Int))), .int (iI (3))]) (rest := []) ⟨hx, hb, hml, hown, hts⟩ hK2 (an_entry_3 l D hL hI (k := k3) (by omega)) hPL rfl hhd gL_isSo_X5_entry rfl (by decide +kernel) ⟨Nat.le_of_ble_eq_true rfl, Nat.le_of_ble_eq_true rfl⟩ rfl hl.1 (Nat.le_of_ble_eq_true rfl) dL_isSo_502 ⟨Nat.zero_le _, Nat.zero_le _⟩ rfl ?_
                            have b111 := sm_rg (f := fun i => b2i ((k3 : Int) < m (20 + i))) (fun k => b2i_rg) (m 0).toNat
                            refine lv_iload hx hb dL_isSo_505 (lv_at hl 1 rfl) ?_
                            refine j_ine (tgt := 567) hx hb (by omega) (by omega) dL_isSo_507 (by decide) (fun c112 => absurd c112 (by omega)) (fun c112 => ?_)
                            refine lv_aload_n hx hb dL_isSo_510 rfl (lv_at hl 6 rfl) ?_
                            refine lv_iload hx hb dL_isSo_511 (lv_at hl 2 rfl) ?_
                            refine j_c hx hb dL_isSo_513 ?_
                            refine p_callV (v := .int (iI (m (44 + 3 * k3)))) (ci := 5) (n := 2) (As := [.int (iI ((k3 : Int))), .int (iI (4))]) (rest := []) ⟨hx, hb, hml, hown, hts⟩ hK2 (an_entry_4 l D hL hI (k := k3) (by omega)) hPL rfl hhd gL_isSo_X5_entry rfl (by decide +kernel) ⟨Nat.le_of_ble_eq_true rfl, Nat.le_of_ble_eq_true rfl⟩ rfl hl.1 (Nat.le_of_ble_eq_true rfl) dL_isSo_514 ⟨Nat.zero_le _, Nat.zero_le _⟩ rfl ?_
                            refine j_i2l hx hb (by omega) dL_isSo_517 ?_
                            refine lv_aload_n hx hb dL_isSo_518 rfl (lv_at hl 9 rfl) ?_
                            refine lv_iload hx hb dL_isSo_519 (lv_at hl 2 rfl) ?_
                            refine Ala hx hb hK hP 2 (j := k3) (f := ev) rfl (by omega) (by omega) (by omega) dL_isSo_521 ?_
                            refine j_bi hx hb dL_isSo_522 rfl ?_
                            refine j_lshr (q := 262144) (k' := 18) (P := 262144) hx hb (by omega) (by decide) (by decide) (by decide) dL_isSo_524 ?_
                            refine j_lcne (tgt := 567) hx hb (by omega) (by omega) dL_isSo_525 dL_isSo_526 (by decide) (fun c115 => absurd (by omega) c115) (fun _ => ?_)
                            refine lv_aload_n hx hb dL_isSo_529 rfl (lv_at hl 6 rfl) ?_
                            refine lv_iload hx hb dL_isSo_530 (lv_at hl 2 rfl) ?_
                            refine j_c hx hb dL_isSo_532 ?_
                            refine p_callV (v := .int (iI (sm (fun i => b2i ((k3 : Int) < m (20 + (m (32 + i)).toNat))) (m 1).toNat))) (ci := 5) (n := 2) (As := [.int (iI ((k3 : Int))), .int (iI (5))]) (rest := []) ⟨hx, hb, hml, hown, hts⟩ hK2 (an_entry_5 l D hL hI (k := k3) (by omega)) hPL rfl hhd gL_isSo_X5_entry rfl (by decide +kernel) ⟨Nat.le_of_ble_eq_true rfl, Nat.le_of_ble_eq_true rfl⟩ rfl hl.1 (Nat.le_of_ble_eq_true rfl) dL_isSo_533 ⟨Nat.zero_le _, Nat.zero_le _⟩ rfl ?_
                            refine lv_iload hx hb dL_isSo_536 (lv_at hl 0 rfl) ?_
                            refine j_ine (tgt := 567) hx hb (by omega) (by omega) dL_isSo_538 (by decide) (fun c118 => absurd c118 (by omega)) (fun c118 => ?_)
                            refine lv_aload_n hx hb dL_isSo_541 rfl (lv_at hl 6 rfl) ?_
                            refine lv_iload hx hb dL_isSo_542 (lv_at hl 2 rfl) ?_
                            refine j_bi hx hb dL_isSo_544 rfl ?_
                            refine p_callV (v := .int (iI (sm (fun i => b2i ((k3 : Int) < m (20 + (m ((if m 5 ≠ -9 then (37 : Int) else 32).toNat + i)).toNat))) (m 1).toNat))) (ci := 5) (n := 2) (As := [.int (iI ((k3 : Int))), .int (iI (6))]) (rest := []) ⟨hx, hb, hml, hown, hts⟩ hK2 (an_entry_6 l D hL hI (k := k3) (by omega)) hPL rfl hhd gL_isSo_X5_entry rfl (by decide +kernel) ⟨Nat.le_of_ble_eq_true rfl, Nat.le_of_ble_eq_true rfl⟩ rfl hl.1 (Nat.le_of_ble_eq_true rfl) dL_isSo_546 ⟨Nat.zero_le _, Nat.zero_le _⟩ rfl ?_
                            refine lv_aload_n hx hb dL_isSo_549 rfl (lv_at hl 7 rfl) ?_
                            refine lv_aload_n hx hb dL_isSo_550 rfl (lv_at hl 8 rfl) ?_
                            refine lv_aload_n hx hb dL_isSo_551 rfl (lv_at hl 7 rfl) ?_
                            refine pl_callS (v := .int (iI (boV m))) (n := 1) (w := lw2 cI ga va m (ed2 cL ea da ev dv wL)) (As := [.ref (ga)]) (rest := [.ref (va), .ref (ga), .int (iI (sm (fun i => b2i ((k3 : Int) < m (20 + (m ((if m 5 ≠ -9 then (37 : Int) else 32).toNat + i)).toNat))) (m 1).toNat))]) ⟨hx, hb, hml, hown, hts⟩ hK (kL_both l D cI cV cL ga va (ed2 cL ea da ev dv wL) m hbd) hP gL_isSo_L_both rfl (by decide +kernel) ⟨Nat.le_of_ble_eq_true rfl, Nat.le_of_ble_eq_true rfl⟩ rfl hl.1 (Nat.le_of_ble_eq_true rfl) dL_isSo_552 ⟨Nat.zero_le _, Nat.zero_le _⟩ rfl ?_
                            have bo121 := boV_o h5
                            refine lv_iload hx hb dL_isSo_555 (lv_at hl 2 rfl) ?_
                            refine pl_callS (v := .int (iI (sm (fun i => b2i ((k3 : Int) < m (20 + (m ((if m 5 ≠ -9 then (37 : Int) else 32).toNat + i)).toNat))) (m 1).toNat))) (n := 4) (w := lw2 cI ga va m (ed2 cL ea da ev dv wL)) (As := [.ref (ga), .ref (va), .int (iI (boV m)), .int (iI ((k3 : Int)))]) (rest := [.int (iI (sm (fun i => b2i ((k3 : Int) < m (20 + (m ((if m 5 ≠ -9 then (37 : Int) else 32).toNat + i)).toNat))) (m 1).toNat))]) ⟨hx, hb, hml, hown, hts⟩ hK (kL_have l D cI cV cL ga va (ed2 cL ea da ev dv wL) m hbd ⟨k1, k15⟩ (boV m) ((if m 5 ≠ -9 then (37 : Int) else 32).toNat) (k3 : Int) (boV_o h5).1 ⟨(boV_o h5).2.1, (boV_o h5).2.2.1⟩ (by omega) (fun i hi => ⟨(hI.new hi).1, by have := (hI.new hi).2; omega⟩)) hP gL_isSo_L_have rfl (by decide +kernel) ⟨Nat.le_of_ble_eq_true rfl, Nat.le_of_ble_eq_true rfl⟩ rfl hl.1 (Nat.le_of_ble_eq_true rfl) dL_isSo_557 ⟨Nat.zero_le _, Nat.zero_le _⟩ rfl ?_
                            have sm122 := sm_rg (f := (fun i => b2i ((k3 : Int) < m (20 + (m ((if m 5 ≠ -9 then (37 : Int) else 32).toNat + i)).toNat)))) (fun k => b2i_rg) (m 1).toNat
                            refine j_ine (tgt := 567) hx hb (by omega) (by omega) dL_isSo_560 (by decide) (fun c123 => absurd c123 (by omega)) (fun c123 => ?_)
                            refine j_c hx hb dL_isSo_563 ?_
                            refine lv_goto (tgt := 568) hx hb dL_isSo_564 (by decide) ?_
                            refine lv_istore (lv' := [(7, .int (iI (1))), (10, .int (iI (sm (fun i => b2i ((k3 : Int) < m (20 + (m (32 + i)).toNat))) (m 1).toNat))), (9, .int (iI (x9))), (8, .int (iI ((k3 : Int)))), (6, .int (iI (x6))), (5, .int (iI (x5))), (0, .ref (g 0)), (1, .ref (ga)), (2, .ref (va)), (3, .ref (ea)), (4, .ref (da))]) hx hb dL_isSo_568 hl (by decide) rfl (fun ls hl => ?_)
                            refine lv_iinc (v := iI ((k3 : Int) + 1)) (lv' := [(8, .int (iI ((k3 : Int) + 1))), (7, .int (iI (1))), (10, .int (iI (sm (fun i => b2i ((k3 : Int) < m (20 + (m (32 + i)).toNat))) (m 1).toNat))), (9, .int (iI (x9))), (6, .int (iI (x6))), (5, .int (iI (x5))), (0, .ref (g 0)), (1, .ref (ga)), (2, .ref (va)), (3, .ref (ea)), (4, .ref (da))]) hx hb dL_isSo_570 hl (k := 3) rfl (iI_add _ _) (by decide) rfl (fun ls hl => ?_)
                            refine lv_goto (tgt := 362) hx hb dL_isSo_573 (by decide) ?_
                            exact ih362 (k3 + 1) 1 (by rfl) (by omega) (by omega) ls (lv_sub hl [0, 1, 4, 5, 6, 7, 8, 9, 10] rfl)
                          · refine j_c hx hb dL_isSo_490 ?_
                            refine lv_goto (tgt := 495) hx hb dL_isSo_491 (by decide) ?_
                            refine j_ine (tgt := 567) hx hb (by omega) (by omega) dL_isSo_495 (by decide) (fun c124 => absurd c124 (by first | (rw [if_pos (by omega)]; omega) | (rw [if_neg (by omega)]; omega))) (fun c124 => ?_)
                            refine lv_aload_n hx hb dL_isSo_498 rfl (lv_at hl 6 rfl) ?_
                            refine lv_iload hx hb dL_isSo_499 (lv_at hl 2 rfl) ?_
                            refine j_c hx hb dL_isSo_501 ?_
                            refine p_callV (v := .int (iI (sm (fun i => b2i ((k3 : Int) < m (20 + i))) (m 0).toNat))) (ci := 5) (n := 2) (As := [.int (iI ((k3 : Int))), .int (iI (3))]) (rest := []) ⟨hx, hb, hml, hown, hts⟩ hK2 (an_entry_3 l D hL hI (k := k3) (by omega)) hPL rfl hhd gL_isSo_X5_entry rfl (by decide +kernel) ⟨Nat.le_of_ble_eq_true rfl, Nat.le_of_ble_eq_true rfl⟩ rfl hl.1 (Nat.le_of_ble_eq_true rfl) dL_isSo_502 ⟨Nat.zero_le _, Nat.zero_le _⟩ rfl ?_
                            have b126 := sm_rg (f := fun i => b2i ((k3 : Int) < m (20 + i))) (fun k => b2i_rg) (m 0).toNat
                            refine lv_iload hx hb dL_isSo_505 (lv_at hl 1 rfl) ?_
                            refine j_ine (tgt := 567) hx hb (by omega) (by omega) dL_isSo_507 (by decide) (fun c127 => absurd c127 (by omega)) (fun c127 => ?_)
                            refine lv_aload_n hx hb dL_isSo_510 rfl (lv_at hl 6 rfl) ?_
                            refine lv_iload hx hb dL_isSo_511 (lv_at hl 2 rfl) ?_
                            refine j_c hx hb dL_isSo_513 ?_
                            refine p_callV (v := .int (iI (m (44 + 3 * k3)))) (ci := 5) (n := 2) (As := [.int (iI ((k3 : Int))), .int (iI (4))]) (rest := []) ⟨hx, hb, hml, hown, hts⟩ hK2 (an_entry_4 l D hL hI (k := k3) (by omega)) hPL rfl hhd gL_isSo_X5_entry rfl (by decide +kernel) ⟨Nat.le_of_ble_eq_true rfl, Nat.le_of_ble_eq_true rfl⟩ rfl hl.1 (Nat.le_of_ble_eq_true rfl) dL_isSo_514 ⟨Nat.zero_le _, Nat.zero_le _⟩ rfl ?_
                            refine j_i2l hx hb (by omega) dL_isSo_517 ?_
                            refine lv_aload_n hx hb dL_isSo_518 rfl (lv_at hl 9 rfl) ?_
                            refine lv_iload hx hb dL_isSo_519 (lv_at hl 2 rfl) ?_
                            refine Ala hx hb hK hP 2 (j := k3) (f := ev) rfl (by omega) (by omega) (by omega) dL_isSo_521 ?_
                            refine j_bi hx hb dL_isSo_522 rfl ?_
                            refine j_lshr (q := 262144) (k' := 18) (P := 262144) hx hb (by omega) (by decide) (by decide) (by decide) dL_isSo_524 ?_
                            refine j_lcne (tgt := 567) hx hb (by omega) (by omega) dL_isSo_525 dL_isSo_526 (by decide) (fun c130 => absurd (by omega) c130) (fun _ => ?_)
                            refine lv_aload_n hx hb dL_isSo_529 rfl (lv_at hl 6 rfl) ?_
                            refine lv_iload hx hb dL_isSo_530 (lv_at hl 2 rfl) ?_
                            refine j_c hx hb dL_isSo_532 ?_
                            refine p_callV (v := .int (iI (sm (fun i => b2i ((k3 : Int) < m (20 + (m (32 + i)).toNat))) (m 1).toNat))) (ci := 5) (n := 2) (As := [.int (iI ((k3 : Int))), .int (iI (5))]) (rest := []) ⟨hx, hb, hml, hown, hts⟩ hK2 (an_entry_5 l D hL hI (k := k3) (by omega)) hPL rfl hhd gL_isSo_X5_entry rfl (by decide +kernel) ⟨Nat.le_of_ble_eq_true rfl, Nat.le_of_ble_eq_true rfl⟩ rfl hl.1 (Nat.le_of_ble_eq_true rfl) dL_isSo_533 ⟨Nat.zero_le _, Nat.zero_le _⟩ rfl ?_
                            refine lv_iload hx hb dL_isSo_536 (lv_at hl 0 rfl) ?_
                            refine j_ine (tgt := 567) hx hb (by omega) (by omega) dL_isSo_538 (by decide) (fun c133 => absurd c133 (by omega)) (fun c133 => ?_)
                            refine lv_aload_n hx hb dL_isSo_541 rfl (lv_at hl 6 rfl) ?_
                            refine lv_iload hx hb dL_isSo_542 (lv_at hl 2 rfl) ?_
                            refine j_bi hx hb dL_isSo_544 rfl ?_
                            refine p_callV (v := .int (iI (sm (fun i => b2i ((k3 : Int) < m (20 + (m ((if m 5 ≠ -9 then (37 : Int) else 32).toNat + i)).toNat))) (m 1).toNat))) (ci := 5) (n := 2) (As := [.int (iI ((k3 : Int))), .int (iI (6))]) (rest := []) ⟨hx, hb, hml, hown, hts⟩ hK2 (an_entry_6 l D hL hI (k := k3) (by omega)) hPL rfl hhd gL_isSo_X5_entry rfl (by decide +kernel) ⟨Nat.le_of_ble_eq_true rfl, Nat.le_of_ble_eq_true rfl⟩ rfl hl.1 (Nat.le_of_ble_eq_true rfl) dL_isSo_546 ⟨Nat.zero_le _, Nat.zero_le _⟩ rfl ?_
                            refine lv_aload_n hx hb dL_isSo_549 rfl (lv_at hl 7 rfl) ?_
                            refine lv_aload_n hx hb dL_isSo_550 rfl (lv_at hl 8 rfl) ?_
                            refine lv_aload_n hx hb dL_isSo_551 rfl (lv_at hl 7 rfl) ?_
                            refine pl_callS (v := .int (iI (boV m))) (n := 1) (w := lw2 cI ga va m (ed2 cL ea da ev dv wL)) (As := [.ref (ga)]) (rest := [.ref (va), .ref (ga), .int (iI (sm (fun i => b2i ((k3 : Int) < m (20 + (m ((if m 5 ≠ -9 then (37 : Int) else 32).toNat + i)).toNat))) (m 1).toNat))]) ⟨hx, hb, hml, hown, hts⟩ hK (kL_both l D cI cV cL ga va (ed2 cL ea da ev dv wL) m hbd) hP gL_isSo_L_both rfl (by decide +kernel) ⟨Nat.le_of_ble_eq_true rfl, Nat.le_of_ble_eq_true rfl⟩ rfl hl.1 (Nat.le_of_ble_eq_true rfl) dL_isSo_552 ⟨Nat.zero_le _, Nat.zero_le _⟩ rfl ?_
                            have bo136 := boV_o h5
                            refine lv_iload hx hb dL_isSo_555 (lv_at hl 2 rfl) ?_
                            refine pl_callS (v := .int (iI (sm (fun i => b2i ((k3 : Int) < m (20 + (m ((if m 5 ≠ -9 then (37 : Int) else 32).toNat + i)).toNat))) (m 1).toNat))) (n := 4) (w := lw2 cI ga va m (ed2 cL ea da ev dv wL)) (As := [.ref (ga), .ref (va), .int (iI (boV m)), .int (iI ((k3 : Int)))]) (rest := [.int (iI (sm (fun i => b2i ((k3 : Int) < m (20 + (m ((if m 5 ≠ -9 then (37 : Int) else 32).toNat + i)).toNat))) (m 1).toNat))]) ⟨hx, hb, hml, hown, hts⟩ hK (kL_have l D cI cV cL ga va (ed2 cL ea da ev dv wL) m hbd ⟨k1, k15⟩ (boV m) ((if m 5 ≠ -9 then (37 : Int) else 32).toNat) (k3 : Int) (boV_o h5).1 ⟨(boV_o h5).2.1, (boV_o h5).2.2.1⟩ (by omega) (fun i hi => ⟨(hI.new hi).1, by have := (hI.new hi).2; omega⟩)) hP gL_isSo_L_have rfl (by decide +kernel) ⟨Nat.le_of_ble_eq_true rfl, Nat.le_of_ble_eq_true rfl⟩ rfl hl.1 (Nat.le_of_ble_eq_true rfl) dL_isSo_557 ⟨Nat.zero_le _, Nat.zero_le _⟩ rfl ?_
                            have sm137 := sm_rg (f := (fun i => b2i ((k3 : Int) < m (20 + (m ((if m 5 ≠ -9 then (37 : Int) else 32).toNat + i)).toNat)))) (fun k => b2i_rg) (m 1).toNat
                            refine j_ine (tgt := 567) hx hb (by omega) (by omega) dL_isSo_560 (by decide) (fun c138 => absurd c138 (by omega)) (fun c138 => ?_)
                            refine j_c hx hb dL_isSo_563 ?_
                            refine lv_goto (tgt := 568) hx hb dL_isSo_564 (by decide) ?_
                            refine lv_istore (lv' := [(7, .int (iI (1))), (10, .int (iI (sm (fun i => b2i ((k3 : Int) < m (20 + (m (32 + i)).toNat))) (m 1).toNat))), (9, .int (iI (x9))), (8, .int (iI ((k3 : Int)))), (6, .int (iI (x6))), (5, .int (iI (x5))), (0, .ref (g 0)), (1, .ref (ga)), (2, .ref (va)), (3, .ref (ea)), (4, .ref (da))]) hx hb dL_isSo_568 hl (by decide) rfl (fun ls hl => ?_)
                            refine lv_iinc (v := iI ((k3 : Int) + 1)) (lv' := [(8, .int (iI ((k3 : Int) + 1))), (7, .int (iI (1))), (10, .int (iI (sm (fun i => b2i ((k3 : Int) < m (20 + (m (32 + i)).toNat))) (m 1).toNat))), (9, .int (iI (x9))), (6, .int (iI (x6))), (5, .int (iI (x5))), (0, .ref (g 0)), (1, .ref (ga)), (2, .ref (va)), (3, .ref (ea)), (4, .ref (da))]) hx hb dL_isSo_570 hl (k := 3) rfl (iI_add _ _) (by decide) rfl (fun ls hl => ?_)
                            refine lv_goto (tgt := 362) hx hb dL_isSo_573 (by decide) ?_
                            exact ih362 (k3 + 1) 1 (by rfl) (by omega) (by omega) ls (lv_sub hl [0, 1, 4, 5, 6, 7, 8, 9, 10] rfl)
                        · refine lv_iload hx hb dL_isSo_389 (lv_at hl 1 rfl) ?_
                          refine lv_aload_n hx hb dL_isSo_391 rfl (lv_at hl 8 rfl) ?_
                          refine j_bi hx hb dL_isSo_392 rfl ?_
                          refine lv_iload hx hb dL_isSo_394 (lv_at hl 0 rfl) ?_
                          refine j_add hx hb dL_isSo_396 ?_
                          refine Vld hx hb hK hP (20 + j) (by omega) (by omega) dL_isSo_397 ?_
                          have r139 : bd (m (20 + j)) := hbd (20 + j)
                          refine lv_iload hx hb dL_isSo_398 (lv_at hl 2 rfl) ?_
                          refine j_ile (tgt := 407) hx hb (by omega) (by omega) dL_isSo_400 (by decide) (fun c140 => ?_) (fun c140 => ?_)
                          · refine j_c hx hb dL_isSo_407 ?_
                            refine j_add hx hb dL_isSo_408 ?_
                            refine lv_istore (lv' := [(9, .int (iI (x9 + 0))), (10, .int (iI ((j : Int)))), (8, .int (iI ((k3 : Int)))), (7, .int (iI (x7))), (6, .int (iI (x6))), (5, .int (iI (x5))), (0, .ref (g 0)), (1, .ref (ga)), (2, .ref (va)), (3, .ref (ea)), (4, .ref (da))]) hx hb dL_isSo_409 hl (by decide) rfl (fun ls hl => ?_)
                            refine lv_iinc (v := iI ((j : Int) + 1)) (lv' := [(10, .int (iI ((j : Int) + 1))), (9, .int (iI (x9 + 0))), (8, .int (iI ((k3 : Int)))), (7, .int (iI (x7))), (6, .int (iI (x6))), (5, .int (iI (x5))), (0, .ref (g 0)), (1, .ref (ga)), (2, .ref (va)), (3, .ref (ea)), (4, .ref (da))]) hx hb dL_isSo_411 hl (k := 1) rfl (iI_add _ _) (by decide) rfl (fun ls hl => ?_)
                            refine lv_goto (tgt := 381) hx hb dL_isSo_414 (by decide) ?_
                            exact ih381 (j + 1) (x9 + 0) (by simp only [sm]; first | rw [b2i_t (by omega), ← ex9] | rw [b2i_f (by omega), ← ex9]) (by omega) (by omega) ls (lv_sub hl [0, 1, 2, 3, 4, 5, 6, 7, 8, 9, 10] rfl)
                          · refine j_c hx hb dL_isSo_403 ?_
                            refine lv_goto (tgt := 408) hx hb dL_isSo_404 (by decide) ?_
                            refine j_add hx hb dL_isSo_408 ?_
                            refine lv_istore (lv' := [(9, .int (iI (x9 + 1))), (10, .int (iI ((j : Int)))), (8, .int (iI ((k3 : Int)))), (7, .int (iI (x7))), (6, .int (iI (x6))), (5, .int (iI (x5))), (0, .ref (g 0)), (1, .ref (ga)), (2, .ref (va)), (3, .ref (ea)), (4, .ref (da))]) hx hb dL_isSo_409 hl (by decide) rfl (fun ls hl => ?_)
                            refine lv_iinc (v := iI ((j : Int) + 1)) (lv' := [(10, .int (iI ((j : Int) + 1))), (9, .int (iI (x9 + 1))), (8, .int (iI ((k3 : Int)))), (7, .int (iI (x7))), (6, .int (iI (x6))), (5, .int (iI (x5))), (0, .ref (g 0)), (1, .ref (ga)), (2, .ref (va)), (3, .ref (ea)), (4, .ref (da))]) hx hb dL_isSo_411 hl (k := 1) rfl (iI_add _ _) (by decide) rfl (fun ls hl => ?_)
                            refine lv_goto (tgt := 381) hx hb dL_isSo_414 (by decide) ?_
                            exact ih381 (j + 1) (x9 + 1) (by simp only [sm]; first | rw [b2i_t (by omega), ← ex9] | rw [b2i_f (by omega), ← ex9]) (by omega) (by omega) ls (lv_sub hl [0, 1, 2, 3, 4, 5, 6, 7, 8, 9, 10] rfl)
                    exact LP381 _ 0 0 (by rfl) (by omega) (Nat.lt_succ_self _) ls (lv_sub hl [0, 1, 2, 3, 4, 5, 6, 7, 8, 9, 10] rfl)
              exact LP362 _ 0 x7 (by exact ex7) (by omega) (Nat.lt_succ_self _) ls (lv_sub hl [0, 1, 2, 3, 4, 5, 6, 7, 8] rfl)
            · refine lv_iload hx hb dL_isSo_199 (lv_at hl 1 rfl) ?_
              refine j_zeq (tgt := 359) hx hb (by omega) dL_isSo_201 (by decide) (fun c141 => absurd c141 (by omega)) (fun c141 => ?_)
              refine j_c hx hb dL_isSo_204 ?_
              refine lv_istore (lv' := [(9, .int (iI (0))), (8, .int (iI ((k2 : Int)))), (7, .int (iI (x7))), (6, .int (iI (x6))), (5, .int (iI (x5))), (0, .ref (g 0)), (1, .ref (ga)), (2, .ref (va)), (3, .ref (ea)), (4, .ref (da))]) hx hb dL_isSo_205 hl (by decide) rfl (fun ls hl => ?_)
              refine j_c hx hb dL_isSo_207 ?_
              refine lv_istore (lv' := [(10, .int (iI (0))), (9, .int (iI (0))), (8, .int (iI ((k2 : Int)))), (7, .int (iI (x7))), (6, .int (iI (x6))), (5, .int (iI (x5))), (0, .ref (g 0)), (1, .ref (ga)), (2, .ref (va)), (3, .ref (ea)), (4, .ref (da))]) hx hb dL_isSo_208 hl (by decide) rfl (fun ls hl => ?_)
              have LP210 : ∀ (fu : Nat) (j : Nat) (x9 : Int), x9 = sm (fun i => b2i (m (224 + 5 * i) = (k2 : Int))) j → ((j : Int) ≤ m 7) → (m 7).toNat - j < fu → ∀ ls : Array Slot, lv_has ls 12 [(10, .int (iI ((j : Int)))), (9, .int (iI (x9))), (8, .int (iI ((k2 : Int)))), (7, .int (iI (x7))), (6, .int (iI (x6))), (5, .int (iI (x5))), (0, .ref (g 0)), (1, .ref (ga)), (2, .ref (va)), (3, .ref (ea)), (4, .ref (da))] → W p l e (headSpec wsL_isSo (rmK 5 113)).room s0 mi ([.ref (g 0), .ref (ga), .ref (va), .ref (ea), .ref (da)] : List Value).toArray below meth c s0.heap [] 0 0 (MQ below (pQ (some (.int (iI (1))))) ([.ref (g 0), .ref (ga), .ref (va), .ref (ea), .ref (da)] : List Value).toArray s0 0 0 (fun _ => False)) (F0 mi 210 ls []) := by
                intro fu
                induction fu with
                | zero =>
                  intros
                  omega
                | succ fu ih210 =>
                  intro j x9 ex9 hinv hmeas ls hl
                  have sr9 := sm_rg (f := fun i => b2i (m (224 + 5 * i) = (k2 : Int))) (fun k => b2i_rg) j
                  refine lv_iload hx hb dL_isSo_210 (lv_at hl 0 rfl) ?_
                  refine lv_aload_n hx hb dL_isSo_212 rfl (lv_at hl 7 rfl) ?_
                  refine j_bi hx hb dL_isSo_213 rfl ?_
                  refine Gld hx hb hK hP (7) (by omega) (by omega) dL_isSo_215 ?_
                  have r142 : bd (m 7) := hbd 7
                  refine j_ige (tgt := 254) hx hb (by omega) (by omega) dL_isSo_216 (by decide) (fun c143 => ?_) (fun c143 => ?_)
                  · have ex9 : x9 = sm (fun i => b2i (m (224 + 5 * i) = (k2 : Int))) (m 7).toNat := by
                      rw [ex9]
                      congr 1
                      omega
                    refine lv_iload hx hb dL_isSo_254 (lv_at hl 5 rfl) ?_
                    refine lv_aload_n hx hb dL_isSo_256 rfl (lv_at hl 8 rfl) ?_
                    refine lv_iload hx hb dL_isSo_257 (lv_at hl 2 rfl) ?_
                    refine Vld hx hb hK hP (8 + k2) (by omega) (by omega) dL_isSo_259 ?_
                    have r144 : bd (m (8 + k2)) := hbd (8 + k2)
                    refine j_add hx hb dL_isSo_260 ?_
                    refine lv_istore (lv' := [(5, .int (iI (x5 + (m (8 + k2))))), (10, .int (iI ((j : Int)))), (9, .int (iI (x9))), (8, .int (iI ((k2 : Int)))), (7, .int (iI (x7))), (6, .int (iI (x6))), (0, .ref (g 0)), (1, .ref (ga)), (2, .ref (va)), (3, .ref (ea)), (4, .ref (da))]) hx hb dL_isSo_261 hl (by decide) rfl (fun ls hl => ?_)
                    refine lv_aload_n hx hb dL_isSo_263 rfl (lv_at hl 6 rfl) ?_
                    refine lv_iload hx hb dL_isSo_264 (lv_at hl 3 rfl) ?_
                    refine j_c hx hb dL_isSo_266 ?_
                    refine p_callV (v := .int (iI (m (8 + k2)))) (ci := 5) (n := 2) (As := [.int (iI ((k2 : Int))), .int (iI (0))]) (rest := []) ⟨hx, hb, hml, hown, hts⟩ hK2 (an_villager_0 l D hL hI (k := k2) (by omega)) hPL rfl hhd gL_isSo_X5_villager rfl (by decide +kernel) ⟨Nat.le_of_ble_eq_true rfl, Nat.le_of_ble_eq_true rfl⟩ rfl hl.1 (Nat.le_of_ble_eq_true rfl) dL_isSo_267 ⟨Nat.zero_le _, Nat.zero_le _⟩ rfl ?_
                    have b145 := hbd (8 + k2)
                    refine lv_aload_n hx hb dL_isSo_270 rfl (lv_at hl 8 rfl) ?_
                    refine lv_iload hx hb dL_isSo_271 (lv_at hl 3 rfl) ?_
                    refine Vld hx hb hK hP (8 + k2) (by omega) (by omega) dL_isSo_273 ?_
                    have r148 : bd (m (8 + k2)) := hbd (8 + k2)
                    refine j_ine (tgt := 350) hx hb (by omega) (by omega) dL_isSo_274 (by decide) (fun c149 => absurd c149 (by omega)) (fun c149 => ?_)
                    refine lv_aload_n hx hb dL_isSo_277 rfl (lv_at hl 6 rfl) ?_
                    refine lv_iload hx hb dL_isSo_278 (lv_at hl 3 rfl) ?_
                    refine j_c hx hb dL_isSo_280 ?_
                    refine p_callV (v := .int (iI (m (20 + k2)))) (ci := 5) (n := 2) (As := [.int (iI ((k2 : Int))), .int (iI (1))]) (rest := []) ⟨hx, hb, hml, hown, hts⟩ hK2 (an_villager_1 l D hL hI (k := k2) (by omega)) hPL rfl hhd gL_isSo_X5_villager rfl (by decide +kernel) ⟨Nat.le_of_ble_eq_true rfl, Nat.le_of_ble_eq_true rfl⟩ rfl hl.1 (Nat.le_of_ble_eq_true rfl) dL_isSo_281 ⟨Nat.zero_le _, Nat.zero_le _⟩ rfl ?_
                    have b151 := hbd (20 + k2)
                    refine lv_aload_n hx hb dL_isSo_284 rfl (lv_at hl 8 rfl) ?_
                    refine j_bi hx hb dL_isSo_285 rfl ?_
                    refine lv_iload hx hb dL_isSo_287 (lv_at hl 3 rfl) ?_
                    refine j_add hx hb dL_isSo_289 ?_
                    refine Vld hx hb hK hP (20 + k2) (by omega) (by omega) dL_isSo_290 ?_
                    have r153 : bd (m (20 + k2)) := hbd (20 + k2)
                    refine j_ine (tgt := 350) hx hb (by omega) (by omega) dL_isSo_291 (by decide) (fun c154 => absurd c154 (by omega)) (fun c154 => ?_)
                    refine lv_aload_n hx hb dL_isSo_294 rfl (lv_at hl 6 rfl) ?_
                    refine lv_iload hx hb dL_isSo_295 (lv_at hl 3 rfl) ?_
                    refine j_c hx hb dL_isSo_297 ?_
                    refine p_callV (v := .int (iI (seatL (fun i => m (32 + i)) (k2 : Int) (m 1).toNat))) (ci := 5) (n := 2) (As := [.int (iI ((k2 : Int))), .int (iI (2))]) (rest := []) ⟨hx, hb, hml, hown, hts⟩ hK2 (an_villager_2 l D hL hI (k := k2) (by omega)) hPL rfl hhd gL_isSo_X5_villager rfl (by decide +kernel) ⟨Nat.le_of_ble_eq_true rfl, Nat.le_of_ble_eq_true rfl⟩ rfl hl.1 (Nat.le_of_ble_eq_true rfl) dL_isSo_298 ⟨Nat.zero_le _, Nat.zero_le _⟩ rfl ?_
                    refine lv_aload_n hx hb dL_isSo_301 rfl (lv_at hl 7 rfl) ?_
                    refine lv_aload_n hx hb dL_isSo_302 rfl (lv_at hl 8 rfl) ?_
                    refine j_bi hx hb dL_isSo_303 rfl ?_
                    refine lv_iload hx hb dL_isSo_305 (lv_at hl 3 rfl) ?_
                    refine pl_callS (v := .int (iI (seatL (fun i => m (32 + i)) (k2 : Int) (m 1).toNat))) (n := 4) (w := lw2 cI ga va m (ed2 cL ea da ev dv wL)) (As := [.ref (ga), .ref (va), .int (iI (24)), .int (iI ((k2 : Int)))]) (rest := [.int (iI (seatL (fun i => m (32 + i)) (k2 : Int) (m 1).toNat))]) ⟨hx, hb, hml, hown, hts⟩ hK (kL_seat l D cI cV cL ga va (ed2 cL ea da ev dv wL) m hbd ⟨k1, k15⟩ 24 32 (k2 : Int) (by decide) (by decide) (by omega)) hP gL_isSo_L_seat rfl (by decide +kernel) ⟨Nat.le_of_ble_eq_true rfl, Nat.le_of_ble_eq_true rfl⟩ rfl hl.1 (Nat.le_of_ble_eq_true rfl) dL_isSo_307 ⟨Nat.zero_le _, Nat.zero_le _⟩ rfl ?_
                    have se158 := seatL_rg (el := fun i => m (32 + i)) (v := (k2 : Int)) (m 1).toNat
                    refine j_ine (tgt := 350) hx hb (by omega) (by omega) dL_isSo_310 (by decide) (fun c159 => absurd c159 (by omega)) (fun c159 => ?_)
                    refine lv_aload_n hx hb dL_isSo_313 rfl (lv_at hl 6 rfl) ?_
                    refine lv_iload hx hb dL_isSo_314 (lv_at hl 3 rfl) ?_
                    refine j_c hx hb dL_isSo_316 ?_
                    refine p_callV (v := .int (iI (seatL (fun i => m ((if m 5 ≠ -9 then (37 : Int) else 32).toNat + i)) (k2 : Int) (m 1).toNat))) (ci := 5) (n := 2) (As := [.int (iI ((k2 : Int))), .int (iI (3))]) (rest := []) ⟨hx, hb, hml, hown, hts⟩ hK2 (an_villager_3 l D hL hI (k := k2) (by omega)) hPL rfl hhd gL_isSo_X5_villager rfl (by decide +kernel) ⟨Nat.le_of_ble_eq_true rfl, Nat.le_of_ble_eq_true rfl⟩ rfl hl.1 (Nat.le_of_ble_eq_true rfl) dL_isSo_317 ⟨Nat.zero_le _, Nat.zero_le _⟩ rfl ?_
                    refine lv_aload_n hx hb dL_isSo_320 rfl (lv_at hl 7 rfl) ?_
                    refine lv_aload_n hx hb dL_isSo_321 rfl (lv_at hl 8 rfl) ?_
                    refine lv_aload_n hx hb dL_isSo_322 rfl (lv_at hl 7 rfl) ?_
                    refine pl_callS (v := .int (iI (boV m))) (n := 1) (w := lw2 cI ga va m (ed2 cL ea da ev dv wL)) (As := [.ref (ga)]) (rest := [.ref (va), .ref (ga), .int (iI (seatL (fun i => m ((if m 5 ≠ -9 then (37 : Int) else 32).toNat + i)) (k2 : Int) (m 1).toNat))]) ⟨hx, hb, hml, hown, hts⟩ hK (kL_both l D cI cV cL ga va (ed2 cL ea da ev dv wL) m hbd) hP gL_isSo_L_both rfl (by decide +kernel) ⟨Nat.le_of_ble_eq_true rfl, Nat.le_of_ble_eq_true rfl⟩ rfl hl.1 (Nat.le_of_ble_eq_true rfl) dL_isSo_323 ⟨Nat.zero_le _, Nat.zero_le _⟩ rfl ?_
                    have bo163 := boV_o h5
                    refine lv_iload hx hb dL_isSo_326 (lv_at hl 3 rfl) ?_
                    refine pl_callS (v := .int (iI (seatL (fun i => m ((if m 5 ≠ -9 then (37 : Int) else 32).toNat + i)) (k2 : Int) (m 1).toNat))) (n := 4) (w := lw2 cI ga va m (ed2 cL ea da ev dv wL)) (As := [.ref (ga), .ref (va), .int (iI (boV m)), .int (iI ((k2 : Int)))]) (rest := [.int (iI (seatL (fun i => m ((if m 5 ≠ -9 then (37 : Int) else 32).toNat + i)) (k2 : Int) (m 1).toNat))]) ⟨hx, hb, hml, hown, hts⟩ hK (kL_seat l D cI cV cL ga va (ed2 cL ea da ev dv wL) m hbd ⟨k1, k15⟩ (boV m) ((if m 5 ≠ -9 then (37 : Int) else 32).toNat) (k2 : Int) (boV_o h5).1 ⟨(boV_o h5).2.1, (boV_o h5).2.2.1⟩ (by omega)) hP gL_isSo_L_seat rfl (by decide +kernel) ⟨Nat.le_of_ble_eq_true rfl, Nat.le_of_ble_eq_true rfl⟩ rfl hl.1 (Nat.le_of_ble_eq_true rfl) dL_isSo_328 ⟨Nat.zero_le _, Nat.zero_le _⟩ rfl ?_
                    have se164 := seatL_rg (el := fun i => m ((if m 5 ≠ -9 then (37 : Int) else 32).toNat + i)) (v := (k2 : Int)) (m 1).toNat
                    refine j_ine (tgt := 350) hx hb (by omega) (by omega) dL_isSo_331 (by decide) (fun c165 => absurd c165 (by omega)) (fun c165 => ?_)
                    refine lv_aload_n hx hb dL_isSo_334 rfl (lv_at hl 6 rfl) ?_
                    refine lv_iload hx hb dL_isSo_335 (lv_at hl 3 rfl) ?_
                    refine j_c hx hb dL_isSo_337 ?_
                    refine p_callV (v := .int (iI (sm (fun i => b2i (m (224 + 5 * i) = (k2 : Int))) (m 7).toNat))) (ci := 5) (n := 2) (As := [.int (iI ((k2 : Int))), .int (iI (4))]) (rest := []) ⟨hx, hb, hml, hown, hts⟩ hK2 (an_villager_4 l D hL hI (k := k2) (by omega)) hPL rfl hhd gL_isSo_X5_villager rfl (by decide +kernel) ⟨Nat.le_of_ble_eq_true rfl, Nat.le_of_ble_eq_true rfl⟩ rfl hl.1 (Nat.le_of_ble_eq_true rfl) dL_isSo_338 ⟨Nat.zero_le _, Nat.zero_le _⟩ rfl ?_
                    have b168 := sm_rg (f := fun i => b2i (m (224 + 5 * i) = (k2 : Int))) (fun k => b2i_rg) (m 7).toNat
                    refine lv_iload hx hb dL_isSo_341 (lv_at hl 2 rfl) ?_
                    refine j_ine (tgt := 350) hx hb (by omega) (by omega) dL_isSo_343 (by decide) (fun c169 => absurd c169 (by omega)) (fun c169 => ?_)
                    refine j_c hx hb dL_isSo_346 ?_
                    refine lv_goto (tgt := 351) hx hb dL_isSo_347 (by decide) ?_
                    refine lv_istore (lv' := [(7, .int (iI (1))), (5, .int (iI (x5 + (m (8 + k2))))), (10, .int (iI ((j : Int)))), (9, .int (iI (x9))), (8, .int (iI ((k2 : Int)))), (6, .int (iI (x6))), (0, .ref (g 0)), (1, .ref (ga)), (2, .ref (va)), (3, .ref (ea)), (4, .ref (da))]) hx hb dL_isSo_351 hl (by decide) rfl (fun ls hl => ?_)
                    refine lv_iinc (v := iI ((k2 : Int) + 1)) (lv' := [(8, .int (iI ((k2 : Int) + 1))), (7, .int (iI (1))), (5, .int (iI (x5 + (m (8 + k2))))), (10, .int (iI ((j : Int)))), (9, .int (iI (x9))), (6, .int (iI (x6))), (0, .ref (g 0)), (1, .ref (ga)), (2, .ref (va)), (3, .ref (ea)), (4, .ref (da))]) hx hb dL_isSo_353 hl (k := 4) rfl (iI_add _ _) (by decide) rfl (fun ls hl => ?_)
                    refine lv_goto (tgt := 191) hx hb dL_isSo_356 (by decide) ?_
                    exact ih191 (k2 + 1) 1 (x5 + (m (8 + k2))) (by rfl) (by simp only [sm]; rw [← ex5]) (by omega) (by omega) ls (lv_sub hl [0, 1, 5, 2, 6, 7, 8, 9, 10] rfl)
                  · have hDj := hD j (by omega)
                    have hdj := hdv j (by omega)
                    unfold dE at hdj
                    refine lv_iload hx hb dL_isSo_219 (lv_at hl 1 rfl) ?_
                    refine lv_aload hx hb dL_isSo_221 (lv_at hl 10 rfl) ?_
                    refine lv_iload hx hb dL_isSo_223 (lv_at hl 0 rfl) ?_
                    refine Ala hx hb hK hP 3 (j := j) (f := dv) rfl (by omega) (by omega) (by omega) dL_isSo_225 ?_
                    refine j_bi hx hb dL_isSo_226 rfl ?_
                    refine j_lshr (q := 1048576) (k' := 20) (P := 1048576) hx hb (by omega) (by decide) (by decide) (by decide) dL_isSo_228 ?_
                    refine j_ldc2 (n := 15) hx hb hown (hts (.constantLong RL 40 15) (by decide +kernel)) rfl dL_isSo_229 ?_
                    refine j_land (q := 16) (s' := 4) (P := 16) hx hb (by omega) (by decide) (by decide) (by decide) (by decide) (by decide) dL_isSo_232 ?_
                    refine lv_iload hx hb dL_isSo_233 (lv_at hl 2 rfl) ?_
                    refine j_i2l hx hb (by omega) dL_isSo_235 ?_
                    refine j_lcne (tgt := 244) hx hb (by omega) (by omega) dL_isSo_236 dL_isSo_237 (by decide) (fun c170 => ?_) (fun c170 => ?_)
                    · refine j_c hx hb dL_isSo_244 ?_
                      refine j_add hx hb dL_isSo_245 ?_
                      refine lv_istore (lv' := [(9, .int (iI (x9 + 0))), (10, .int (iI ((j : Int)))), (8, .int (iI ((k2 : Int)))), (7, .int (iI (x7))), (6, .int (iI (x6))), (5, .int (iI (x5))), (0, .ref (g 0)), (1, .ref (ga)), (2, .ref (va)), (3, .ref (ea)), (4, .ref (da))]) hx hb dL_isSo_246 hl (by decide) rfl (fun ls hl => ?_)
                      refine lv_iinc (v := iI ((j : Int) + 1)) (lv' := [(10, .int (iI ((j : Int) + 1))), (9, .int (iI (x9 + 0))), (8, .int (iI ((k2 : Int)))), (7, .int (iI (x7))), (6, .int (iI (x6))), (5, .int (iI (x5))), (0, .ref (g 0)), (1, .ref (ga)), (2, .ref (va)), (3, .ref (ea)), (4, .ref (da))]) hx hb dL_isSo_248 hl (k := 1) rfl (iI_add _ _) (by decide) rfl (fun ls hl => ?_)
                      refine lv_goto (tgt := 210) hx hb dL_isSo_251 (by decide) ?_
                      exact ih210 (j + 1) (x9 + 0) (by simp only [sm]; first | rw [b2i_t (by omega), ← ex9] | rw [b2i_f (by omega), ← ex9]) (by omega) (by omega) ls (lv_sub hl [0, 1, 2, 3, 4, 5, 6, 7, 8, 9, 10] rfl)
                    · refine j_c hx hb dL_isSo_240 ?_
                      refine lv_goto (tgt := 245) hx hb dL_isSo_241 (by decide) ?_
                      refine j_add hx hb dL_isSo_245 ?_
                      refine lv_istore (lv' := [(9, .int (iI (x9 + 1))), (10, .int (iI ((j : Int)))), (8, .int (iI ((k2 : Int)))), (7, .int (iI (x7))), (6, .int (iI (x6))), (5, .int (iI (x5))), (0, .ref (g 0)), (1, .ref (ga)), (2, .ref (va)), (3, .ref (ea)), (4, .ref (da))]) hx hb dL_isSo_246 hl (by decide) rfl (fun ls hl => ?_)
                      refine lv_iinc (v := iI ((j : Int) + 1)) (lv' := [(10, .int (iI ((j : Int) + 1))), (9, .int (iI (x9 + 1))), (8, .int (iI ((k2 : Int)))), (7, .int (iI (x7))), (6, .int (iI (x6))), (5, .int (iI (x5))), (0, .ref (g 0)), (1, .ref (ga)), (2, .ref (va)), (3, .ref (ea)), (4, .ref (da))]) hx hb dL_isSo_248 hl (k := 1) rfl (iI_add _ _) (by decide) rfl (fun ls hl => ?_)
                      refine lv_goto (tgt := 210) hx hb dL_isSo_251 (by decide) ?_
                      exact ih210 (j + 1) (x9 + 1) (by simp only [sm]; first | rw [b2i_t (by omega), ← ex9] | rw [b2i_f (by omega), ← ex9]) (by omega) (by omega) ls (lv_sub hl [0, 1, 2, 3, 4, 5, 6, 7, 8, 9, 10] rfl)
              exact LP210 _ 0 0 (by rfl) (by omega) (Nat.lt_succ_self _) ls (lv_sub hl [0, 1, 2, 3, 4, 5, 6, 7, 8, 9, 10] rfl)
        exact LP191 _ 0 x7 0 (by exact ex7) (by rfl) (by omega) (Nat.lt_succ_self _) ls (lv_sub hl [0, 1, 2, 3, 4, 5, 6, 7, 8] rfl)
      · refine lv_iload hx hb dL_isSo_21 (lv_at hl 1 rfl) ?_
        refine j_zeq (tgt := 188) hx hb (by omega) dL_isSo_23 (by decide) (fun c171 => absurd c171 (by omega)) (fun c171 => ?_)
        have hDk := hD k (by omega)
        have hdk := hdv k (by omega)
        unfold dE at hdk
        refine lv_aload hx hb dL_isSo_26 (lv_at hl 8 rfl) ?_
        refine lv_iload hx hb dL_isSo_28 (lv_at hl 0 rfl) ?_
        refine Ala hx hb hK hP 3 (j := k) (f := dv) rfl (by omega) (by omega) (by omega) dL_isSo_30 ?_
        refine j_bi hx hb dL_isSo_31 rfl ?_
        refine j_lshr (q := 1048576) (k' := 20) (P := 1048576) hx hb (by omega) (by decide) (by decide) (by decide) dL_isSo_33 ?_
        refine j_ldc2 (n := 15) hx hb hown (hts (.constantLong RL 40 15) (by decide +kernel)) rfl dL_isSo_34 ?_
        refine j_land (q := 16) (s' := 4) (P := 16) hx hb (by omega) (by decide) (by decide) (by decide) (by decide) (by decide) dL_isSo_37 ?_
        refine j_l2i hx hb dL_isSo_38 ?_
        rw [show ((dv k) / 1048576) % 16 = m (224 + 5 * k) from by omega]
        refine lv_istore (lv' := [(9, .int (iI (m (224 + 5 * k)))), (8, .int (iI ((k : Int)))), (7, .int (iI (x7))), (6, .int (iI (x6))), (5, .int (iI (0))), (0, .ref (g 0)), (1, .ref (ga)), (2, .ref (va)), (3, .ref (ea)), (4, .ref (da))]) hx hb dL_isSo_39 hl (by decide) rfl (fun ls hl => ?_)
        refine lv_aload hx hb dL_isSo_41 (lv_at hl 9 rfl) ?_
        refine lv_iload hx hb dL_isSo_43 (lv_at hl 1 rfl) ?_
        refine Ala hx hb hK hP 3 (j := k) (f := dv) rfl (by omega) (by omega) (by omega) dL_isSo_45 ?_
        refine j_bi hx hb dL_isSo_46 rfl ?_
        refine j_lshr (q := 16777216) (k' := 24) (P := 16777216) hx hb (by omega) (by decide) (by decide) (by decide) dL_isSo_48 ?_
        refine j_ldc2 (n := 15) hx hb hown (hts (.constantLong RL 40 15) (by decide +kernel)) rfl dL_isSo_49 ?_
        refine j_land (q := 16) (s' := 4) (P := 16) hx hb (by omega) (by decide) (by decide) (by decide) (by decide) (by decide) dL_isSo_52 ?_
        refine j_l2i hx hb dL_isSo_53 ?_
        rw [show ((dv k) / 16777216) % 16 = m (225 + 5 * k) from by omega]
        refine lv_istore (lv' := [(10, .int (iI (m (225 + 5 * k)))), (9, .int (iI (m (224 + 5 * k)))), (8, .int (iI ((k : Int)))), (7, .int (iI (x7))), (6, .int (iI (x6))), (5, .int (iI (0))), (0, .ref (g 0)), (1, .ref (ga)), (2, .ref (va)), (3, .ref (ea)), (4, .ref (da))]) hx hb dL_isSo_54 hl (by decide) rfl (fun ls hl => ?_)
        refine lv_aload hx hb dL_isSo_56 (lv_at hl 10 rfl) ?_
        refine lv_iload hx hb dL_isSo_58 (lv_at hl 2 rfl) ?_
        refine Ala hx hb hK hP 3 (j := k) (f := dv) rfl (by omega) (by omega) (by omega) dL_isSo_60 ?_
        refine j_ldc2 (n := 65535) hx hb hown (hts (.constantLong RL 26 65535) (by decide +kernel)) rfl dL_isSo_61 ?_
        refine j_land (q := 65536) (s' := 16) (P := 65536) hx hb (by omega) (by decide) (by decide) (by decide) (by decide) (by decide) dL_isSo_64 ?_
        refine j_l2i hx hb dL_isSo_65 ?_
        rw [show (dv k) % 65536 = m (222 + 5 * k) from by omega]
        refine lv_istore (lv' := [(11, .int (iI (m (222 + 5 * k)))), (10, .int (iI (m (225 + 5 * k)))), (9, .int (iI (m (224 + 5 * k)))), (8, .int (iI ((k : Int)))), (7, .int (iI (x7))), (6, .int (iI (x6))), (5, .int (iI (0))), (0, .ref (g 0)), (1, .ref (ga)), (2, .ref (va)), (3, .ref (ea)), (4, .ref (da))]) hx hb dL_isSo_66 hl (by decide) rfl (fun ls hl => ?_)
        refine lv_iload hx hb dL_isSo_68 (lv_at hl 5 rfl) ?_
        refine lv_iload hx hb dL_isSo_70 (lv_at hl 2 rfl) ?_
        refine lv_iload hx hb dL_isSo_72 (lv_at hl 1 rfl) ?_
        refine j_ine (tgt := 81) hx hb (by omega) (by omega) dL_isSo_74 (by decide) (fun c172 => ?_) (fun c172 => ?_)
        · refine j_c hx hb dL_isSo_81 ?_
          refine j_add hx hb dL_isSo_82 ?_
          refine lv_istore (lv' := [(6, .int (iI (x6 + 1))), (11, .int (iI (m (222 + 5 * k)))), (10, .int (iI (m (225 + 5 * k)))), (9, .int (iI (m (224 + 5 * k)))), (8, .int (iI ((k : Int)))), (7, .int (iI (x7))), (5, .int (iI (0))), (0, .ref (g 0)), (1, .ref (ga)), (2, .ref (va)), (3, .ref (ea)), (4, .ref (da))]) hx hb dL_isSo_83 hl (by decide) rfl (fun ls hl => ?_)
          refine lv_aload_n hx hb dL_isSo_85 rfl (lv_at hl 7 rfl) ?_
          refine lv_iload hx hb dL_isSo_86 (lv_at hl 4 rfl) ?_
          refine j_c hx hb dL_isSo_88 ?_
          refine p_callV (v := .int (iI (m (222 + 5 * k)))) (ci := 5) (n := 2) (As := [.int (iI ((k : Int))), .int (iI (0))]) (rest := []) ⟨hx, hb, hml, hown, hts⟩ hK2 (an_draw_0 l D hL hI (k := k) (by omega)) hPL rfl hhd gL_isSo_X5_draw rfl (by decide +kernel) ⟨Nat.le_of_ble_eq_true rfl, Nat.le_of_ble_eq_true rfl⟩ rfl hl.1 (Nat.le_of_ble_eq_true rfl) dL_isSo_89 ⟨Nat.zero_le _, Nat.zero_le _⟩ rfl ?_
          refine lv_iload hx hb dL_isSo_92 (lv_at hl 1 rfl) ?_
          refine j_ine (tgt := 179) hx hb (by omega) (by omega) dL_isSo_94 (by decide) (fun c173 => absurd c173 (by omega)) (fun c173 => ?_)
          refine lv_aload_n hx hb dL_isSo_97 rfl (lv_at hl 7 rfl) ?_
          refine lv_iload hx hb dL_isSo_98 (lv_at hl 4 rfl) ?_
          refine j_c hx hb dL_isSo_100 ?_
          refine p_callV (v := .int (iI (m (223 + 5 * k)))) (ci := 5) (n := 2) (As := [.int (iI ((k : Int))), .int (iI (1))]) (rest := []) ⟨hx, hb, hml, hown, hts⟩ hK2 (an_draw_1 l D hL hI (k := k) (by omega)) hPL rfl hhd gL_isSo_X5_draw rfl (by decide +kernel) ⟨Nat.le_of_ble_eq_true rfl, Nat.le_of_ble_eq_true rfl⟩ rfl hl.1 (Nat.le_of_ble_eq_true rfl) dL_isSo_101 ⟨Nat.zero_le _, Nat.zero_le _⟩ rfl ?_
          refine j_i2l hx hb (by omega) dL_isSo_104 ?_
          refine lv_aload hx hb dL_isSo_105 (lv_at hl 11 rfl) ?_
          refine lv_iload hx hb dL_isSo_107 (lv_at hl 4 rfl) ?_
          refine Ala hx hb hK hP 3 (j := k) (f := dv) rfl (by omega) (by omega) (by omega) dL_isSo_109 ?_
          refine j_bi hx hb dL_isSo_110 rfl ?_
          refine j_lshr (q := 65536) (k' := 16) (P := 65536) hx hb (by omega) (by decide) (by decide) (by decide) dL_isSo_112 ?_
          refine j_ldc2 (n := 15) hx hb hown (hts (.constantLong RL 40 15) (by decide +kernel)) rfl dL_isSo_113 ?_
          refine j_land (q := 16) (s' := 4) (P := 16) hx hb (by omega) (by decide) (by decide) (by decide) (by decide) (by decide) dL_isSo_116 ?_
          refine j_lcne (tgt := 179) hx hb (by omega) (by omega) dL_isSo_117 dL_isSo_118 (by decide) (fun c174 => absurd (by omega) c174) (fun _ => ?_)
          refine lv_aload_n hx hb dL_isSo_121 rfl (lv_at hl 7 rfl) ?_
          refine lv_iload hx hb dL_isSo_122 (lv_at hl 4 rfl) ?_
          refine j_c hx hb dL_isSo_124 ?_
          refine p_callV (v := .int (iI (m (224 + 5 * k)))) (ci := 5) (n := 2) (As := [.int (iI ((k : Int))), .int (iI (2))]) (rest := []) ⟨hx, hb, hml, hown, hts⟩ hK2 (an_draw_2 l D hL hI (k := k) (by omega)) hPL rfl hhd gL_isSo_X5_draw rfl (by decide +kernel) ⟨Nat.le_of_ble_eq_true rfl, Nat.le_of_ble_eq_true rfl⟩ rfl hl.1 (Nat.le_of_ble_eq_true rfl) dL_isSo_125 ⟨Nat.zero_le _, Nat.zero_le _⟩ rfl ?_
          refine lv_iload hx hb dL_isSo_128 (lv_at hl 3 rfl) ?_
          refine j_ine (tgt := 179) hx hb (by omega) (by omega) dL_isSo_130 (by decide) (fun c175 => absurd c175 (by omega)) (fun c175 => ?_)
          refine lv_aload_n hx hb dL_isSo_133 rfl (lv_at hl 7 rfl) ?_
          refine lv_iload hx hb dL_isSo_134 (lv_at hl 4 rfl) ?_
          refine j_c hx hb dL_isSo_136 ?_
          refine p_callV (v := .int (iI (b2i (m (224 + 5 * k) ≠ m (225 + 5 * k))))) (ci := 5) (n := 2) (As := [.int (iI ((k : Int))), .int (iI (3))]) (rest := []) ⟨hx, hb, hml, hown, hts⟩ hK2 (an_draw_3 l D hL hI (k := k) (by omega)) hPL rfl hhd gL_isSo_X5_draw rfl (by decide +kernel) ⟨Nat.le_of_ble_eq_true rfl, Nat.le_of_ble_eq_true rfl⟩ rfl hl.1 (Nat.le_of_ble_eq_true rfl) dL_isSo_137 ⟨Nat.zero_le _, Nat.zero_le _⟩ rfl ?_
          have b176 := b2i_rg (P := m (224 + 5 * k) ≠ m (225 + 5 * k))
          refine lv_iload hx hb dL_isSo_140 (lv_at hl 3 rfl) ?_
          refine lv_iload hx hb dL_isSo_142 (lv_at hl 2 rfl) ?_
          refine j_ine (tgt := 151) hx hb (by omega) (by omega) dL_isSo_144 (by decide) (fun c177 => ?_) (fun c177 => absurd c177 (by omega))
          refine j_c hx hb dL_isSo_151 ?_
          refine j_ine (tgt := 179) hx hb (by omega) (by omega) dL_isSo_152 (by decide) (fun c178 => absurd c178 (by first | (rw [b2i_t (by omega)]; omega) | (rw [b2i_f (by omega)]; omega))) (fun c178 => ?_)
          refine lv_aload_n hx hb dL_isSo_155 rfl (lv_at hl 7 rfl) ?_
          refine lv_iload hx hb dL_isSo_156 (lv_at hl 4 rfl) ?_
          refine j_c hx hb dL_isSo_158 ?_
          refine p_callV (v := .int (iI (m (226 + 5 * k)))) (ci := 5) (n := 2) (As := [.int (iI ((k : Int))), .int (iI (4))]) (rest := []) ⟨hx, hb, hml, hown, hts⟩ hK2 (an_draw_4 l D hL hI (k := k) (by omega)) hPL rfl hhd gL_isSo_X5_draw rfl (by decide +kernel) ⟨Nat.le_of_ble_eq_true rfl, Nat.le_of_ble_eq_true rfl⟩ rfl hl.1 (Nat.le_of_ble_eq_true rfl) dL_isSo_159 ⟨Nat.zero_le _, Nat.zero_le _⟩ rfl ?_
          refine j_i2l hx hb (by omega) dL_isSo_162 ?_
          refine lv_aload hx hb dL_isSo_163 (lv_at hl 11 rfl) ?_
          refine lv_iload hx hb dL_isSo_165 (lv_at hl 4 rfl) ?_
          refine Ala hx hb hK hP 3 (j := k) (f := dv) rfl (by omega) (by omega) (by omega) dL_isSo_167 ?_
          refine j_bi hx hb dL_isSo_168 rfl ?_
          refine j_lshr (q := 268435456) (k' := 28) (P := 268435456) hx hb (by omega) (by decide) (by decide) (by decide) dL_isSo_170 ?_
          refine j_lcne (tgt := 179) hx hb (by omega) (by omega) dL_isSo_171 dL_isSo_172 (by decide) (fun c179 => absurd (by omega) c179) (fun _ => ?_)
          refine j_c hx hb dL_isSo_175 ?_
          refine lv_goto (tgt := 180) hx hb dL_isSo_176 (by decide) ?_
          refine lv_istore (lv' := [(7, .int (iI (1))), (6, .int (iI (x6 + 1))), (11, .int (iI (m (222 + 5 * k)))), (10, .int (iI (m (225 + 5 * k)))), (9, .int (iI (m (224 + 5 * k)))), (8, .int (iI ((k : Int)))), (5, .int (iI (0))), (0, .ref (g 0)), (1, .ref (ga)), (2, .ref (va)), (3, .ref (ea)), (4, .ref (da))]) hx hb dL_isSo_180 hl (by decide) rfl (fun ls hl => ?_)
          refine lv_iinc (v := iI ((k : Int) + 1)) (lv' := [(8, .int (iI ((k : Int) + 1))), (7, .int (iI (1))), (6, .int (iI (x6 + 1))), (11, .int (iI (m (222 + 5 * k)))), (10, .int (iI (m (225 + 5 * k)))), (9, .int (iI (m (224 + 5 * k)))), (5, .int (iI (0))), (0, .ref (g 0)), (1, .ref (ga)), (2, .ref (va)), (3, .ref (ea)), (4, .ref (da))]) hx hb dL_isSo_182 hl (k := 5) rfl (iI_add _ _) (by decide) rfl (fun ls hl => ?_)
          refine lv_goto (tgt := 12) hx hb dL_isSo_185 (by decide) ?_
          exact ih12 (k + 1) 1 (x6 + 1) (by rfl) (by simp only [sm]; first | rw [b2i_t (by omega), ← ex6] | rw [b2i_f (by omega), ← ex6]) (by omega) (by omega) ls (lv_sub hl [0, 1, 2, 6, 7, 8, 9, 10, 11] rfl)
        · refine j_c hx hb dL_isSo_77 ?_
          refine lv_goto (tgt := 82) hx hb dL_isSo_78 (by decide) ?_
          refine j_add hx hb dL_isSo_82 ?_
          refine lv_istore (lv' := [(6, .int (iI (x6 + 0))), (11, .int (iI (m (222 + 5 * k)))), (10, .int (iI (m (225 + 5 * k)))), (9, .int (iI (m (224 + 5 * k)))), (8, .int (iI ((k : Int)))), (7, .int (iI (x7))), (5, .int (iI (0))), (0, .ref (g 0)), (1, .ref (ga)), (2, .ref (va)), (3, .ref (ea)), (4, .ref (da))]) hx hb dL_isSo_83 hl (by decide) rfl (fun ls hl => ?_)
          refine lv_aload_n hx hb dL_isSo_85 rfl (lv_at hl 7 rfl) ?_
          refine lv_iload hx hb dL_isSo_86 (lv_at hl 4 rfl) ?_
          refine j_c hx hb dL_isSo_88 ?_
          refine p_callV (v := .int (iI (m (222 + 5 * k)))) (ci := 5) (n := 2) (As := [.int (iI ((k : Int))), .int (iI (0))]) (rest := []) ⟨hx, hb, hml, hown, hts⟩ hK2 (an_draw_0 l D hL hI (k := k) (by omega)) hPL rfl hhd gL_isSo_X5_draw rfl (by decide +kernel) ⟨Nat.le_of_ble_eq_true rfl, Nat.le_of_ble_eq_true rfl⟩ rfl hl.1 (Nat.le_of_ble_eq_true rfl) dL_isSo_89 ⟨Nat.zero_le _, Nat.zero_le _⟩ rfl ?_
          refine lv_iload hx hb dL_isSo_92 (lv_at hl 1 rfl) ?_
          refine j_ine (tgt := 179) hx hb (by omega) (by omega) dL_isSo_94 (by decide) (fun c180 => absurd c180 (by omega)) (fun c180 => ?_)
          refine lv_aload_n hx hb dL_isSo_97 rfl (lv_at hl 7 rfl) ?_
          refine lv_iload hx hb dL_isSo_98 (lv_at hl 4 rfl) ?_
          refine j_c hx hb dL_isSo_100 ?_
          refine p_callV (v := .int (iI (m (223 + 5 * k)))) (ci := 5) (n := 2) (As := [.int (iI ((k : Int))), .int (iI (1))]) (rest := []) ⟨hx, hb, hml, hown, hts⟩ hK2 (an_draw_1 l D hL hI (k := k) (by omega)) hPL rfl hhd gL_isSo_X5_draw rfl (by decide +kernel) ⟨Nat.le_of_ble_eq_true rfl, Nat.le_of_ble_eq_true rfl⟩ rfl hl.1 (Nat.le_of_ble_eq_true rfl) dL_isSo_101 ⟨Nat.zero_le _, Nat.zero_le _⟩ rfl ?_
          refine j_i2l hx hb (by omega) dL_isSo_104 ?_
          refine lv_aload hx hb dL_isSo_105 (lv_at hl 11 rfl) ?_
          refine lv_iload hx hb dL_isSo_107 (lv_at hl 4 rfl) ?_
          refine Ala hx hb hK hP 3 (j := k) (f := dv) rfl (by omega) (by omega) (by omega) dL_isSo_109 ?_
          refine j_bi hx hb dL_isSo_110 rfl ?_
          refine j_lshr (q := 65536) (k' := 16) (P := 65536) hx hb (by omega) (by decide) (by decide) (by decide) dL_isSo_112 ?_
          refine j_ldc2 (n := 15) hx hb hown (hts (.constantLong RL 40 15) (by decide +kernel)) rfl dL_isSo_113 ?_
          refine j_land (q := 16) (s' := 4) (P := 16) hx hb (by omega) (by decide) (by decide) (by decide) (by decide) (by decide) dL_isSo_116 ?_
          refine j_lcne (tgt := 179) hx hb (by omega) (by omega) dL_isSo_117 dL_isSo_118 (by decide) (fun c181 => absurd (by omega) c181) (fun _ => ?_)
          refine lv_aload_n hx hb dL_isSo_121 rfl (lv_at hl 7 rfl) ?_
          refine lv_iload hx hb dL_isSo_122 (lv_at hl 4 rfl) ?_
          refine j_c hx hb dL_isSo_124 ?_
          refine p_callV (v := .int (iI (m (224 + 5 * k)))) (ci := 5) (n := 2) (As := [.int (iI ((k : Int))), .int (iI (2))]) (rest := []) ⟨hx, hb, hml, hown, hts⟩ hK2 (an_draw_2 l D hL hI (k := k) (by omega)) hPL rfl hhd gL_isSo_X5_draw rfl (by decide +kernel) ⟨Nat.le_of_ble_eq_true rfl, Nat.le_of_ble_eq_true rfl⟩ rfl hl.1 (Nat.le_of_ble_eq_true rfl) dL_isSo_125 ⟨Nat.zero_le _, Nat.zero_le _⟩ rfl ?_
          refine lv_iload hx hb dL_isSo_128 (lv_at hl 3 rfl) ?_
          refine j_ine (tgt := 179) hx hb (by omega) (by omega) dL_isSo_130 (by decide) (fun c182 => absurd c182 (by omega)) (fun c182 => ?_)
          refine lv_aload_n hx hb dL_isSo_133 rfl (lv_at hl 7 rfl) ?_
          refine lv_iload hx hb dL_isSo_134 (lv_at hl 4 rfl) ?_
          refine j_c hx hb dL_isSo_136 ?_
          refine p_callV (v := .int (iI (b2i (m (224 + 5 * k) ≠ m (225 + 5 * k))))) (ci := 5) (n := 2) (As := [.int (iI ((k : Int))), .int (iI (3))]) (rest := []) ⟨hx, hb, hml, hown, hts⟩ hK2 (an_draw_3 l D hL hI (k := k) (by omega)) hPL rfl hhd gL_isSo_X5_draw rfl (by decide +kernel) ⟨Nat.le_of_ble_eq_true rfl, Nat.le_of_ble_eq_true rfl⟩ rfl hl.1 (Nat.le_of_ble_eq_true rfl) dL_isSo_137 ⟨Nat.zero_le _, Nat.zero_le _⟩ rfl ?_
          have b183 := b2i_rg (P := m (224 + 5 * k) ≠ m (225 + 5 * k))
          refine lv_iload hx hb dL_isSo_140 (lv_at hl 3 rfl) ?_
          refine lv_iload hx hb dL_isSo_142 (lv_at hl 2 rfl) ?_
          refine j_ine (tgt := 151) hx hb (by omega) (by omega) dL_isSo_144 (by decide) (fun c184 => absurd c184 (by omega)) (fun c184 => ?_)
          refine j_c hx hb dL_isSo_147 ?_
          refine lv_goto (tgt := 152) hx hb dL_isSo_148 (by decide) ?_
          refine j_ine (tgt := 179) hx hb (by omega) (by omega) dL_isSo_152 (by decide) (fun c185 => absurd c185 (by first | (rw [b2i_t (by omega)]; omega) | (rw [b2i_f (by omega)]; omega))) (fun c185 => ?_)
          refine lv_aload_n hx hb dL_isSo_155 rfl (lv_at hl 7 rfl) ?_
          refine lv_iload hx hb dL_isSo_156 (lv_at hl 4 rfl) ?_
          refine j_c hx hb dL_isSo_158 ?_
          refine p_callV (v := .int (iI (m (226 + 5 * k)))) (ci := 5) (n := 2) (As := [.int (iI ((k : Int))), .int (iI (4))]) (rest := []) ⟨hx, hb, hml, hown, hts⟩ hK2 (an_draw_4 l D hL hI (k := k) (by omega)) hPL rfl hhd gL_isSo_X5_draw rfl (by decide +kernel) ⟨Nat.le_of_ble_eq_true rfl, Nat.le_of_ble_eq_true rfl⟩ rfl hl.1 (Nat.le_of_ble_eq_true rfl) dL_isSo_159 ⟨Nat.zero_le _, Nat.zero_le _⟩ rfl ?_
          refine j_i2l hx hb (by omega) dL_isSo_162 ?_
          refine lv_aload hx hb dL_isSo_163 (lv_at hl 11 rfl) ?_
          refine lv_iload hx hb dL_isSo_165 (lv_at hl 4 rfl) ?_
          refine Ala hx hb hK hP 3 (j := k) (f := dv) rfl (by omega) (by omega) (by omega) dL_isSo_167 ?_
          refine j_bi hx hb dL_isSo_168 rfl ?_
          refine j_lshr (q := 268435456) (k' := 28) (P := 268435456) hx hb (by omega) (by decide) (by decide) (by decide) dL_isSo_170 ?_
          refine j_lcne (tgt := 179) hx hb (by omega) (by omega) dL_isSo_171 dL_isSo_172 (by decide) (fun c186 => absurd (by omega) c186) (fun _ => ?_)
          refine j_c hx hb dL_isSo_175 ?_
          refine lv_goto (tgt := 180) hx hb dL_isSo_176 (by decide) ?_
          refine lv_istore (lv' := [(7, .int (iI (1))), (6, .int (iI (x6 + 0))), (11, .int (iI (m (222 + 5 * k)))), (10, .int (iI (m (225 + 5 * k)))), (9, .int (iI (m (224 + 5 * k)))), (8, .int (iI ((k : Int)))), (5, .int (iI (0))), (0, .ref (g 0)), (1, .ref (ga)), (2, .ref (va)), (3, .ref (ea)), (4, .ref (da))]) hx hb dL_isSo_180 hl (by decide) rfl (fun ls hl => ?_)
          refine lv_iinc (v := iI ((k : Int) + 1)) (lv' := [(8, .int (iI ((k : Int) + 1))), (7, .int (iI (1))), (6, .int (iI (x6 + 0))), (11, .int (iI (m (222 + 5 * k)))), (10, .int (iI (m (225 + 5 * k)))), (9, .int (iI (m (224 + 5 * k)))), (5, .int (iI (0))), (0, .ref (g 0)), (1, .ref (ga)), (2, .ref (va)), (3, .ref (ea)), (4, .ref (da))]) hx hb dL_isSo_182 hl (k := 5) rfl (iI_add _ _) (by decide) rfl (fun ls hl => ?_)
          refine lv_goto (tgt := 12) hx hb dL_isSo_185 (by decide) ?_
          exact ih12 (k + 1) 1 (x6 + 0) (by rfl) (by simp only [sm]; first | rw [b2i_t (by omega), ← ex6] | rw [b2i_f (by omega), ← ex6]) (by omega) (by omega) ls (lv_sub hl [0, 1, 2, 6, 7, 8, 9, 10, 11] rfl)
  exact LP12 _ 0 1 0 (by rfl) (by rfl) (by omega) (Nat.lt_succ_self _) ls (lv_sub hl [0, 1, 2, 3, 4, 5, 6, 7, 8] rfl)
