theorem MS_ex {s t : Nat → Int} (h : MS s) (hb : ∀ k, bd (t k)) (h0 : t 0 = s 0 ∨ t 0 = s 0 + 1 ∧ s 0 < 12) (h1 : 0 ≤ t 1 ∧ t 1 ≤ 5) (h3 : t 3 = s 3 ∨ t 3 = s 3 + 1 ∧ s 3 < 60) (h4 : t 4 = s 4 ∨ t 4 = s 4 + 1 ∧ s 4 < s 3) (h6 : 0 ≤ t 6 ∧ t 6 < 65536) (h7 : t 7 = s 7 ∨ t 7 = s 7 + 1 ∧ s 7 < 60) (ho : ∀ i, i < 5 → 0 ≤ t (32 + i) ∧ t (32 + i) < 12) (hn : ∀ i, i < 5 → 0 ≤ t (37 + i) ∧ t (37 + i) < 12) : MS t := by
  obtain ⟨-, k0, k1, k2, k3, k4, k5, k6, k7, k8, k9, k10, k11, -, -⟩ := h
  exact ⟨hb, by omega, by omega, by omega, by omega, by omega, by omega, by omega, by omega, by omega, by omega, by omega, by omega, ho, hn⟩
theorem MS_up {s : Nat → Int} {k : Nat} {x : Int} (h : MS s) (hk : k ≠ 0 ∧ k ≠ 1 ∧ k ≠ 3 ∧ k ≠ 4 ∧ k ≠ 6 ∧ k ≠ 7 ∧ ¬ (32 ≤ k ∧ k < 42)) (hx : bd x) : MS (up s k x) := by
  have h2 := h
  obtain ⟨hb, k0, k1, k2, k3, k4, k5, k6, k7, k8, k9, k10, k11, ho, hn⟩ := h2
  exact MS_ex h (bd_up hb hx) (Or.inl (up_ne (by omega))) (by rw [up_ne (by omega)]; omega) (Or.inl (up_ne (by omega))) (Or.inl (up_ne (by omega))) (by rw [up_ne (by omega)]; omega) (Or.inl (up_ne (by omega))) (fun i hi => by rw [up_ne (by omega)]; exact ho i hi) (fun i hi => by rw [up_ne (by omega)]; exact hn i hi)
theorem MS_4 {s : Nat → Int} (h : MS s) (h4 : s 4 < s 3) : MS (up s 4 (s 4 + 1)) := by
  have h2 := h
  obtain ⟨hb, k0, k1, k2, k3, k4, k5, k6, k7, k8, k9, k10, k11, ho, hn⟩ := h2
  exact MS_ex h (bd_up hb (by omega)) (Or.inl (up_ne (by omega))) (by rw [up_ne (by omega)]; omega) (Or.inl (up_ne (by omega))) (Or.inr ⟨up_at rfl, h4⟩) (by rw [up_ne (by omega)]; omega) (Or.inl (up_ne (by omega))) (fun i hi => by rw [up_ne (by omega)]; exact ho i hi) (fun i hi => by rw [up_ne (by omega)]; exact hn i hi)
theorem endM_ne {s : Nat → Int} {j : Nat} (hs : 0 ≤ s 1 ∧ s 1 ≤ 5) (h : j ≠ 2 ∧ j ≠ 5 ∧ ¬ (32 ≤ j ∧ j < 37)) : endM s j = s j := by
  unfold endM
  rw [up_ne (by omega), up_ne (by omega), blk_out (by omega)]
theorem endM_2 {s : Nat → Int} : endM s 2 = s 2 + 1 := by
  unfold endM
  rw [up_at rfl, blk_out (by omega)]
theorem MS_end {s : Nat → Int} (h : MS s) (h2 : s 2 ≤ s 4) : MS (endM s) := by
  have hh := h
  obtain ⟨hb, k0, k1, k2, k3, k4, k5, k6, k7, k8, k9, k10, k11, ho, hn⟩ := hh
  have b2 := hb 2
  have e : ∀ i, i < 5 → endM s (32 + i) = if (i : Int) < s 1 then s (37 + i) else s (32 + i) := by
    intro i hi
    unfold endM
    rw [up_ne (by omega), up_ne (by omega)]
    by_cases q : (i : Int) < s 1
    · rw [if_pos q, blk_in (by omega)]
    · rw [if_neg q, blk_out (by omega)]
  refine MS_ex h (fun k => ?_) (Or.inl (endM_ne ⟨k2, k3⟩ (by omega))) (by rw [endM_ne ⟨k2, k3⟩ (by omega)]; omega) (Or.inl (endM_ne ⟨k2, k3⟩ (by omega))) (Or.inl (endM_ne ⟨k2, k3⟩ (by omega))) (by rw [endM_ne ⟨k2, k3⟩ (by omega)]; omega) (Or.inl (endM_ne ⟨k2, k3⟩ (by omega))) (fun i hi => ?_) (fun i hi => ?_)
  · unfold endM
    have hbl : ∀ j, bd (blk s 32 (fun i => s (37 + i)) (s 1).toNat j) := fun j => by
      unfold blk
      split
      · exact hb _
      · exact hb _
    refine bd_up (bd_up hbl (by omega)) ?_ k
    rw [blk_out (by omega)]
    omega
  · rw [e i hi]
    have a1 := ho i hi
    have a2 := hn i hi
    split <;> omega
  · rw [endM_ne ⟨k2, k3⟩ (by omega)]
    exact hn i hi
def mgStep (s : Nat → Int) : Nat → Int := if s 4 = s 5 then endM (up s 4 (s 4 + 1)) else up s 4 (s 4 + 1)
def mgS : Nat → (Nat → Int) → (Nat → Int)
  | 0, s => s
  | n + 1, s => if s 4 < s 3 ∧ s 1 < 2 * sm (fun i => b2i ((s 4) < s (20 + (s (32 + i)).toNat))) (s 1).toNat ∧ s 1 < 2 * sm (fun i => b2i ((s 4) < s (20 + (s ((if s 5 ≠ -9 then (37 : Int) else 32).toNat + i)).toNat))) (s 1).toNat then mgS n (mgStep s) else s
theorem mg_stop {s : Nat → Int} (h : ¬ (s 4 < s 3 ∧ s 1 < 2 * sm (fun i => b2i ((s 4) < s (20 + (s (32 + i)).toNat))) (s 1).toNat ∧ s 1 < 2 * sm (fun i => b2i ((s 4) < s (20 + (s ((if s 5 ≠ -9 then (37 : Int) else 32).toNat + i)).toNat))) (s 1).toNat)) : ∀ n, mgS n s = s
  | 0 => rfl
  | n + 1 => by
    simp only [mgS]
    rw [if_neg h]
theorem mg_inv {X s s2 : Nat → Int} (hM : MS s) (h2 : s 2 ≤ s 4) (hag : X = mgS (s 3 - s 4).toNat s) (hc : s 4 < s 3 ∧ s 1 < 2 * sm (fun i => b2i ((s 4) < s (20 + (s (32 + i)).toNat))) (s 1).toNat ∧ s 1 < 2 * sm (fun i => b2i ((s 4) < s (20 + (s ((if s 5 ≠ -9 then (37 : Int) else 32).toNat + i)).toNat))) (s 1).toNat) (e : s2 = mgStep s) : (MS s2 ∧ s2 2 ≤ s2 4 ∧ X = mgS (s2 3 - s2 4).toNat s2) ∧ (s2 3 - s2 4).toNat < (s 3 - s 4).toNat := by
  have hlt := hc.1
  have hw := hM.2.2.2
  have q3 : up s 4 (s 4 + 1) 3 = s 3 := up_ne (by omega)
  have q4 : up s 4 (s 4 + 1) 4 = s 4 + 1 := up_at rfl
  have q2 : up s 4 (s 4 + 1) 2 = s 2 := up_ne (by omega)
  have q1 : up s 4 (s 4 + 1) 1 = s 1 := up_ne (by omega)
  have hM1 := MS_4 hM hlt
  have f3 : s2 3 = s 3 := by
    rw [e]
    unfold mgStep
    split
    · rw [endM_ne (by omega) (by omega)]; exact q3
    · exact q3
  have f4 : s2 4 = s 4 + 1 := by
    rw [e]
    unfold mgStep
    split
    · rw [endM_ne (by omega) (by omega)]; exact q4
    · exact q4
  have f2 : s2 2 ≤ s 2 + 1 := by
    rw [e]
    unfold mgStep
    split
    · rw [endM_2]; omega
    · omega
  refine ⟨⟨?_, by omega, ?_⟩, by omega⟩
  · rw [e]
    unfold mgStep
    split
    · exact MS_end hM1 (by omega)
    · exact hM1
  · rw [hag, show (s 3 - s 4).toNat = (s2 3 - s2 4).toNat + 1 from by omega]
    simp only [mgS]
    rw [if_pos hc, e]
def wtS (s : Nat → Int) (x y : Int) : Nat → Int := up (up (up (up (up s (42 + 3 * (s 3).toNat) y) (43 + 3 * (s 3).toNat) (s 2)) (44 + 3 * (s 3).toNat) x) 3 (s 3 + 1)) (20 + x.toNat) (s (20 + x.toNat) + 1)
theorem wtS_ne {s : Nat → Int} {x y : Int} {j : Nat} (h : j ≠ 3 ∧ (j < 20 ∨ 32 ≤ j ∧ j < 42)) (hx : 0 ≤ x ∧ x < 12) : wtS s x y j = s j := by
  unfold wtS
  rw [up_ne (by omega), up_ne (by omega), up_ne (by omega), up_ne (by omega), up_ne (by omega)]
theorem wtS_3 {s : Nat → Int} {x y : Int} : wtS s x y 3 = s 3 + 1 := by
  unfold wtS
  rw [up_ne (by omega), up_at rfl]
theorem MS_wt {s : Nat → Int} {x y : Int} (h : MS s) (h3 : s 3 < 60) (hx : 0 ≤ x ∧ x < 12) (hy : bd y) (hc : bd (s (20 + x.toNat) + 1)) : MS (wtS s x y) := by
  have hh := h
  obtain ⟨hb, k0, k1, k2, k3, k4, k5, k6, k7, k8, k9, k10, k11, ho, hn⟩ := hh
  refine MS_ex h ?_ (Or.inl (wtS_ne (by omega) hx)) (by rw [wtS_ne (by omega) hx]; omega) (Or.inr ⟨wtS_3, h3⟩) (Or.inl (wtS_ne (by omega) hx)) (by rw [wtS_ne (by omega) hx]; omega) (Or.inl (wtS_ne (by omega) hx)) (fun i hi => by rw [wtS_ne (by omega) hx]; exact ho i hi) (fun i hi => by rw [wtS_ne (by omega) hx]; exact hn i hi)
  unfold wtS
  exact bd_up (bd_up (bd_up (bd_up (bd_up hb hy) (hb 2)) (by omega)) (by omega)) hc
set_option maxHeartbeats 4000000 in
set_option maxRecDepth 100000 in
theorem kX6_agrees (l : Launch) (D : va_G) (cI cV : ClassId) (b : Nat → Nat) (s pa he : Nat → Int) (np ru : Int) (t : Nat → Int) (ty at_ rd : Int)  (hM : MS s) (h24 : s 2 ≤ s 4) : MM l yX6_agrees wsX6_agrees 2 40 [.ref (b 0)] (modw cI b s pa he np ru t ty at_ rd) (modw cI b (mgS (s 3 - s 4).toNat s) pa he np ru t ty at_ rd) D cI cV (some (.int (iI ((mgS (s 3 - s 4).toNat s) 4 - s 4)))) := by
  refine MM.of (cc := cX6_agrees) (maxL := 2) (ret := (some .int)) (by decide) rfl (Nat.le_of_ble_eq_true rfl) ?_
  intro p e s0 m below meth c ls hx hb hr hts hown hlocks hml hW hK hl
  have hWk := hW
  have hown : s0.vm.findClass RX6 = some m.cls := hown
  have hin : ∀ w ∈ u_ws RX6 TX6 9, w ∈ wsX6_agrees := by decide +kernel
  have hl : lv_has ls 2 [(0, .ref (b 0))] := hl
  obtain ⟨hbs, h00, h01, h10, h11, h30, h31, h40, h41, h70, h71, h60, h61, hco, hcn⟩ := id hM
  have hb5 := hbs 5
  have hb2 := hbs 2
  refine lv_aload_n hx hb dX6_agrees_0 rfl (lv_at hl 0 rfl) ?_
  refine Mg0 hx hb hts hin hown hK hW.1 (by decide +kernel) dX6_agrees_1 ?_
  refine j_c hx hb dX6_agrees_4 ?_
  refine Ma0 hx hb hK hW.1 (by omega) dX6_agrees_5 ?_
  rw [show (4 : Int).toNat = 4 from by omega]
  have r0_17 : bd (s 4) := hbs _
  refine lv_istore_n (lv' := [(1, .int (iI (s 4))), (0, .ref (b 0))]) hx hb dX6_agrees_6 rfl hl (by decide) rfl (fun ls hl => ?_)
  have LP7 : ∀ (fu : Nat) (sj : Nat → Int), (MS sj ∧ sj 2 ≤ sj 4 ∧ mgS (s 3 - s 4).toNat s = mgS (sj 3 - sj 4).toNat sj) → (sj 3 - sj 4).toNat < fu → ∀ (H : Heap) (locs : List Loc), Wd D (ad (modw cI b s pa he np ru t ty at_ rd)) (modw cI b sj pa he np ru t ty at_ rd) s0.heap H locs → ∀ ls : Array Slot, lv_has ls 2 [(1, .int (iI (s 4))), (0, .ref (b 0))] → W p l e (headSpec wsX6_agrees (rmK 2 40)).room s0 m ([.ref (b 0)] : List Value).toArray below meth c H locs 0 0 (MQ below (mQ D (some (.int (iI ((mgS (s 3 - s 4).toNat s) 4 - s 4)))) (modw cI b (mgS (s 3 - s 4).toNat s) pa he np ru t ty at_ rd) (ad (modw cI b s pa he np ru t ty at_ rd))) ([.ref (b 0)] : List Value).toArray s0 0 0 (ad (modw cI b s pa he np ru t ty at_ rd))) (F0 m 7 ls []) := by
    intro fu
    induction fu with
    | zero =>
      intros
      omega
    | succ fu ih =>
      intro sj   hinv hmeas H locs hW ls hl
      have hM := hinv.1
      obtain ⟨hbs, h00, h01, h10, h11, h30, h31, h40, h41, h70, h71, h60, h61, hco, hcn⟩ := id hM
      have hb5 := hbs 5
      refine lv_aload_n hx hb dX6_agrees_7 rfl (lv_at hl 1 rfl) ?_
      refine Mg0 hx hb hts hin hown hK hW.1 (by decide +kernel) dX6_agrees_8 ?_
      refine j_c hx hb dX6_agrees_11 ?_
      refine Ma0 hx hb hK hW.1 (by omega) dX6_agrees_12 ?_
      rw [show (4 : Int).toNat = 4 from by omega]
      refine lv_aload_n hx hb dX6_agrees_13 rfl (lv_at hl 1 rfl) ?_
      refine Mg0 hx hb hts hin hown hK hW.1 (by decide +kernel) dX6_agrees_14 ?_
      refine j_c hx hb dX6_agrees_17 ?_
      refine Ma0 hx hb hK hW.1 (by omega) dX6_agrees_18 ?_
      rw [show (3 : Int).toNat = 3 from by omega]
      refine j_ige (tgt := 96) hx hb (by omega) (by omega) dX6_agrees_19 (by decide) (fun c1 => ?_) (fun c1 => ?_)
      · refine lv_aload_n hx hb dX6_agrees_96 rfl (lv_at hl 1 rfl) ?_
        refine Mg0 hx hb hts hin hown hK hW.1 (by decide +kernel) dX6_agrees_97 ?_
        refine j_c hx hb dX6_agrees_100 ?_
        refine Ma0 hx hb hK hW.1 (by omega) dX6_agrees_101 ?_
        rw [show (4 : Int).toNat = 4 from by omega]
        refine lv_iload_n hx hb dX6_agrees_102 rfl (lv_at hl 0 rfl) ?_
        refine j_sub hx hb dX6_agrees_103 ?_
        exact m_iret hx hb hr hlocks hW (by rw [hinv.2.2, mg_stop (fun hh => by have h1 := hh.1; have h2 := hh.2.1; have h3 := hh.2.2; omega)]) (by rw [hinv.2.2, mg_stop (fun hh => by have h1 := hh.1; have h2 := hh.2.1; have h3 := hh.2.2; omega)]) dX6_agrees_104
      · refine lv_aload_n hx hb dX6_agrees_22 rfl (lv_at hl 1 rfl) ?_
        refine lv_aload_n hx hb dX6_agrees_23 rfl (lv_at hl 1 rfl) ?_
        refine j_bi hx hb dX6_agrees_24 rfl ?_
        refine lv_aload_n hx hb dX6_agrees_26 rfl (lv_at hl 1 rfl) ?_
        refine Mg0 hx hb hts hin hown hK hW.1 (by decide +kernel) dX6_agrees_27 ?_
        refine j_c hx hb dX6_agrees_30 ?_
        refine Ma0 hx hb hK hW.1 (by omega) dX6_agrees_31 ?_
        rw [show (4 : Int).toNat = 4 from by omega]
        refine p_callV (v := .int (iI (sm (fun i => b2i ((sj 4) < sj (20 + (sj (32 + i)).toNat))) (sj 1).toNat))) (ci := 6) (n := 2) (As := [.int (iI (32)), .int (iI (sj 4))]) (rest := [.ref (b 0)]) ⟨hx, hb, hml, hown, hts⟩ hK (kX6_having l D cI cV b sj pa he np ru t ty at_ rd 32 (sj 4) hM (by omega) (by omega)) hW.1 rfl rfl gX6_agrees_X6_having rfl (by decide +kernel) ⟨Nat.le_of_ble_eq_true rfl, Nat.le_of_ble_eq_true rfl⟩ rfl hl.1 (Nat.le_of_ble_eq_true rfl) dX6_agrees_32 ⟨Nat.zero_le _, Nat.zero_le _⟩ rfl ?_
        have f58 := sm_rg (f := (fun i => b2i ((sj 4) < sj (20 + (sj (32 + i)).toNat)))) (fun k => b2i_rg) ((sj 1).toNat)
        refine p_callV (v := .int (iI (b2i (sj 1 < 2 * (sm (fun i => b2i ((sj 4) < sj (20 + (sj (32 + i)).toNat))) (sj 1).toNat))))) (ci := 6) (n := 1) (As := [.int (iI (sm (fun i => b2i ((sj 4) < sj (20 + (sj (32 + i)).toNat))) (sj 1).toNat))]) (rest := []) ⟨hx, hb, hml, hown, hts⟩ hK (kX6_isMajor l D cI cV b sj pa he np ru t ty at_ rd (sm (fun i => b2i ((sj 4) < sj (20 + (sj (32 + i)).toNat))) (sj 1).toNat) hM (by omega)) hW.1 rfl rfl gX6_agrees_X6_isMajor rfl (by decide +kernel) ⟨Nat.le_of_ble_eq_true rfl, Nat.le_of_ble_eq_true rfl⟩ rfl hl.1 (Nat.le_of_ble_eq_true rfl) dX6_agrees_35 ⟨Nat.zero_le _, Nat.zero_le _⟩ rfl ?_
        have f60 := sm_rg (f := (fun i => b2i ((sj 4) < sj (20 + (sj (32 + i)).toNat)))) (fun k => b2i_rg) ((sj 1).toNat)
        refine j_beq (tgt := 96) hx hb dX6_agrees_38 (by decide) (fun c2 => ?_) (fun c2 => ?_)
        · refine lv_aload_n hx hb dX6_agrees_96 rfl (lv_at hl 1 rfl) ?_
          refine Mg0 hx hb hts hin hown hK hW.1 (by decide +kernel) dX6_agrees_97 ?_
          refine j_c hx hb dX6_agrees_100 ?_
          refine Ma0 hx hb hK hW.1 (by omega) dX6_agrees_101 ?_
          rw [show (4 : Int).toNat = 4 from by omega]
          refine lv_iload_n hx hb dX6_agrees_102 rfl (lv_at hl 0 rfl) ?_
          refine j_sub hx hb dX6_agrees_103 ?_
          exact m_iret hx hb hr hlocks hW (by rw [hinv.2.2, mg_stop (fun hh => by have h1 := hh.1; have h2 := hh.2.1; have h3 := hh.2.2; omega)]) (by rw [hinv.2.2, mg_stop (fun hh => by have h1 := hh.1; have h2 := hh.2.1; have h3 := hh.2.2; omega)]) dX6_agrees_104
        · refine lv_aload_n hx hb dX6_agrees_41 rfl (lv_at hl 1 rfl) ?_
          refine lv_aload_n hx hb dX6_agrees_42 rfl (lv_at hl 1 rfl) ?_
          refine lv_aload_n hx hb dX6_agrees_43 rfl (lv_at hl 1 rfl) ?_
          refine p_callV (v := .int (iI (if sj 5 ≠ -9 then (37 : Int) else 32))) (ci := 6) (n := 0) (As := []) (rest := [.ref (b 0), .ref (b 0)]) ⟨hx, hb, hml, hown, hts⟩ hK (kX6_newer l D cI cV b sj pa he np ru t ty at_ rd hM) hW.1 rfl rfl gX6_agrees_X6_newer rfl (by decide +kernel) ⟨Nat.le_of_ble_eq_true rfl, Nat.le_of_ble_eq_true rfl⟩ rfl hl.1 (Nat.le_of_ble_eq_true rfl) dX6_agrees_44 ⟨Nat.zero_le _, Nat.zero_le _⟩ rfl ?_
          refine lv_aload_n hx hb dX6_agrees_47 rfl (lv_at hl 1 rfl) ?_
          refine Mg0 hx hb hts hin hown hK hW.1 (by decide +kernel) dX6_agrees_48 ?_
          refine j_c hx hb dX6_agrees_51 ?_
          refine Ma0 hx hb hK hW.1 (by omega) dX6_agrees_52 ?_
          rw [show (4 : Int).toNat = 4 from by omega]
          refine p_callV (v := .int (iI (sm (fun i => b2i ((sj 4) < sj (20 + (sj (((if sj 5 ≠ -9 then (37 : Int) else 32).toNat) + i)).toNat))) (sj 1).toNat))) (ci := 6) (n := 2) (As := [.int (iI (if sj 5 ≠ -9 then (37 : Int) else 32)), .int (iI (sj 4))]) (rest := [.ref (b 0)]) ⟨hx, hb, hml, hown, hts⟩ hK (kX6_having l D cI cV b sj pa he np ru t ty at_ rd (if sj 5 ≠ -9 then (37 : Int) else 32) (sj 4) hM (by omega) (by omega)) hW.1 rfl rfl gX6_agrees_X6_having rfl (by decide +kernel) ⟨Nat.le_of_ble_eq_true rfl, Nat.le_of_ble_eq_true rfl⟩ rfl hl.1 (Nat.le_of_ble_eq_true rfl) dX6_agrees_53 ⟨Nat.zero_le _, Nat.zero_le _⟩ rfl ?_
          have f80 := sm_rg (f := (fun i => b2i ((sj 4) < sj (20 + (sj (((if sj 5 ≠ -9 then (37 : Int) else 32).toNat) + i)).toNat)))) (fun k => b2i_rg) ((sj 1).toNat)
          refine p_callV (v := .int (iI (b2i (sj 1 < 2 * (sm (fun i => b2i ((sj 4) < sj (20 + (sj (((if sj 5 ≠ -9 then (37 : Int) else 32).toNat) + i)).toNat))) (sj 1).toNat))))) (ci := 6) (n := 1) (As := [.int (iI (sm (fun i => b2i ((sj 4) < sj (20 + (sj (((if sj 5 ≠ -9 then (37 : Int) else 32).toNat) + i)).toNat))) (sj 1).toNat))]) (rest := []) ⟨hx, hb, hml, hown, hts⟩ hK (kX6_isMajor l D cI cV b sj pa he np ru t ty at_ rd (sm (fun i => b2i ((sj 4) < sj (20 + (sj (((if sj 5 ≠ -9 then (37 : Int) else 32).toNat) + i)).toNat))) (sj 1).toNat) hM (by omega)) hW.1 rfl rfl gX6_agrees_X6_isMajor rfl (by decide +kernel) ⟨Nat.le_of_ble_eq_true rfl, Nat.le_of_ble_eq_true rfl⟩ rfl hl.1 (Nat.le_of_ble_eq_true rfl) dX6_agrees_56 ⟨Nat.zero_le _, Nat.zero_le _⟩ rfl ?_
          have f82 := sm_rg (f := (fun i => b2i ((sj 4) < sj (20 + (sj (((if sj 5 ≠ -9 then (37 : Int) else 32).toNat) + i)).toNat)))) (fun k => b2i_rg) ((sj 1).toNat)
          refine j_beq (tgt := 96) hx hb dX6_agrees_59 (by decide) (fun c3 => ?_) (fun c3 => ?_)
          · refine lv_aload_n hx hb dX6_agrees_96 rfl (lv_at hl 1 rfl) ?_
            refine Mg0 hx hb hts hin hown hK hW.1 (by decide +kernel) dX6_agrees_97 ?_
            refine j_c hx hb dX6_agrees_100 ?_
            refine Ma0 hx hb hK hW.1 (by omega) dX6_agrees_101 ?_
            rw [show (4 : Int).toNat = 4 from by omega]
            refine lv_iload_n hx hb dX6_agrees_102 rfl (lv_at hl 0 rfl) ?_
            refine j_sub hx hb dX6_agrees_103 ?_
            exact m_iret hx hb hr hlocks hW (by rw [hinv.2.2, mg_stop (fun hh => by have h1 := hh.1; have h2 := hh.2.1; have h3 := hh.2.2; omega)]) (by rw [hinv.2.2, mg_stop (fun hh => by have h1 := hh.1; have h2 := hh.2.1; have h3 := hh.2.2; omega)]) dX6_agrees_104
          · refine lv_aload_n hx hb dX6_agrees_62 rfl (lv_at hl 1 rfl) ?_
            refine Mg0 hx hb hts hin hown hK hW.1 (by decide +kernel) dX6_agrees_63 ?_
            refine j_c hx hb dX6_agrees_66 ?_
            refine lv_dup2_11 hx hb dX6_agrees_67 rfl rfl ?_
            refine Ma0 hx hb hK hW.1 (by omega) dX6_agrees_68 ?_
            rw [show (4 : Int).toNat = 4 from by omega]
            refine j_c hx hb dX6_agrees_69 ?_
            refine j_add hx hb dX6_agrees_70 ?_
            refine Ms0 hx hb hK hW (by omega) dX6_agrees_71 (fun H locs hW => ?_)
            rw [show (4 : Int).toNat = 4 from by omega] at hW
            obtain ⟨s_1, es_1⟩ : ∃ zz_, zz_ = up sj (4) ((sj 4) + 1) := ⟨_, rfl⟩
            rw [← es_1] at hW
            refine lv_aload_n hx hb dX6_agrees_72 rfl (lv_at hl 1 rfl) ?_
            refine Mg0 hx hb hts hin hown hK hW.1 (by decide +kernel) dX6_agrees_73 ?_
            refine j_c hx hb dX6_agrees_76 ?_
            refine Ma0 hx hb hK hW.1 (by omega) dX6_agrees_77 ?_
            rw [show (4 : Int).toNat = 4 from by omega]
            rw [show s_1 4 = (sj 4) + 1 from by rw [es_1, up_at rfl]]
            refine j_c hx hb dX6_agrees_78 ?_
            refine j_sub hx hb dX6_agrees_79 ?_
            refine lv_aload_n hx hb dX6_agrees_80 rfl (lv_at hl 1 rfl) ?_
            refine Mg0 hx hb hts hin hown hK hW.1 (by decide +kernel) dX6_agrees_81 ?_
            refine j_c hx hb dX6_agrees_84 ?_
            refine Ma0 hx hb hK hW.1 (by omega) dX6_agrees_85 ?_
            rw [show (5 : Int).toNat = 5 from by omega]
            rw [show s_1 5 = sj 5 from by rw [es_1, up_ne (by omega)]]
            refine j_ine (tgt := 7) hx hb (by omega) (by omega) dX6_agrees_86 (by decide) (fun c4 => ?_) (fun c4 => ?_)
            · have hN := mg_inv hinv.1 hinv.2.1 hinv.2.2 ⟨by omega, by omega, by omega⟩ (show s_1 = mgStep sj from by unfold mgStep; rw [if_neg (by omega)]; exact es_1)
              exact ih s_1   (by exact hN.1) (by have := hN.2; omega) _ _ (hW) ls (lv_sub hl [0, 1] rfl)
            · refine lv_aload_n hx hb dX6_agrees_89 rfl (lv_at hl 1 rfl) ?_
              have hM1 : MS s_1 := by rw [es_1]; exact MS_4 hM (by omega)
              refine m_callV (v := none) (ci := 6) (n := 0) (As := []) (rest := []) (st2 := []) (w2 := modw cI b (endM s_1) pa he np ru t ty at_ rd) (pre := []) (post := []) ⟨hx, hb, hml, hown, hts⟩ hK hW (kX6_ends l D cI cV b s_1 pa he np ru t ty at_ rd hM1) (by rw [List.nil_append, List.append_nil]) (by rw [List.nil_append, List.append_nil]) rfl rfl rfl gX6_agrees_X6_ends rfl (by decide +kernel) ⟨Nat.le_of_ble_eq_true rfl, Nat.le_of_ble_eq_true rfl⟩ rfl hl.1 (Nat.le_of_ble_eq_true rfl) dX6_agrees_90 ⟨Nat.zero_le _, Nat.zero_le _⟩ rfl rfl (fun H locs hW => ?_)
              obtain ⟨s_2, es_2⟩ : ∃ zz_, zz_ = endM s_1 := ⟨_, rfl⟩
              rw [← es_2] at hW
              refine lv_goto (tgt := 7) hx hb dX6_agrees_93 (by decide) ?_
              have hN := mg_inv hinv.1 hinv.2.1 hinv.2.2 ⟨by omega, by omega, by omega⟩ (show s_2 = mgStep sj from by unfold mgStep; rw [if_pos (by omega), ← es_1]; exact es_2)
              exact ih s_2   (by exact hN.1) (by have := hN.2; omega) _ _ (hW) ls (lv_sub hl [0, 1] rfl)
  exact LP7 (_) s   (by exact ⟨hM, h24, rfl⟩) (by exact Nat.lt_succ_self _) _ _ (hW) ls (lv_sub hl [0, 1] rfl)
set_option maxHeartbeats 4000000 in
set_option maxRecDepth 100000 in
theorem kX6_writes (l : Launch) (D : va_G) (cI cV : ClassId) (b : Nat → Nat) (s pa he : Nat → Int) (np ru : Int) (t : Nat → Int) (ty at_ rd : Int) (x : Int) (y : Int) (hM : MS s) (h_x : 0 ≤ x ∧ x < 12) (h_3 : s 3 < 60) : MM l yX6_writes wsX6_writes 0 0 [.ref (b 0), .int (iI (x)), .int (iI (y))] (modw cI b s pa he np ru t ty at_ rd) (modw cI b (wtS s x y) pa he np ru t ty at_ rd) D cI cV (some (.int (iI (s 3)))) := by
  refine MM.of (cc := cX6_writes) (maxL := 4) (ret := (some .int)) (by decide) rfl (Nat.le_of_ble_eq_true rfl) ?_
  intro p e s0 m below meth c ls hx hb hr hts hown hlocks hml hW hK hl
  have hWk := hW
  have hown : s0.vm.findClass RX6 = some m.cls := hown
  have hin : ∀ w ∈ u_ws RX6 TX6 9, w ∈ wsX6_writes := by decide +kernel
  have hl : lv_has ls 4 [(0, .ref (b 0)), (1, .int (iI (x))), (2, .int (iI (y)))] := hl
  obtain ⟨hbs, h00, h01, h10, h11, h30, h31, h40, h41, h70, h71, h60, h61, hco, hcn⟩ := id hM
  have hb5 := hbs 5
  have hb2 := hbs 2
  refine lv_aload_n hx hb dX6_writes_0 rfl (lv_at hl 0 rfl) ?_
  refine Mg0 hx hb hts hin hown hK hW.1 (by decide +kernel) dX6_writes_1 ?_
  refine j_c hx hb dX6_writes_4 ?_
  refine Ma0 hx hb hK hW.1 (by omega) dX6_writes_5 ?_
  rw [show (3 : Int).toNat = 3 from by omega]
  have r0_17 : bd (s 3) := hbs _
  refine lv_istore_n (lv' := [(3, .int (iI (s 3))), (0, .ref (b 0)), (1, .int (iI (x))), (2, .int (iI (y)))]) hx hb dX6_writes_6 rfl hl (by decide) rfl (fun ls hl => ?_)
  refine lv_aload_n hx hb dX6_writes_7 rfl (lv_at hl 1 rfl) ?_
  refine Mg0 hx hb hts hin hown hK hW.1 (by decide +kernel) dX6_writes_8 ?_
  refine j_bi hx hb dX6_writes_11 rfl ?_
  refine j_c hx hb dX6_writes_13 ?_
  refine lv_iload_n hx hb dX6_writes_14 rfl (lv_at hl 0 rfl) ?_
  refine j_mul hx hb dX6_writes_15 ?_
  refine j_add hx hb dX6_writes_16 ?_
  refine lv_iload_n hx hb dX6_writes_17 rfl (lv_at hl 3 rfl) ?_
  refine Ms0 hx hb hK hW (by omega) dX6_writes_18 (fun H locs hW => ?_)
  rw [show (42 + (3 * (s 3)) : Int).toNat = 42 + 3 * ((s 3).toNat) from by omega] at hW
  obtain ⟨s_1, es_1⟩ : ∃ zz_, zz_ = up s (42 + 3 * ((s 3).toNat)) (y) := ⟨_, rfl⟩
  rw [← es_1] at hW
  refine lv_aload_n hx hb dX6_writes_19 rfl (lv_at hl 1 rfl) ?_
  refine Mg0 hx hb hts hin hown hK hW.1 (by decide +kernel) dX6_writes_20 ?_
  refine j_bi hx hb dX6_writes_23 rfl ?_
  refine j_c hx hb dX6_writes_25 ?_
  refine lv_iload_n hx hb dX6_writes_26 rfl (lv_at hl 0 rfl) ?_
  refine j_mul hx hb dX6_writes_27 ?_
  refine j_add hx hb dX6_writes_28 ?_
  refine j_c hx hb dX6_writes_29 ?_
  refine j_add hx hb dX6_writes_30 ?_
  refine lv_aload_n hx hb dX6_writes_31 rfl (lv_at hl 1 rfl) ?_
  refine Mg0 hx hb hts hin hown hK hW.1 (by decide +kernel) dX6_writes_32 ?_
  refine j_c hx hb dX6_writes_35 ?_
  refine Ma0 hx hb hK hW.1 (by omega) dX6_writes_36 ?_
  rw [show (2 : Int).toNat = 2 from by omega]
  rw [show s_1 2 = s 2 from by rw [es_1, up_ne (by omega)]]
  have r0_46 : bd (s 2) := hbs _
  refine Ms0 hx hb hK hW (by omega) dX6_writes_37 (fun H locs hW => ?_)
  rw [show ((42 + (3 * (s 3))) + 1 : Int).toNat = 43 + 3 * ((s 3).toNat) from by omega] at hW
  obtain ⟨s_2, es_2⟩ : ∃ zz_, zz_ = up s_1 (43 + 3 * ((s 3).toNat)) (s 2) := ⟨_, rfl⟩
  rw [← es_2] at hW
  refine lv_aload_n hx hb dX6_writes_38 rfl (lv_at hl 1 rfl) ?_
  refine Mg0 hx hb hts hin hown hK hW.1 (by decide +kernel) dX6_writes_39 ?_
  refine j_bi hx hb dX6_writes_42 rfl ?_
  refine j_c hx hb dX6_writes_44 ?_
  refine lv_iload_n hx hb dX6_writes_45 rfl (lv_at hl 0 rfl) ?_
  refine j_mul hx hb dX6_writes_46 ?_
  refine j_add hx hb dX6_writes_47 ?_
  refine j_c hx hb dX6_writes_48 ?_
  refine j_add hx hb dX6_writes_49 ?_
  refine lv_iload_n hx hb dX6_writes_50 rfl (lv_at hl 2 rfl) ?_
  refine Ms0 hx hb hK hW (by omega) dX6_writes_51 (fun H locs hW => ?_)
  rw [show ((42 + (3 * (s 3))) + 2 : Int).toNat = 44 + 3 * ((s 3).toNat) from by omega] at hW
  obtain ⟨s_3, es_3⟩ : ∃ zz_, zz_ = up s_2 (44 + 3 * ((s 3).toNat)) (x) := ⟨_, rfl⟩
  rw [← es_3] at hW
  refine lv_aload_n hx hb dX6_writes_52 rfl (lv_at hl 1 rfl) ?_
  refine Mg0 hx hb hts hin hown hK hW.1 (by decide +kernel) dX6_writes_53 ?_
  refine j_c hx hb dX6_writes_56 ?_
  refine lv_dup2_11 hx hb dX6_writes_57 rfl rfl ?_
  refine Ma0 hx hb hK hW.1 (by omega) dX6_writes_58 ?_
  rw [show (3 : Int).toNat = 3 from by omega]
  rw [show s_3 3 = s 3 from by rw [es_3, up_ne (by omega), es_2, up_ne (by omega), es_1, up_ne (by omega)]]
  have r0_72 : bd (s 3) := hbs _
  refine j_c hx hb dX6_writes_59 ?_
  refine j_add hx hb dX6_writes_60 ?_
  refine Ms0 hx hb hK hW (by omega) dX6_writes_61 (fun H locs hW => ?_)
  rw [show (3 : Int).toNat = 3 from by omega] at hW
  obtain ⟨s_4, es_4⟩ : ∃ zz_, zz_ = up s_3 (3) ((s 3) + 1) := ⟨_, rfl⟩
  rw [← es_4] at hW
  refine lv_aload_n hx hb dX6_writes_62 rfl (lv_at hl 1 rfl) ?_
  refine Mg0 hx hb hts hin hown hK hW.1 (by decide +kernel) dX6_writes_63 ?_
  refine j_bi hx hb dX6_writes_66 rfl ?_
  refine lv_iload_n hx hb dX6_writes_68 rfl (lv_at hl 2 rfl) ?_
  refine j_add hx hb dX6_writes_69 ?_
  refine lv_dup2_11 hx hb dX6_writes_70 rfl rfl ?_
  refine Ma0 hx hb hK hW.1 (by omega) dX6_writes_71 ?_
  rw [show (20 + x : Int).toNat = 20 + x.toNat from by omega]
  rw [show s_4 (20 + x.toNat) = s (20 + x.toNat) from by rw [es_4, up_ne (by omega), es_3, up_ne (by omega), es_2, up_ne (by omega), es_1, up_ne (by omega)]]
  have r0_88 : bd (s (20 + x.toNat)) := hbs _
  refine j_c hx hb dX6_writes_72 ?_
  refine j_add hx hb dX6_writes_73 ?_
  refine Ms0 hx hb hK hW (by omega) dX6_writes_74 (fun H locs hW => ?_)
  rw [show (20 + x : Int).toNat = 20 + x.toNat from by omega] at hW
  obtain ⟨s_5, es_5⟩ : ∃ zz_, zz_ = up s_4 (20 + x.toNat) ((s (20 + x.toNat)) + 1) := ⟨_, rfl⟩
  rw [← es_5] at hW
  refine lv_iload_n hx hb dX6_writes_75 rfl (lv_at hl 0 rfl) ?_
  exact m_iret hx hb hr hlocks hW (by first | rfl | (subst es_5; subst es_4; subst es_3; subst es_2; subst es_1; rfl) | (exfalso; omega)) (by first | rfl | omega | exact (b2i_t (by omega)).symm | exact (b2i_f (by omega)).symm | (simp only [b2i]; (repeat' split) <;> first | rfl | omega | (exfalso; omega))) dX6_writes_76
