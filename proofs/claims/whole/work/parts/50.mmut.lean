/-- a block of a row set anew from o on, k cells -/
def blk (f : Nat → Int) (o : Nat) (v : Nat → Int) (k : Nat) : Nat → Int := fun j => if o ≤ j ∧ j < o + k then v (j - o) else f j
theorem blk_0 {f v : Nat → Int} {o : Nat} : blk f o v 0 = f := by
  funext j
  unfold blk
  rw [if_neg (by omega)]
theorem blk_step {f v : Nat → Int} {o k : Nat} : up (blk f o v k) (o + k) (v k) = blk f o v (k + 1) := by
  funext j
  unfold up
  by_cases h : j = o + k
  · subst h
    rw [if_pos rfl]
    unfold blk
    rw [if_pos (by omega), Nat.add_sub_cancel_left]
  · rw [if_neg h]
    unfold blk
    by_cases h2 : o ≤ j ∧ j < o + k
    · rw [if_pos h2, if_pos (by omega)]
    · rw [if_neg h2, if_neg (by omega)]
theorem blk_step0 {f v : Nat → Int} {k : Nat} : up (blk f 0 v k) k (v k) = blk f 0 v (k + 1) := by
  have h := blk_step (f := f) (v := v) (o := 0) (k := k)
  rw [Nat.zero_add] at h
  exact h
theorem blk_out {f v : Nat → Int} {o k j : Nat} (h : j < o ∨ o + k ≤ j) : blk f o v k j = f j := by
  unfold blk
  rw [if_neg (by omega)]
theorem blk_in {f v : Nat → Int} {o k i : Nat} (h : i < k) : blk f o v k (o + i) = v i := by
  unfold blk
  rw [if_pos (by omega), Nat.add_sub_cancel_left]
def actB (pa : Nat → Int) (np : Int) : Nat → Int := if np = 5 then blk pa 0 (fun j => pa (j + 522)) 2088 else pa
def actN (np : Int) : Int := if np = 5 then 4 else np
def actP (s pa : Nat → Int) (np : Int) : Nat → Int := blk (actB pa np) (522 * (actN np).toNat) s 522
def endM (s : Nat → Int) : Nat → Int := up (up (blk s 32 (fun i => s (37 + i)) (s 1).toNat) 5 (-9)) 2 ((blk s 32 (fun i => s (37 + i)) (s 1).toNat) 2 + 1)
set_option maxHeartbeats 4000000 in
set_option maxRecDepth 100000 in
theorem kX6_holds (l : Launch) (D : va_G) (cI cV : ClassId) (b : Nat → Nat) (s pa he : Nat → Int) (np ru : Int) (t : Nat → Int) (ty at_ rd : Int)   : MM l yX6_holds wsX6_holds 0 0 [.ref (b 0)] (modw cI b s pa he np ru t ty at_ rd) (modw cI b s pa (blk he 0 s 522) np ru t ty at_ rd) D cI cV (none) := by
  refine MM.of (cc := cX6_holds) (maxL := 2) (ret := none) (by decide) rfl (Nat.le_of_ble_eq_true rfl) ?_
  intro p e s0 m below meth c ls hx hb hr hts hown hlocks hml hW hK hl
  have hWk := hW
  have hown : s0.vm.findClass RX6 = some m.cls := hown
  have hin : ∀ w ∈ u_ws RX6 TX6 9, w ∈ wsX6_holds := by decide +kernel
  have hl : lv_has ls 2 [(0, .ref (b 0))] := hl
  refine j_c hx hb dX6_holds_0 ?_
  refine lv_istore_n (lv' := [(1, .int (iI (0))), (0, .ref (b 0))]) hx hb dX6_holds_1 rfl hl (by decide) rfl (fun ls hl => ?_)
  have LP2 : ∀ (fu : Nat) (j : Nat) (hj : Nat → Int) (x1 : Int), x1 = (j : Int) → (j ≤ 522 ∧ hj = blk he 0 s j) → 522 - j < fu → ∀ (H : Heap) (locs : List Loc), Wd D (ad (modw cI b s pa he np ru t ty at_ rd)) (modw cI b s pa hj np ru t ty at_ rd) s0.heap H locs → ∀ ls : Array Slot, lv_has ls 2 [(1, .int (iI (x1))), (0, .ref (b 0))] → W p l e (headSpec wsX6_holds (rmK 0 0)).room s0 m ([.ref (b 0)] : List Value).toArray below meth c H locs 0 0 (MQ below (mQ D (none) (modw cI b s pa (blk he 0 s 522) np ru t ty at_ rd) (ad (modw cI b s pa he np ru t ty at_ rd))) ([.ref (b 0)] : List Value).toArray s0 0 0 (ad (modw cI b s pa he np ru t ty at_ rd))) (F0 m 2 ls []) := by
    intro fu
    induction fu with
    | zero =>
      intros
      omega
    | succ fu ih =>
      intro j hj x1 ex1 hinv hmeas H locs hW ls hl
      subst ex1
      refine lv_iload_n hx hb dX6_holds_2 rfl (lv_at hl 0 rfl) ?_
      refine j_si hx hb dX6_holds_3 rfl ?_
      refine j_ige (tgt := 27) hx hb (by omega) (by omega) dX6_holds_6 (by decide) (fun c1 => ?_) (fun c1 => ?_)
      · exact m_vret hx hb hr hlocks hW (by rw [hinv.2, show j = 522 from by omega]) dX6_holds_27
      · refine lv_aload_n hx hb dX6_holds_9 rfl (lv_at hl 1 rfl) ?_
        refine Mg2 hx hb hts hin hown hK hW.1 (by decide +kernel) dX6_holds_10 ?_
        refine lv_iload_n hx hb dX6_holds_13 rfl (lv_at hl 0 rfl) ?_
        refine lv_aload_n hx hb dX6_holds_14 rfl (lv_at hl 1 rfl) ?_
        refine Mg0 hx hb hts hin hown hK hW.1 (by decide +kernel) dX6_holds_15 ?_
        refine lv_iload_n hx hb dX6_holds_18 rfl (lv_at hl 0 rfl) ?_
        refine Ma0 hx hb hK hW.1 (by omega) dX6_holds_19 ?_
        rw [Int.toNat_natCast]
        refine Ms2 hx hb hK hW (by omega) dX6_holds_20 (fun H locs hW => ?_)
        rw [Int.toNat_natCast] at hW
        obtain ⟨he_1, ehe_1⟩ : ∃ zz_, zz_ = up hj (j) (s j) := ⟨_, rfl⟩
        rw [← ehe_1] at hW
        refine lv_iinc (v := iI ((j : Int) + 1)) (lv' := [(1, .int (iI ((j : Int) + 1))), (0, .ref (b 0))]) hx hb dX6_holds_21 hl (k := 0) rfl (iI_add _ _) (by decide) rfl (fun ls hl => ?_)
        refine lv_goto (tgt := 2) hx hb dX6_holds_24 (by decide) ?_
        exact ih (j + 1) he_1 ((j : Int) + 1) (by first | rfl | omega | (simp only [sm, b2i]; (repeat' split) <;> first | rfl | omega | (exfalso; omega) | (exfalso; simp_all))) (by exact ⟨by omega, by rw [ehe_1, hinv.2]; exact blk_step0⟩) (by omega) _ _ (hW) ls (lv_sub hl [0, 1] rfl)
  exact LP2 (_) 0 he 0 (by first | rfl | omega) (by exact ⟨by omega, blk_0.symm⟩) (by exact Nat.lt_succ_self _) _ _ (hW) ls (lv_sub hl [0, 1] rfl)
set_option maxHeartbeats 4000000 in
set_option maxRecDepth 100000 in
theorem kX6_exchanges (l : Launch) (D : va_G) (cI cV : ClassId) (b : Nat → Nat) (s pa he : Nat → Int) (np ru : Int) (t : Nat → Int) (ty at_ rd : Int)   : MM l yX6_exchanges wsX6_exchanges 0 0 [.ref (b 0)] (modw cI b s pa he np ru t ty at_ rd) (modw cI b (blk s 0 he 522) pa (blk he 0 s 522) np ru t ty at_ rd) D cI cV (none) := by
  refine MM.of (cc := cX6_exchanges) (maxL := 3) (ret := none) (by decide) rfl (Nat.le_of_ble_eq_true rfl) ?_
  intro p e s0 m below meth c ls hx hb hr hts hown hlocks hml hW hK hl
  have hWk := hW
  have hown : s0.vm.findClass RX6 = some m.cls := hown
  have hin : ∀ w ∈ u_ws RX6 TX6 9, w ∈ wsX6_exchanges := by decide +kernel
  have hl : lv_has ls 3 [(0, .ref (b 0))] := hl
  refine j_c hx hb dX6_exchanges_0 ?_
  refine lv_istore_n (lv' := [(1, .int (iI (0))), (0, .ref (b 0))]) hx hb dX6_exchanges_1 rfl hl (by decide) rfl (fun ls hl => ?_)
  have LP2 : ∀ (fu : Nat) (j : Nat) (sj : Nat → Int) (hj : Nat → Int) (x1 : Int), x1 = (j : Int) → (j ≤ 522 ∧ sj = blk s 0 he j ∧ hj = blk he 0 s j) → 522 - j < fu → ∀ (H : Heap) (locs : List Loc), Wd D (ad (modw cI b s pa he np ru t ty at_ rd)) (modw cI b sj pa hj np ru t ty at_ rd) s0.heap H locs → ∀ ls : Array Slot, lv_has ls 3 [(1, .int (iI (x1))), (0, .ref (b 0))] → W p l e (headSpec wsX6_exchanges (rmK 0 0)).room s0 m ([.ref (b 0)] : List Value).toArray below meth c H locs 0 0 (MQ below (mQ D (none) (modw cI b (blk s 0 he 522) pa (blk he 0 s 522) np ru t ty at_ rd) (ad (modw cI b s pa he np ru t ty at_ rd))) ([.ref (b 0)] : List Value).toArray s0 0 0 (ad (modw cI b s pa he np ru t ty at_ rd))) (F0 m 2 ls []) := by
    intro fu
    induction fu with
    | zero =>
      intros
      omega
    | succ fu ih =>
      intro j sj hj x1 ex1 hinv hmeas H locs hW ls hl
      subst ex1
      refine lv_iload_n hx hb dX6_exchanges_2 rfl (lv_at hl 0 rfl) ?_
      refine j_si hx hb dX6_exchanges_3 rfl ?_
      refine j_ige (tgt := 41) hx hb (by omega) (by omega) dX6_exchanges_6 (by decide) (fun c1 => ?_) (fun c1 => ?_)
      · exact m_vret hx hb hr hlocks hW (by rw [hinv.2.1, hinv.2.2, show j = 522 from by omega]) dX6_exchanges_41
      · refine lv_aload_n hx hb dX6_exchanges_9 rfl (lv_at hl 1 rfl) ?_
        refine Mg0 hx hb hts hin hown hK hW.1 (by decide +kernel) dX6_exchanges_10 ?_
        refine lv_iload_n hx hb dX6_exchanges_13 rfl (lv_at hl 0 rfl) ?_
        refine Ma0 hx hb hK hW.1 (by omega) dX6_exchanges_14 ?_
        rw [Int.toNat_natCast]
        rw [show sj j = s j from by rw [hinv.2.1]; exact blk_out (by omega)]
        refine lv_istore_n (lv' := [(2, .int (iI (s j))), (1, .int (iI ((j : Int)))), (0, .ref (b 0))]) hx hb dX6_exchanges_15 rfl hl (by decide) rfl (fun ls hl => ?_)
        refine lv_aload_n hx hb dX6_exchanges_16 rfl (lv_at hl 2 rfl) ?_
        refine Mg0 hx hb hts hin hown hK hW.1 (by decide +kernel) dX6_exchanges_17 ?_
        refine lv_iload_n hx hb dX6_exchanges_20 rfl (lv_at hl 1 rfl) ?_
        refine lv_aload_n hx hb dX6_exchanges_21 rfl (lv_at hl 2 rfl) ?_
        refine Mg2 hx hb hts hin hown hK hW.1 (by decide +kernel) dX6_exchanges_22 ?_
        refine lv_iload_n hx hb dX6_exchanges_25 rfl (lv_at hl 1 rfl) ?_
        refine Ma2 hx hb hK hW.1 (by omega) dX6_exchanges_26 ?_
        rw [Int.toNat_natCast]
        rw [show hj j = he j from by rw [hinv.2.2]; exact blk_out (by omega)]
        refine Ms0 hx hb hK hW (by omega) dX6_exchanges_27 (fun H locs hW => ?_)
        rw [Int.toNat_natCast] at hW
        obtain ⟨s_1, es_1⟩ : ∃ zz_, zz_ = up sj (j) (he j) := ⟨_, rfl⟩
        rw [← es_1] at hW
        refine lv_aload_n hx hb dX6_exchanges_28 rfl (lv_at hl 2 rfl) ?_
        refine Mg2 hx hb hts hin hown hK hW.1 (by decide +kernel) dX6_exchanges_29 ?_
        refine lv_iload_n hx hb dX6_exchanges_32 rfl (lv_at hl 1 rfl) ?_
        refine lv_iload_n hx hb dX6_exchanges_33 rfl (lv_at hl 0 rfl) ?_
        refine Ms2 hx hb hK hW (by omega) dX6_exchanges_34 (fun H locs hW => ?_)
        rw [Int.toNat_natCast] at hW
        obtain ⟨he_2, ehe_2⟩ : ∃ zz_, zz_ = up hj (j) (s j) := ⟨_, rfl⟩
        rw [← ehe_2] at hW
        refine lv_iinc (v := iI ((j : Int) + 1)) (lv' := [(1, .int (iI ((j : Int) + 1))), (2, .int (iI (s j))), (0, .ref (b 0))]) hx hb dX6_exchanges_35 hl (k := 1) rfl (iI_add _ _) (by decide) rfl (fun ls hl => ?_)
        refine lv_goto (tgt := 2) hx hb dX6_exchanges_38 (by decide) ?_
        exact ih (j + 1) s_1 he_2 ((j : Int) + 1) (by first | rfl | omega | (simp only [sm, b2i]; (repeat' split) <;> first | rfl | omega | (exfalso; omega) | (exfalso; simp_all))) (by exact ⟨by omega, by rw [es_1, hinv.2.1]; exact blk_step0, by rw [ehe_2, hinv.2.2]; exact blk_step0⟩) (by omega) _ _ (hW) ls (lv_sub hl [0, 2] rfl)
  exact LP2 (_) 0 s he 0 (by first | rfl | omega) (by exact ⟨by omega, blk_0.symm, blk_0.symm⟩) (by exact Nat.lt_succ_self _) _ _ (hW) ls (lv_sub hl [0, 1] rfl)
set_option maxHeartbeats 4000000 in
set_option maxRecDepth 100000 in
theorem kX6_acts (l : Launch) (D : va_G) (cI cV : ClassId) (b : Nat → Nat) (s pa he : Nat → Int) (np ru : Int) (t : Nat → Int) (ty at_ rd : Int)  (hru : ru = 0 ∨ ru = 1) (hnp : 0 ≤ np ∧ np ≤ 5) : MM l yX6_acts wsX6_acts 0 0 [.ref (b 0)] (modw cI b s pa he np ru t ty at_ rd) (modw cI b s (if ru = 0 then (actP s pa np) else (pa)) he (if ru = 0 then (actN np + 1) else (np)) ru t ty at_ rd) D cI cV (none) := by
  refine MM.of (cc := cX6_acts) (maxL := 2) (ret := none) (by decide) rfl (Nat.le_of_ble_eq_true rfl) ?_
  intro p e s0 m below meth c ls hx hb hr hts hown hlocks hml hW hK hl
  have hWk := hW
  have hown : s0.vm.findClass RX6 = some m.cls := hown
  have hin : ∀ w ∈ u_ws RX6 TX6 9, w ∈ wsX6_acts := by decide +kernel
  have hl : lv_has ls 2 [(0, .ref (b 0))] := hl
  refine lv_aload_n hx hb dX6_acts_0 rfl (lv_at hl 0 rfl) ?_
  refine Mg4 hx hb hts hin hown hK hW.1 (by decide +kernel) dX6_acts_1 ?_
  refine j_zeq (tgt := 8) hx hb (by omega) dX6_acts_4 (by decide) (fun c1 => ?_) (fun c1 => ?_)
  · refine lv_aload_n hx hb dX6_acts_8 rfl (lv_at hl 0 rfl) ?_
    refine Mg3 hx hb hts hin hown hK hW.1 (by decide +kernel) dX6_acts_9 ?_
    refine j_c hx hb dX6_acts_12 ?_
    refine j_ine (tgt := 57) hx hb (by omega) (by omega) dX6_acts_13 (by decide) (fun c2 => ?_) (fun c2 => ?_)
    · refine j_c hx hb dX6_acts_57 ?_
      refine lv_istore_n (lv' := [(1, .int (iI (0))), (0, .ref (b 0))]) hx hb dX6_acts_58 rfl hl (by decide) rfl (fun ls hl => ?_)
      have LP59 : ∀ (fu : Nat) (k : Nat) (pk : Nat → Int) (x1 : Int), x1 = (k : Int) → (k ≤ 522 ∧ pk = blk (actB pa np) (522 * (actN np).toNat) s k) → 522 - k < fu → ∀ (H : Heap) (locs : List Loc), Wd D (ad (modw cI b s pa he np ru t ty at_ rd)) (modw cI b s pk he (actN np) ru t ty at_ rd) s0.heap H locs → ∀ ls : Array Slot, lv_has ls 2 [(1, .int (iI (x1))), (0, .ref (b 0))] → W p l e (headSpec wsX6_acts (rmK 0 0)).room s0 m ([.ref (b 0)] : List Value).toArray below meth c H locs 0 0 (MQ below (mQ D (none) (modw cI b s (if ru = 0 then (actP s pa np) else (pa)) he (if ru = 0 then (actN np + 1) else (np)) ru t ty at_ rd) (ad (modw cI b s pa he np ru t ty at_ rd))) ([.ref (b 0)] : List Value).toArray s0 0 0 (ad (modw cI b s pa he np ru t ty at_ rd))) (F0 m 59 ls []) := by
        intro fu
        induction fu with
        | zero =>
          intros
          omega
        | succ fu ih =>
          intro k pk x1 ex1 hinv hmeas H locs hW ls hl
          subst ex1
          have hN : 0 ≤ actN np ∧ actN np ≤ 4 := by unfold actN; split <;> omega
          refine lv_iload_n hx hb dX6_acts_59 rfl (lv_at hl 0 rfl) ?_
          refine j_si hx hb dX6_acts_60 rfl ?_
          refine j_ige (tgt := 93) hx hb (by omega) (by omega) dX6_acts_63 (by decide) (fun c3 => ?_) (fun c3 => ?_)
          · refine lv_aload_n hx hb dX6_acts_93 rfl (lv_at hl 1 rfl) ?_
            refine lv_dup hx hb dX6_acts_94 rfl ?_
            refine Mg3 hx hb hts hin hown hK hW.1 (by decide +kernel) dX6_acts_95 ?_
            refine j_c hx hb dX6_acts_98 ?_
            refine j_add hx hb dX6_acts_99 ?_
            refine Mp3 hx hb hts hin hown hK hW (by decide +kernel) dX6_acts_100 (fun H locs hW => ?_)
            exact m_vret hx hb hr hlocks hW (by (by_cases zq0 : ru = 0 <;> first | (simp only [if_pos zq0]; first | done | (first | done | rfl | (unfold actP; rw [hinv.2, show k = 522 from by omega]) | (exfalso; omega))) | (simp only [if_neg zq0]; first | done | (first | done | rfl | (unfold actP; rw [hinv.2, show k = 522 from by omega]) | (exfalso; omega))))) dX6_acts_103
          · refine lv_aload_n hx hb dX6_acts_66 rfl (lv_at hl 1 rfl) ?_
            refine Mg1 hx hb hts hin hown hK hW.1 (by decide +kernel) dX6_acts_67 ?_
            refine j_si hx hb dX6_acts_70 rfl ?_
            refine lv_aload_n hx hb dX6_acts_73 rfl (lv_at hl 1 rfl) ?_
            refine Mg3 hx hb hts hin hown hK hW.1 (by decide +kernel) dX6_acts_74 ?_
            refine j_mul hx hb dX6_acts_77 ?_
            refine lv_iload_n hx hb dX6_acts_78 rfl (lv_at hl 0 rfl) ?_
            refine j_add hx hb dX6_acts_79 ?_
            refine lv_aload_n hx hb dX6_acts_80 rfl (lv_at hl 1 rfl) ?_
            refine Mg0 hx hb hts hin hown hK hW.1 (by decide +kernel) dX6_acts_81 ?_
            refine lv_iload_n hx hb dX6_acts_84 rfl (lv_at hl 0 rfl) ?_
            refine Ma0 hx hb hK hW.1 (by omega) dX6_acts_85 ?_
            rw [Int.toNat_natCast]
            refine Ms1 hx hb hK hW (by omega) dX6_acts_86 (fun H locs hW => ?_)
            rw [show ((522 * (actN np)) + (k : Int) : Int).toNat = 522 * ((actN np).toNat) + k from by omega] at hW
            obtain ⟨pa_1, epa_1⟩ : ∃ zz_, zz_ = up pk (522 * ((actN np).toNat) + k) (s k) := ⟨_, rfl⟩
            rw [← epa_1] at hW
            refine lv_iinc (v := iI ((k : Int) + 1)) (lv' := [(1, .int (iI ((k : Int) + 1))), (0, .ref (b 0))]) hx hb dX6_acts_87 hl (k := 0) rfl (iI_add _ _) (by decide) rfl (fun ls hl => ?_)
            refine lv_goto (tgt := 59) hx hb dX6_acts_90 (by decide) ?_
            exact ih (k + 1) pa_1 ((k : Int) + 1) (by first | rfl | omega | (simp only [sm, b2i]; (repeat' split) <;> first | rfl | omega | (exfalso; omega) | (exfalso; simp_all))) (by exact ⟨by omega, by rw [epa_1, hinv.2]; exact blk_step⟩) (by omega) _ _ (hW) ls (lv_sub hl [0, 1] rfl)
      exact LP59 (_) 0 pa 0 (by first | rfl | omega) (by first | exact ⟨by omega, by rw [blk_0]; unfold actB; rw [if_pos (by omega), hinv.2, show j = 2088 from by omega]⟩ | exact ⟨by omega, by rw [blk_0]; unfold actB; rw [if_neg (by omega)]⟩) (by exact Nat.lt_succ_self _) _ _ (by first | (rw [show actN np = np from if_neg (by omega)]; exact hW) | (rw [show actN np = np - 1 from by rw [show actN np = 4 from if_pos (by omega)]; omega]; exact hW)) ls (lv_sub hl [0, 1] rfl)
    · refine j_c hx hb dX6_acts_16 ?_
      refine lv_istore_n (lv' := [(1, .int (iI (0))), (0, .ref (b 0))]) hx hb dX6_acts_17 rfl hl (by decide) rfl (fun ls hl => ?_)
      have LP18 : ∀ (fu : Nat) (j : Nat) (pj : Nat → Int) (x1 : Int), x1 = (j : Int) → (j ≤ 2088 ∧ pj = blk pa 0 (fun i => pa (i + 522)) j) → 2088 - j < fu → ∀ (H : Heap) (locs : List Loc), Wd D (ad (modw cI b s pa he np ru t ty at_ rd)) (modw cI b s pj he np ru t ty at_ rd) s0.heap H locs → ∀ ls : Array Slot, lv_has ls 2 [(1, .int (iI (x1))), (0, .ref (b 0))] → W p l e (headSpec wsX6_acts (rmK 0 0)).room s0 m ([.ref (b 0)] : List Value).toArray below meth c H locs 0 0 (MQ below (mQ D (none) (modw cI b s (if ru = 0 then (actP s pa np) else (pa)) he (if ru = 0 then (actN np + 1) else (np)) ru t ty at_ rd) (ad (modw cI b s pa he np ru t ty at_ rd))) ([.ref (b 0)] : List Value).toArray s0 0 0 (ad (modw cI b s pa he np ru t ty at_ rd))) (F0 m 18 ls []) := by
        intro fu
        induction fu with
        | zero =>
          intros
          omega
        | succ fu ih =>
          intro j pj x1 ex1 hinv hmeas H locs hW ls hl
          subst ex1
          refine lv_iload_n hx hb dX6_acts_18 rfl (lv_at hl 0 rfl) ?_
          refine j_si hx hb dX6_acts_19 rfl ?_
          refine j_ige (tgt := 47) hx hb (by omega) (by omega) dX6_acts_22 (by decide) (fun c4 => ?_) (fun c4 => ?_)
          · refine lv_aload_n hx hb dX6_acts_47 rfl (lv_at hl 1 rfl) ?_
            refine lv_dup hx hb dX6_acts_48 rfl ?_
            refine Mg3 hx hb hts hin hown hK hW.1 (by decide +kernel) dX6_acts_49 ?_
            refine j_c hx hb dX6_acts_52 ?_
            refine j_sub hx hb dX6_acts_53 ?_
            refine Mp3 hx hb hts hin hown hK hW (by decide +kernel) dX6_acts_54 (fun H locs hW => ?_)
            refine j_c hx hb dX6_acts_57 ?_
            refine lv_istore_n (lv' := [(1, .int (iI (0))), (0, .ref (b 0))]) hx hb dX6_acts_58 rfl hl (by decide) rfl (fun ls hl => ?_)
            have LP59 : ∀ (fu : Nat) (k : Nat) (pk : Nat → Int) (x1 : Int), x1 = (k : Int) → (k ≤ 522 ∧ pk = blk (actB pa np) (522 * (actN np).toNat) s k) → 522 - k < fu → ∀ (H : Heap) (locs : List Loc), Wd D (ad (modw cI b s pa he np ru t ty at_ rd)) (modw cI b s pk he (actN np) ru t ty at_ rd) s0.heap H locs → ∀ ls : Array Slot, lv_has ls 2 [(1, .int (iI (x1))), (0, .ref (b 0))] → W p l e (headSpec wsX6_acts (rmK 0 0)).room s0 m ([.ref (b 0)] : List Value).toArray below meth c H locs 0 0 (MQ below (mQ D (none) (modw cI b s (if ru = 0 then (actP s pa np) else (pa)) he (if ru = 0 then (actN np + 1) else (np)) ru t ty at_ rd) (ad (modw cI b s pa he np ru t ty at_ rd))) ([.ref (b 0)] : List Value).toArray s0 0 0 (ad (modw cI b s pa he np ru t ty at_ rd))) (F0 m 59 ls []) := by
              intro fu
              induction fu with
              | zero =>
                intros
                omega
              | succ fu ih =>
                intro k pk x1 ex1 hinv hmeas H locs hW ls hl
                subst ex1
                have hN : 0 ≤ actN np ∧ actN np ≤ 4 := by unfold actN; split <;> omega
                refine lv_iload_n hx hb dX6_acts_59 rfl (lv_at hl 0 rfl) ?_
                refine j_si hx hb dX6_acts_60 rfl ?_
                refine j_ige (tgt := 93) hx hb (by omega) (by omega) dX6_acts_63 (by decide) (fun c5 => ?_) (fun c5 => ?_)
                · refine lv_aload_n hx hb dX6_acts_93 rfl (lv_at hl 1 rfl) ?_
                  refine lv_dup hx hb dX6_acts_94 rfl ?_
                  refine Mg3 hx hb hts hin hown hK hW.1 (by decide +kernel) dX6_acts_95 ?_
                  refine j_c hx hb dX6_acts_98 ?_
                  refine j_add hx hb dX6_acts_99 ?_
                  refine Mp3 hx hb hts hin hown hK hW (by decide +kernel) dX6_acts_100 (fun H locs hW => ?_)
                  exact m_vret hx hb hr hlocks hW (by (by_cases zq0 : ru = 0 <;> first | (simp only [if_pos zq0]; first | done | (first | done | rfl | (unfold actP; rw [hinv.2, show k = 522 from by omega]) | (exfalso; omega))) | (simp only [if_neg zq0]; first | done | (first | done | rfl | (unfold actP; rw [hinv.2, show k = 522 from by omega]) | (exfalso; omega))))) dX6_acts_103
                · refine lv_aload_n hx hb dX6_acts_66 rfl (lv_at hl 1 rfl) ?_
                  refine Mg1 hx hb hts hin hown hK hW.1 (by decide +kernel) dX6_acts_67 ?_
                  refine j_si hx hb dX6_acts_70 rfl ?_
                  refine lv_aload_n hx hb dX6_acts_73 rfl (lv_at hl 1 rfl) ?_
                  refine Mg3 hx hb hts hin hown hK hW.1 (by decide +kernel) dX6_acts_74 ?_
                  refine j_mul hx hb dX6_acts_77 ?_
                  refine lv_iload_n hx hb dX6_acts_78 rfl (lv_at hl 0 rfl) ?_
                  refine j_add hx hb dX6_acts_79 ?_
                  refine lv_aload_n hx hb dX6_acts_80 rfl (lv_at hl 1 rfl) ?_
                  refine Mg0 hx hb hts hin hown hK hW.1 (by decide +kernel) dX6_acts_81 ?_
                  refine lv_iload_n hx hb dX6_acts_84 rfl (lv_at hl 0 rfl) ?_
                  refine Ma0 hx hb hK hW.1 (by omega) dX6_acts_85 ?_
                  rw [Int.toNat_natCast]
                  refine Ms1 hx hb hK hW (by omega) dX6_acts_86 (fun H locs hW => ?_)
                  rw [show ((522 * (actN np)) + (k : Int) : Int).toNat = 522 * ((actN np).toNat) + k from by omega] at hW
                  obtain ⟨pa_2, epa_2⟩ : ∃ zz_, zz_ = up pk (522 * ((actN np).toNat) + k) (s k) := ⟨_, rfl⟩
                  rw [← epa_2] at hW
                  refine lv_iinc (v := iI ((k : Int) + 1)) (lv' := [(1, .int (iI ((k : Int) + 1))), (0, .ref (b 0))]) hx hb dX6_acts_87 hl (k := 0) rfl (iI_add _ _) (by decide) rfl (fun ls hl => ?_)
                  refine lv_goto (tgt := 59) hx hb dX6_acts_90 (by decide) ?_
                  exact ih (k + 1) pa_2 ((k : Int) + 1) (by first | rfl | omega | (simp only [sm, b2i]; (repeat' split) <;> first | rfl | omega | (exfalso; omega) | (exfalso; simp_all))) (by exact ⟨by omega, by rw [epa_2, hinv.2]; exact blk_step⟩) (by omega) _ _ (hW) ls (lv_sub hl [0, 1] rfl)
            exact LP59 (_) 0 pj 0 (by first | rfl | omega) (by first | exact ⟨by omega, by rw [blk_0]; unfold actB; rw [if_pos (by omega), hinv.2, show j = 2088 from by omega]⟩ | exact ⟨by omega, by rw [blk_0]; unfold actB; rw [if_neg (by omega)]⟩) (by exact Nat.lt_succ_self _) _ _ (by first | (rw [show actN np = np from if_neg (by omega)]; exact hW) | (rw [show actN np = np - 1 from by rw [show actN np = 4 from if_pos (by omega)]; omega]; exact hW)) ls (lv_sub hl [0, 1] rfl)
          · refine lv_aload_n hx hb dX6_acts_25 rfl (lv_at hl 1 rfl) ?_
            refine Mg1 hx hb hts hin hown hK hW.1 (by decide +kernel) dX6_acts_26 ?_
            refine lv_iload_n hx hb dX6_acts_29 rfl (lv_at hl 0 rfl) ?_
            refine lv_aload_n hx hb dX6_acts_30 rfl (lv_at hl 1 rfl) ?_
            refine Mg1 hx hb hts hin hown hK hW.1 (by decide +kernel) dX6_acts_31 ?_
            refine lv_iload_n hx hb dX6_acts_34 rfl (lv_at hl 0 rfl) ?_
            refine j_si hx hb dX6_acts_35 rfl ?_
            refine j_add hx hb dX6_acts_38 ?_
            refine Ma1 hx hb hK hW.1 (by omega) dX6_acts_39 ?_
            rw [show ((j : Int) + 522 : Int).toNat = 522 + j from by omega]
            rw [show pj (522 + j) = pa (j + 522) from by rw [hinv.2, Nat.add_comm 522 j]; exact blk_out (by omega)]
            refine Ms1 hx hb hK hW (by omega) dX6_acts_40 (fun H locs hW => ?_)
            rw [Int.toNat_natCast] at hW
            obtain ⟨pa_3, epa_3⟩ : ∃ zz_, zz_ = up pj (j) (pa (j + 522)) := ⟨_, rfl⟩
            rw [← epa_3] at hW
            refine lv_iinc (v := iI ((j : Int) + 1)) (lv' := [(1, .int (iI ((j : Int) + 1))), (0, .ref (b 0))]) hx hb dX6_acts_41 hl (k := 0) rfl (iI_add _ _) (by decide) rfl (fun ls hl => ?_)
            refine lv_goto (tgt := 18) hx hb dX6_acts_44 (by decide) ?_
            exact ih (j + 1) pa_3 ((j : Int) + 1) (by first | rfl | omega | (simp only [sm, b2i]; (repeat' split) <;> first | rfl | omega | (exfalso; omega) | (exfalso; simp_all))) (by exact ⟨by omega, by rw [epa_3, hinv.2]; exact blk_step0⟩) (by omega) _ _ (hW) ls (lv_sub hl [0, 1] rfl)
      exact LP18 (_) 0 pa 0 (by first | rfl | omega) (by exact ⟨by omega, blk_0.symm⟩) (by exact Nat.lt_succ_self _) _ _ (hW) ls (lv_sub hl [0, 1] rfl)
  · exact m_vret hx hb hr hlocks hW (by (by_cases zq0 : ru = 0 <;> first | (simp only [if_pos zq0]; first | done | (first | done | rfl | (unfold actP; rw [hinv.2, show k = 522 from by omega]) | (exfalso; omega))) | (simp only [if_neg zq0]; first | done | (first | done | rfl | (unfold actP; rw [hinv.2, show k = 522 from by omega]) | (exfalso; omega))))) dX6_acts_7
set_option maxHeartbeats 4000000 in
set_option maxRecDepth 100000 in
theorem kX6_ends (l : Launch) (D : va_G) (cI cV : ClassId) (b : Nat → Nat) (s pa he : Nat → Int) (np ru : Int) (t : Nat → Int) (ty at_ rd : Int)  (hM : MS s) : MM l yX6_ends wsX6_ends 0 0 [.ref (b 0)] (modw cI b s pa he np ru t ty at_ rd) (modw cI b (endM s) pa he np ru t ty at_ rd) D cI cV (none) := by
  refine MM.of (cc := cX6_ends) (maxL := 2) (ret := none) (by decide) rfl (Nat.le_of_ble_eq_true rfl) ?_
  intro p e s0 m below meth c ls hx hb hr hts hown hlocks hml hW hK hl
  have hWk := hW
  have hown : s0.vm.findClass RX6 = some m.cls := hown
  have hin : ∀ w ∈ u_ws RX6 TX6 9, w ∈ wsX6_ends := by decide +kernel
  have hl : lv_has ls 2 [(0, .ref (b 0))] := hl
  obtain ⟨hbs, h00, h01, h10, h11, h30, h31, h40, h41, h70, h71, h60, h61, hco, hcn⟩ := id hM
  have hb5 := hbs 5
  have hb2 := hbs 2
  refine j_c hx hb dX6_ends_0 ?_
  refine lv_istore_n (lv' := [(1, .int (iI (0))), (0, .ref (b 0))]) hx hb dX6_ends_1 rfl hl (by decide) rfl (fun ls hl => ?_)
  have LP2 : ∀ (fu : Nat) (j : Nat) (sj : Nat → Int) (x1 : Int), x1 = (j : Int) → ((j : Int) ≤ s 1 ∧ sj = blk s 32 (fun i => s (37 + i)) j) → (s 1).toNat - j < fu → ∀ (H : Heap) (locs : List Loc), Wd D (ad (modw cI b s pa he np ru t ty at_ rd)) (modw cI b sj pa he np ru t ty at_ rd) s0.heap H locs → ∀ ls : Array Slot, lv_has ls 2 [(1, .int (iI (x1))), (0, .ref (b 0))] → W p l e (headSpec wsX6_ends (rmK 0 0)).room s0 m ([.ref (b 0)] : List Value).toArray below meth c H locs 0 0 (MQ below (mQ D (none) (modw cI b (endM s) pa he np ru t ty at_ rd) (ad (modw cI b s pa he np ru t ty at_ rd))) ([.ref (b 0)] : List Value).toArray s0 0 0 (ad (modw cI b s pa he np ru t ty at_ rd))) (F0 m 2 ls []) := by
    intro fu
    induction fu with
    | zero =>
      intros
      omega
    | succ fu ih =>
      intro j sj x1 ex1 hinv hmeas H locs hW ls hl
      subst ex1
      have hj1 : sj 1 = s 1 := by rw [hinv.2]; exact blk_out (by omega)
      refine lv_iload_n hx hb dX6_ends_2 rfl (lv_at hl 0 rfl) ?_
      refine lv_aload_n hx hb dX6_ends_3 rfl (lv_at hl 1 rfl) ?_
      refine Mg0 hx hb hts hin hown hK hW.1 (by decide +kernel) dX6_ends_4 ?_
      refine j_c hx hb dX6_ends_7 ?_
      refine Ma0 hx hb hK hW.1 (by omega) dX6_ends_8 ?_
      rw [show (1 : Int).toNat = 1 from by omega]
      rw [show sj 1 = s 1 from by rw [hinv.2]; exact blk_out (by omega)]
      refine j_ige (tgt := 36) hx hb (by omega) (by omega) dX6_ends_9 (by decide) (fun c1 => ?_) (fun c1 => ?_)
      · have hjj : j = (s 1).toNat := by omega
        rw [hjj] at hinv
        refine lv_aload_n hx hb dX6_ends_36 rfl (lv_at hl 1 rfl) ?_
        refine Mg0 hx hb hts hin hown hK hW.1 (by decide +kernel) dX6_ends_37 ?_
        refine j_c hx hb dX6_ends_40 ?_
        refine j_bi hx hb dX6_ends_41 rfl ?_
        refine Ms0 hx hb hK hW (by omega) dX6_ends_43 (fun H locs hW => ?_)
        rw [show (5 : Int).toNat = 5 from by omega] at hW
        obtain ⟨s_1, es_1⟩ : ∃ zz_, zz_ = up sj (5) ((-9)) := ⟨_, rfl⟩
        rw [← es_1] at hW
        refine lv_aload_n hx hb dX6_ends_44 rfl (lv_at hl 1 rfl) ?_
        refine Mg0 hx hb hts hin hown hK hW.1 (by decide +kernel) dX6_ends_45 ?_
        refine j_c hx hb dX6_ends_48 ?_
        refine lv_dup2_11 hx hb dX6_ends_49 rfl rfl ?_
        refine Ma0 hx hb hK hW.1 (by omega) dX6_ends_50 ?_
        rw [show (2 : Int).toNat = 2 from by omega]
        rw [show s_1 2 = sj 2 from by rw [es_1, up_ne (by omega)]]
        refine j_c hx hb dX6_ends_51 ?_
        refine j_add hx hb dX6_ends_52 ?_
        refine Ms0 hx hb hK hW (by omega) dX6_ends_53 (fun H locs hW => ?_)
        rw [show (2 : Int).toNat = 2 from by omega] at hW
        obtain ⟨s_2, es_2⟩ : ∃ zz_, zz_ = up s_1 (2) ((sj 2) + 1) := ⟨_, rfl⟩
        rw [← es_2] at hW
        exact m_vret hx hb hr hlocks hW (by subst es_2; subst es_1; rw [hinv.2]; rfl) dX6_ends_54
      · refine lv_aload_n hx hb dX6_ends_12 rfl (lv_at hl 1 rfl) ?_
        refine Mg0 hx hb hts hin hown hK hW.1 (by decide +kernel) dX6_ends_13 ?_
        refine j_bi hx hb dX6_ends_16 rfl ?_
        refine lv_iload_n hx hb dX6_ends_18 rfl (lv_at hl 0 rfl) ?_
        refine j_add hx hb dX6_ends_19 ?_
        refine lv_aload_n hx hb dX6_ends_20 rfl (lv_at hl 1 rfl) ?_
        refine Mg0 hx hb hts hin hown hK hW.1 (by decide +kernel) dX6_ends_21 ?_
        refine j_bi hx hb dX6_ends_24 rfl ?_
        refine lv_iload_n hx hb dX6_ends_26 rfl (lv_at hl 0 rfl) ?_
        refine j_add hx hb dX6_ends_27 ?_
        refine Ma0 hx hb hK hW.1 (by omega) dX6_ends_28 ?_
        rw [show (37 + (j : Int) : Int).toNat = 37 + j from by omega]
        rw [show sj (37 + j) = s (37 + j) from by rw [hinv.2]; exact blk_out (by omega)]
        refine Ms0 hx hb hK hW (by omega) dX6_ends_29 (fun H locs hW => ?_)
        rw [show (32 + (j : Int) : Int).toNat = 32 + j from by omega] at hW
        obtain ⟨s_3, es_3⟩ : ∃ zz_, zz_ = up sj (32 + j) (s (37 + j)) := ⟨_, rfl⟩
        rw [← es_3] at hW
        refine lv_iinc (v := iI ((j : Int) + 1)) (lv' := [(1, .int (iI ((j : Int) + 1))), (0, .ref (b 0))]) hx hb dX6_ends_30 hl (k := 0) rfl (iI_add _ _) (by decide) rfl (fun ls hl => ?_)
        refine lv_goto (tgt := 2) hx hb dX6_ends_33 (by decide) ?_
        exact ih (j + 1) s_3 ((j : Int) + 1) (by first | rfl | omega | (simp only [sm, b2i]; (repeat' split) <;> first | rfl | omega | (exfalso; omega) | (exfalso; simp_all))) (by exact ⟨by omega, by rw [es_3, hinv.2]; exact blk_step⟩) (by omega) _ _ (hW) ls (lv_sub hl [0, 1] rfl)
  exact LP2 (_) 0 s 0 (by first | rfl | omega) (by exact ⟨by omega, blk_0.symm⟩) (by exact Nat.lt_succ_self _) _ _ (hW) ls (lv_sub hl [0, 1] rfl)
set_option maxHeartbeats 4000000 in
set_option maxRecDepth 100000 in
theorem kX6_undo (l : Launch) (D : va_G) (cI cV : ClassId) (b : Nat → Nat) (s pa he : Nat → Int) (np ru : Int) (t : Nat → Int) (ty at_ rd : Int)  (hnp : 0 ≤ np ∧ np ≤ 5) : MM l yX6_undo wsX6_undo 0 0 [.ref (b 0)] (modw cI b s pa he np ru t ty at_ rd) (modw cI b (if np = 0 then (s) else (blk s 0 (fun j => pa (522 * (np - 1).toNat + j)) 522)) pa he (if np = 0 then (np) else (np - 1)) ru t ty at_ rd) D cI cV (some (.int (iI (if np = 0 then (-2) else (np - 1))))) := by
  refine MM.of (cc := cX6_undo) (maxL := 2) (ret := (some .int)) (by decide) rfl (Nat.le_of_ble_eq_true rfl) ?_
  intro p e s0 m below meth c ls hx hb hr hts hown hlocks hml hW hK hl
  have hWk := hW
  have hown : s0.vm.findClass RX6 = some m.cls := hown
  have hin : ∀ w ∈ u_ws RX6 TX6 9, w ∈ wsX6_undo := by decide +kernel
  have hl : lv_has ls 2 [(0, .ref (b 0))] := hl
  refine lv_aload_n hx hb dX6_undo_0 rfl (lv_at hl 0 rfl) ?_
  refine Mg3 hx hb hts hin hown hK hW.1 (by decide +kernel) dX6_undo_1 ?_
  refine j_zne (tgt := 10) hx hb (by omega) dX6_undo_4 (by decide) (fun c1 => ?_) (fun c1 => ?_)
  · refine lv_aload_n hx hb dX6_undo_10 rfl (lv_at hl 0 rfl) ?_
    refine lv_dup hx hb dX6_undo_11 rfl ?_
    refine Mg3 hx hb hts hin hown hK hW.1 (by decide +kernel) dX6_undo_12 ?_
    refine j_c hx hb dX6_undo_15 ?_
    refine j_sub hx hb dX6_undo_16 ?_
    refine Mp3 hx hb hts hin hown hK hW (by decide +kernel) dX6_undo_17 (fun H locs hW => ?_)
    refine j_c hx hb dX6_undo_20 ?_
    refine lv_istore_n (lv' := [(1, .int (iI (0))), (0, .ref (b 0))]) hx hb dX6_undo_21 rfl hl (by decide) rfl (fun ls hl => ?_)
    have LP22 : ∀ (fu : Nat) (j : Nat) (sj : Nat → Int) (x1 : Int), x1 = (j : Int) → (j ≤ 522 ∧ sj = blk s 0 (fun j => pa (522 * (np - 1).toNat + j)) j) → 522 - j < fu → ∀ (H : Heap) (locs : List Loc), Wd D (ad (modw cI b s pa he np ru t ty at_ rd)) (modw cI b sj pa he (np - 1) ru t ty at_ rd) s0.heap H locs → ∀ ls : Array Slot, lv_has ls 2 [(1, .int (iI (x1))), (0, .ref (b 0))] → W p l e (headSpec wsX6_undo (rmK 0 0)).room s0 m ([.ref (b 0)] : List Value).toArray below meth c H locs 0 0 (MQ below (mQ D (some (.int (iI (if np = 0 then (-2) else (np - 1))))) (modw cI b (if np = 0 then (s) else (blk s 0 (fun j => pa (522 * (np - 1).toNat + j)) 522)) pa he (if np = 0 then (np) else (np - 1)) ru t ty at_ rd) (ad (modw cI b s pa he np ru t ty at_ rd))) ([.ref (b 0)] : List Value).toArray s0 0 0 (ad (modw cI b s pa he np ru t ty at_ rd))) (F0 m 22 ls []) := by
      intro fu
      induction fu with
      | zero =>
        intros
        omega
      | succ fu ih =>
        intro j sj x1 ex1 hinv hmeas H locs hW ls hl
        subst ex1
        refine lv_iload_n hx hb dX6_undo_22 rfl (lv_at hl 0 rfl) ?_
        refine j_si hx hb dX6_undo_23 rfl ?_
        refine j_ige (tgt := 56) hx hb (by omega) (by omega) dX6_undo_26 (by decide) (fun c2 => ?_) (fun c2 => ?_)
        · refine lv_aload_n hx hb dX6_undo_56 rfl (lv_at hl 1 rfl) ?_
          refine Mg3 hx hb hts hin hown hK hW.1 (by decide +kernel) dX6_undo_57 ?_
          exact m_iret hx hb hr hlocks hW (by (by_cases zq0 : np = 0 <;> first | (simp only [if_pos zq0]; first | done | (first | done | rfl | (rw [hinv.2, show j = 522 from by omega]; done) | (exfalso; omega))) | (simp only [if_neg zq0]; first | done | (first | done | rfl | (rw [hinv.2, show j = 522 from by omega]; done) | (exfalso; omega))))) (by (by_cases zq0 : np = 0 <;> first | (rw [if_pos zq0]; first | done | (first | done | omega | rfl | (exfalso; omega))) | (rw [if_neg zq0]; first | done | (first | done | omega | rfl | (exfalso; omega))))) dX6_undo_60
        · refine lv_aload_n hx hb dX6_undo_29 rfl (lv_at hl 1 rfl) ?_
          refine Mg0 hx hb hts hin hown hK hW.1 (by decide +kernel) dX6_undo_30 ?_
          refine lv_iload_n hx hb dX6_undo_33 rfl (lv_at hl 0 rfl) ?_
          refine lv_aload_n hx hb dX6_undo_34 rfl (lv_at hl 1 rfl) ?_
          refine Mg1 hx hb hts hin hown hK hW.1 (by decide +kernel) dX6_undo_35 ?_
          refine j_si hx hb dX6_undo_38 rfl ?_
          refine lv_aload_n hx hb dX6_undo_41 rfl (lv_at hl 1 rfl) ?_
          refine Mg3 hx hb hts hin hown hK hW.1 (by decide +kernel) dX6_undo_42 ?_
          refine j_mul hx hb dX6_undo_45 ?_
          refine lv_iload_n hx hb dX6_undo_46 rfl (lv_at hl 0 rfl) ?_
          refine j_add hx hb dX6_undo_47 ?_
          refine Ma1 hx hb hK hW.1 (by omega) dX6_undo_48 ?_
          rw [show ((522 * (np - 1)) + (j : Int) : Int).toNat = 522 * ((np - 1).toNat) + j from by omega]
          skip
          refine Ms0 hx hb hK hW (by omega) dX6_undo_49 (fun H locs hW => ?_)
          rw [Int.toNat_natCast] at hW
          obtain ⟨s_1, es_1⟩ : ∃ zz_, zz_ = up sj (j) (pa (522 * (np - 1).toNat + j)) := ⟨_, rfl⟩
          rw [← es_1] at hW
          refine lv_iinc (v := iI ((j : Int) + 1)) (lv' := [(1, .int (iI ((j : Int) + 1))), (0, .ref (b 0))]) hx hb dX6_undo_50 hl (k := 0) rfl (iI_add _ _) (by decide) rfl (fun ls hl => ?_)
          refine lv_goto (tgt := 22) hx hb dX6_undo_53 (by decide) ?_
          exact ih (j + 1) s_1 ((j : Int) + 1) (by first | rfl | omega | (simp only [sm, b2i]; (repeat' split) <;> first | rfl | omega | (exfalso; omega) | (exfalso; simp_all))) (by exact ⟨by omega, by rw [es_1, hinv.2]; exact blk_step0⟩) (by omega) _ _ (hW) ls (lv_sub hl [0, 1] rfl)
    exact LP22 (_) 0 s 0 (by first | rfl | omega) (by exact ⟨by omega, blk_0.symm⟩) (by exact Nat.lt_succ_self _) _ _ (hW) ls (lv_sub hl [0, 1] rfl)
  · refine j_bi hx hb dX6_undo_7 rfl ?_
    exact m_iret hx hb hr hlocks hW (by (by_cases zq0 : np = 0 <;> first | (simp only [if_pos zq0]; first | done | (first | done | rfl | (rw [hinv.2, show j = 522 from by omega]; done) | (exfalso; omega))) | (simp only [if_neg zq0]; first | done | (first | done | rfl | (rw [hinv.2, show j = 522 from by omega]; done) | (exfalso; omega))))) (by (by_cases zq0 : np = 0 <;> first | (rw [if_pos zq0]; first | done | (first | done | omega | rfl | (exfalso; omega))) | (rw [if_neg zq0]; first | done | (first | done | omega | rfl | (exfalso; omega))))) dX6_undo_9
