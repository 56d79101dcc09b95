theorem MS_6 {s : Nat → Int} {x : Int} (h : MS s) (hx : 0 ≤ x ∧ x < 65536) : MS (up s 6 x) := by
  have h2 := h
  obtain ⟨hb, k0, k1, k2, k3, k4, k5, k6, k7, k8, k9, k10, k11, ho, hn⟩ := h2
  exact MS_ex h (bd_up hb (by omega)) (Or.inl (up_ne (by omega))) (by rw [up_ne (by omega)]; omega) (Or.inl (up_ne (by omega))) (Or.inl (up_ne (by omega))) (by rw [up_at rfl]; omega) (Or.inl (up_ne (by omega))) (fun i hi => by rw [up_ne (by omega)]; exact ho i hi) (fun i hi => by rw [up_ne (by omega)]; exact hn i hi)
theorem MS_7 {s : Nat → Int} (h : MS s) (h7 : s 7 < 60) : MS (up s 7 (s 7 + 1)) := by
  have h2 := h
  obtain ⟨hb, k0, k1, k2, k3, k4, k5, k6, k7, k8, k9, k10, k11, ho, hn⟩ := h2
  exact MS_ex h (bd_up hb (by omega)) (Or.inl (up_ne (by omega))) (by rw [up_ne (by omega)]; omega) (Or.inl (up_ne (by omega))) (Or.inl (up_ne (by omega))) (by rw [up_ne (by omega)]; omega) (Or.inr ⟨up_at rfl, h7⟩) (fun i hi => by rw [up_ne (by omega)]; exact ho i hi) (fun i hi => by rw [up_ne (by omega)]; exact hn i hi)
theorem MS_nw {s v : Nat → Int} {k : Nat} (h : MS s) (hk : k ≤ 5) (hv : ∀ i, i < 5 → 0 ≤ v i ∧ v i < 12) : MS (blk s 37 v k) := by
  have h2 := h
  obtain ⟨hb, k0, k1, k2, k3, k4, k5, k6, k7, k8, k9, k10, k11, ho, hn⟩ := h2
  refine MS_ex h (fun j => ?_) (Or.inl (blk_out (by omega))) (by rw [blk_out (by omega)]; omega) (Or.inl (blk_out (by omega))) (Or.inl (blk_out (by omega))) (by rw [blk_out (by omega)]; omega) (Or.inl (blk_out (by omega))) (fun i hi => by rw [blk_out (by omega)]; exact ho i hi) (fun i hi => ?_)
  · unfold blk
    split
    · have := hv (j - 37) (by omega)
      omega
    · exact hb j
  · by_cases q : i < k
    · rw [blk_in q]
      exact hv i hi
    · rw [blk_out (by omega)]
      exact hn i hi
theorem pickL_ok {f : Nat → Int} {p : Int} (hf : ∀ k, 0 ≤ f k ∧ f k ≤ 1) (hp : 0 ≤ p) : ∀ n, p < sm f n → 0 ≤ pickL f p n
  | 0, h => by
    simp only [sm] at h
    omega
  | n + 1, h => by
    simp only [sm] at h
    simp only [pickL]
    have h1 := hf n
    by_cases q : f n = 1 ∧ sm f n = p
    · rw [if_pos q]
      omega
    · rw [if_neg q]
      refine pickL_ok hf hp n ?_
      omega
def chA (s : Nat → Int) (n : Int) : Nat → Int := up (up (up s (222 + 5 * (s 7).toNat) (s 6)) (223 + 5 * (s 7).toNat) n) 6 ((s 6 * 25173 + 13849) % 65536)
theorem chA_ne {s : Nat → Int} {n : Int} {j : Nat} (h : j ≠ 6 ∧ j < 222) : chA s n j = s j := by
  unfold chA
  rw [up_ne (by omega), up_ne (by omega), up_ne (by omega)]
theorem chA_6 {s : Nat → Int} {n : Int} : chA s n 6 = (s 6 * 25173 + 13849) % 65536 := up_at rfl
theorem MS_chA {s : Nat → Int} {n : Int} (h : MS s) (hn : bd n) : MS (chA s n) := by
  unfold chA
  exact MS_6 (MS_up (MS_up h (by omega) (h.1 6)) (by omega) hn) (by omega)
def chB (c : Nat → Int) (d : Nat) (v y : Int) : Nat → Int := up (up (up (up c (224 + 5 * d) v) (225 + 5 * d) v) (226 + 5 * d) y) 7 (c 7 + 1)
theorem chB_ne {c : Nat → Int} {d : Nat} {v y : Int} {j : Nat} (h : j ≠ 7 ∧ j < 222) : chB c d v y j = c j := by
  unfold chB
  rw [up_ne (by omega), up_ne (by omega), up_ne (by omega), up_ne (by omega)]
theorem MS_chB {c : Nat → Int} {d : Nat} {v y : Int} (h : MS c) (hv : bd v) (hy : bd y) (h7 : c 7 < 60) : MS (chB c d v y) := by
  unfold chB
  have h1 := MS_up (k := 226 + 5 * d) (MS_up (k := 225 + 5 * d) (MS_up (k := 224 + 5 * d) h (by omega) hv) (by omega) hv) (by omega) hy
  have e : up (up (up c (224 + 5 * d) v) (225 + 5 * d) v) (226 + 5 * d) y 7 = c 7 := by rw [up_ne (by omega), up_ne (by omega), up_ne (by omega)]
  have h2 := MS_7 h1 (by omega)
  rw [e] at h2
  exact h2
set_option maxHeartbeats 4000000 in
set_option maxRecDepth 100000 in
theorem kX6_change (l : Launch) (D : va_G) (cI cV : ClassId) (b : Nat → Nat) (s pa he : Nat → Int) (np ru : Int) (t : Nat → Int) (ty at_ rd : Int) (x : Int) (y : Int) (nn : Int) (cA : Nat → Int) (vi : Int) (cB : Nat → Int) (cC : Nat → Int) (hM : MS s) (hru : ru = 0 ∨ ru = 1) (hnp : 0 ≤ np ∧ np ≤ 5) (r_x : rg x) (r_y : rg y) (h24 : s 2 ≤ s 4) (h73 : s 7 ≤ s 3) (e_nn : nn = sm (fun i => b2i (seatL (fun i => s (32 + i)) (i : Int) (s 1).toNat = -9)) (s 0).toNat) (e_cA : cA = chA s nn) (evi : vi = pickL (fun i => b2i (seatL (fun i => cA (32 + i)) (i : Int) (cA 1).toNat = -9)) (cA 6 % nn) (cA 0).toNat) (hnc : nn = sm (fun i => b2i (seatL (fun i => cA (32 + i)) (i : Int) (cA 1).toNat = -9)) (cA 0).toNat) (e_cB : cB = chB cA (s 7).toNat vi y) (e_cC : cC = blk cB 37 (fun i => if (i : Int) = y then vi else cB (32 + i)) (s 1).toNat) : MM l yX6_change wsX6_change 4 82 [.ref (b 0), .int (iI (x)), .int (iI (y))] (modw cI b s pa he np ru t ty at_ rd) (modw cI b (if ¬ (0 ≤ x ∧ x < s 0) ∨ ¬ (0 ≤ y ∧ y < s 1) then (s) else (if s 5 ≠ -9 ∨ ¬ ((seatL (fun i => s (32 + i)) (x) (s 1).toNat ≠ -9 ∨ seatL (fun i => s ((if s 5 ≠ -9 then (37 : Int) else 32).toNat + i)) (x) (s 1).toNat ≠ -9) ∧ s (8 + x.toNat) = 1 ∧ s (20 + x.toNat) = s 3) ∨ nn = 0 then (s) else (if s 3 = 60 then (s) else (mgS ((up (wtS cC x (-9)) 5 (cC 3)) 3 - (up (wtS cC x (-9)) 5 (cC 3)) 4).toNat (up (wtS cC x (-9)) 5 (cC 3)))))) (if ¬ (0 ≤ x ∧ x < s 0) ∨ ¬ (0 ≤ y ∧ y < s 1) then (pa) else (if s 5 ≠ -9 ∨ ¬ ((seatL (fun i => s (32 + i)) (x) (s 1).toNat ≠ -9 ∨ seatL (fun i => s ((if s 5 ≠ -9 then (37 : Int) else 32).toNat + i)) (x) (s 1).toNat ≠ -9) ∧ s (8 + x.toNat) = 1 ∧ s (20 + x.toNat) = s 3) ∨ nn = 0 then (pa) else (if s 3 = 60 then (pa) else (if ru = 0 then actP s pa np else pa)))) he (if ¬ (0 ≤ x ∧ x < s 0) ∨ ¬ (0 ≤ y ∧ y < s 1) then (np) else (if s 5 ≠ -9 ∨ ¬ ((seatL (fun i => s (32 + i)) (x) (s 1).toNat ≠ -9 ∨ seatL (fun i => s ((if s 5 ≠ -9 then (37 : Int) else 32).toNat + i)) (x) (s 1).toNat ≠ -9) ∧ s (8 + x.toNat) = 1 ∧ s (20 + x.toNat) = s 3) ∨ nn = 0 then (np) else (if s 3 = 60 then (np) else (if ru = 0 then actN np + 1 else np)))) ru t ty at_ rd) D cI cV (some (.int (iI (if ¬ (0 ≤ x ∧ x < s 0) ∨ ¬ (0 ≤ y ∧ y < s 1) then (-1) else (if s 5 ≠ -9 ∨ ¬ ((seatL (fun i => s (32 + i)) (x) (s 1).toNat ≠ -9 ∨ seatL (fun i => s ((if s 5 ≠ -9 then (37 : Int) else 32).toNat + i)) (x) (s 1).toNat ≠ -9) ∧ s (8 + x.toNat) = 1 ∧ s (20 + x.toNat) = s 3) ∨ nn = 0 then (-2) else (if s 3 = 60 then (-3) else (if (mgS ((up (wtS cC x (-9)) 5 (cC 3)) 3 - (up (wtS cC x (-9)) 5 (cC 3)) 4).toNat (up (wtS cC x (-9)) 5 (cC 3))) 4 - (up (wtS cC x (-9)) 5 (cC 3)) 4 < 0 then (-9) else (vi)))))))) := by
  refine MM.of (cc := cX6_change) (maxL := 7) (ret := (some .int)) (by decide) rfl (Nat.le_of_ble_eq_true rfl) ?_
  intro p e s0 m below meth c ls hx hb hr hts hown hlocks hml hW hK hl
  have hWk := hW
  have hown : s0.vm.findClass RX6 = some m.cls := hown
  have hin : ∀ w ∈ u_ws RX6 TX6 9, w ∈ wsX6_change := by decide +kernel
  have hl : lv_has ls 7 [(0, .ref (b 0)), (1, .int (iI (x))), (2, .int (iI (y)))] := hl
  obtain ⟨hbs, h00, h01, h10, h11, h30, h31, h40, h41, h70, h71, h60, h61, hco, hcn⟩ := id hM
  have hb5 := hbs 5
  have hb2 := hbs 2
  refine lv_aload_n hx hb dX6_change_0 rfl (lv_at hl 0 rfl) ?_
  refine lv_iload_n hx hb dX6_change_1 rfl (lv_at hl 1 rfl) ?_
  refine p_callV (v := .int (iI (b2i (0 ≤ x ∧ x < s 0)))) (ci := 6) (n := 1) (As := [.int (iI (x))]) (rest := []) ⟨hx, hb, hml, hown, hts⟩ hK (kX6_isVillager l D cI cV b s pa he np ru t ty at_ rd x hM (by omega)) hW.1 rfl rfl gX6_change_X6_isVillager rfl (by decide +kernel) ⟨Nat.le_of_ble_eq_true rfl, Nat.le_of_ble_eq_true rfl⟩ rfl hl.1 (Nat.le_of_ble_eq_true rfl) dX6_change_2 ⟨Nat.zero_le _, Nat.zero_le _⟩ rfl ?_
  refine j_beq (tgt := 16) hx hb dX6_change_5 (by decide) (fun c1 => ?_) (fun c1 => ?_)
  · refine j_c hx hb dX6_change_16 ?_
    exact m_iret hx hb hr hlocks hW (by (by_cases zq0 : ¬ (0 ≤ x ∧ x < s 0) ∨ ¬ (0 ≤ y ∧ y < s 1) <;> first | (simp only [if_pos zq0]; first | done | (first | rfl | ( rfl) | (exfalso; omega))) | (simp only [if_neg zq0]; first | done | (by_cases zq1 : s 5 ≠ -9 ∨ ¬ ((seatL (fun i => s (32 + i)) (x) (s 1).toNat ≠ -9 ∨ seatL (fun i => s ((if s 5 ≠ -9 then (37 : Int) else 32).toNat + i)) (x) (s 1).toNat ≠ -9) ∧ s (8 + x.toNat) = 1 ∧ s (20 + x.toNat) = s 3) ∨ nn = 0 <;> first | (simp only [if_pos zq1]; first | done | (first | rfl | ( rfl) | (exfalso; omega))) | (simp only [if_neg zq1]; first | done | (by_cases zq2 : s 3 = 60 <;> first | (simp only [if_pos zq2]; first | done | (first | rfl | ( rfl) | (exfalso; omega))) | (simp only [if_neg zq2]; first | done | (first | rfl | ( rfl) | (exfalso; omega))))))))) (by (by_cases zq0 : ¬ (0 ≤ x ∧ x < s 0) ∨ ¬ (0 ≤ y ∧ y < s 1) <;> first | (rw [if_pos zq0]; first | done | (first | done | omega | ( rfl) | ( omega) | (exfalso; omega) | ( exfalso; omega))) | (rw [if_neg zq0]; first | done | (by_cases zq1 : s 5 ≠ -9 ∨ ¬ ((seatL (fun i => s (32 + i)) (x) (s 1).toNat ≠ -9 ∨ seatL (fun i => s ((if s 5 ≠ -9 then (37 : Int) else 32).toNat + i)) (x) (s 1).toNat ≠ -9) ∧ s (8 + x.toNat) = 1 ∧ s (20 + x.toNat) = s 3) ∨ nn = 0 <;> first | (rw [if_pos zq1]; first | done | (first | done | omega | ( rfl) | ( omega) | (exfalso; omega) | ( exfalso; omega))) | (rw [if_neg zq1]; first | done | (by_cases zq2 : s 3 = 60 <;> first | (rw [if_pos zq2]; first | done | (first | done | omega | ( rfl) | ( omega) | (exfalso; omega) | ( exfalso; omega))) | (rw [if_neg zq2]; first | done | (by_cases zq3 : (mgS ((up (wtS cC x (-9)) 5 (cC 3)) 3 - (up (wtS cC x (-9)) 5 (cC 3)) 4).toNat (up (wtS cC x (-9)) 5 (cC 3))) 4 - (up (wtS cC x (-9)) 5 (cC 3)) 4 < 0 <;> first | (rw [if_pos zq3]; first | done | (first | done | omega | ( rfl) | ( omega) | (exfalso; omega) | ( exfalso; omega))) | (rw [if_neg zq3]; first | done | (first | done | omega | ( rfl) | ( omega) | (exfalso; omega) | ( exfalso; omega))))))))))) dX6_change_17
  · refine lv_aload_n hx hb dX6_change_8 rfl (lv_at hl 0 rfl) ?_
    refine lv_iload_n hx hb dX6_change_9 rfl (lv_at hl 2 rfl) ?_
    refine p_callV (v := .int (iI (b2i (0 ≤ y ∧ y < s 1)))) (ci := 6) (n := 1) (As := [.int (iI (y))]) (rest := []) ⟨hx, hb, hml, hown, hts⟩ hK (kX6_isSeat l D cI cV b s pa he np ru t ty at_ rd y hM (by omega)) hW.1 rfl rfl gX6_change_X6_isSeat rfl (by decide +kernel) ⟨Nat.le_of_ble_eq_true rfl, Nat.le_of_ble_eq_true rfl⟩ rfl hl.1 (Nat.le_of_ble_eq_true rfl) dX6_change_10 ⟨Nat.zero_le _, Nat.zero_le _⟩ rfl ?_
    refine j_bne (tgt := 18) hx hb dX6_change_13 (by decide) (fun c2 => ?_) (fun c2 => ?_)
    · refine lv_aload_n hx hb dX6_change_18 rfl (lv_at hl 0 rfl) ?_
      refine p_callV (v := .int (iI (sm (fun i => b2i (seatL (fun i => s (32 + i)) (i : Int) (s 1).toNat = -9)) (s 0).toNat))) (ci := 6) (n := 0) (As := []) (rest := []) ⟨hx, hb, hml, hown, hts⟩ hK (kX6_candidates l D cI cV b s pa he np ru t ty at_ rd hM) hW.1 rfl rfl gX6_change_X6_candidates rfl (by decide +kernel) ⟨Nat.le_of_ble_eq_true rfl, Nat.le_of_ble_eq_true rfl⟩ rfl hl.1 (Nat.le_of_ble_eq_true rfl) dX6_change_19 ⟨Nat.zero_le _, Nat.zero_le _⟩ rfl ?_
      have f24 := sm_rg (f := (fun i => b2i (seatL (fun i => s (32 + i)) (i : Int) (s 1).toNat = -9))) (fun k => b2i_rg) ((s 0).toNat)
      rw [← e_nn]
      have hnr := sm_rg (f := fun i => b2i (seatL (fun i => s (32 + i)) (i : Int) (s 1).toNat = -9)) (fun k => b2i_rg) (s 0).toNat
      rw [← e_nn] at hnr
      refine lv_istore_n (lv' := [(3, .int (iI (nn))), (0, .ref (b 0)), (1, .int (iI (x))), (2, .int (iI (y)))]) hx hb dX6_change_22 rfl hl (by decide) rfl (fun ls hl => ?_)
      refine lv_aload_n hx hb dX6_change_23 rfl (lv_at hl 1 rfl) ?_
      refine p_callV (v := .int (iI (b2i (s 5 ≠ -9)))) (ci := 6) (n := 0) (As := []) (rest := []) ⟨hx, hb, hml, hown, hts⟩ hK (kX6_goesOn l D cI cV b s pa he np ru t ty at_ rd hM) hW.1 rfl rfl gX6_change_X6_goesOn rfl (by decide +kernel) ⟨Nat.le_of_ble_eq_true rfl, Nat.le_of_ble_eq_true rfl⟩ rfl hl.1 (Nat.le_of_ble_eq_true rfl) dX6_change_24 ⟨Nat.zero_le _, Nat.zero_le _⟩ rfl ?_
      refine j_bne (tgt := 42) hx hb dX6_change_27 (by decide) (fun c3 => ?_) (fun c3 => ?_)
      · refine j_bi hx hb dX6_change_42 rfl ?_
        exact m_iret hx hb hr hlocks hW (by (by_cases zq0 : ¬ (0 ≤ x ∧ x < s 0) ∨ ¬ (0 ≤ y ∧ y < s 1) <;> first | (simp only [if_pos zq0]; first | done | (first | rfl | ( rfl) | (exfalso; omega))) | (simp only [if_neg zq0]; first | done | (by_cases zq1 : s 5 ≠ -9 ∨ ¬ ((seatL (fun i => s (32 + i)) (x) (s 1).toNat ≠ -9 ∨ seatL (fun i => s ((if s 5 ≠ -9 then (37 : Int) else 32).toNat + i)) (x) (s 1).toNat ≠ -9) ∧ s (8 + x.toNat) = 1 ∧ s (20 + x.toNat) = s 3) ∨ nn = 0 <;> first | (simp only [if_pos zq1]; first | done | (first | rfl | ( rfl) | (exfalso; omega))) | (simp only [if_neg zq1]; first | done | (by_cases zq2 : s 3 = 60 <;> first | (simp only [if_pos zq2]; first | done | (first | rfl | ( rfl) | (exfalso; omega))) | (simp only [if_neg zq2]; first | done | (first | rfl | ( rfl) | (exfalso; omega))))))))) (by (by_cases zq0 : ¬ (0 ≤ x ∧ x < s 0) ∨ ¬ (0 ≤ y ∧ y < s 1) <;> first | (rw [if_pos zq0]; first | done | (first | done | omega | ( rfl) | ( omega) | (exfalso; omega) | ( exfalso; omega))) | (rw [if_neg zq0]; first | done | (by_cases zq1 : s 5 ≠ -9 ∨ ¬ ((seatL (fun i => s (32 + i)) (x) (s 1).toNat ≠ -9 ∨ seatL (fun i => s ((if s 5 ≠ -9 then (37 : Int) else 32).toNat + i)) (x) (s 1).toNat ≠ -9) ∧ s (8 + x.toNat) = 1 ∧ s (20 + x.toNat) = s 3) ∨ nn = 0 <;> first | (rw [if_pos zq1]; first | done | (first | done | omega | ( rfl) | ( omega) | (exfalso; omega) | ( exfalso; omega))) | (rw [if_neg zq1]; first | done | (by_cases zq2 : s 3 = 60 <;> first | (rw [if_pos zq2]; first | done | (first | done | omega | ( rfl) | ( omega) | (exfalso; omega) | ( exfalso; omega))) | (rw [if_neg zq2]; first | done | (by_cases zq3 : (mgS ((up (wtS cC x (-9)) 5 (cC 3)) 3 - (up (wtS cC x (-9)) 5 (cC 3)) 4).toNat (up (wtS cC x (-9)) 5 (cC 3))) 4 - (up (wtS cC x (-9)) 5 (cC 3)) 4 < 0 <;> first | (rw [if_pos zq3]; first | done | (first | done | omega | ( rfl) | ( omega) | (exfalso; omega) | ( exfalso; omega))) | (rw [if_neg zq3]; first | done | (first | done | omega | ( rfl) | ( omega) | (exfalso; omega) | ( exfalso; omega))))))))))) dX6_change_44
      · refine lv_aload_n hx hb dX6_change_30 rfl (lv_at hl 1 rfl) ?_
        refine lv_iload_n hx hb dX6_change_31 rfl (lv_at hl 2 rfl) ?_
        refine p_callV (v := .int (iI (b2i ((seatL (fun i => s (32 + i)) (x) (s 1).toNat ≠ -9 ∨ seatL (fun i => s ((if s 5 ≠ -9 then (37 : Int) else 32).toNat + i)) (x) (s 1).toNat ≠ -9) ∧ s (8 + x.toNat) = 1 ∧ s (20 + x.toNat) = s 3)))) (ci := 6) (n := 1) (As := [.int (iI (x))]) (rest := []) ⟨hx, hb, hml, hown, hts⟩ hK (kX6_canWrite l D cI cV b s pa he np ru t ty at_ rd x hM (by omega)) hW.1 rfl rfl gX6_change_X6_canWrite rfl (by decide +kernel) ⟨Nat.le_of_ble_eq_true rfl, Nat.le_of_ble_eq_true rfl⟩ rfl hl.1 (Nat.le_of_ble_eq_true rfl) dX6_change_32 ⟨Nat.zero_le _, Nat.zero_le _⟩ rfl ?_
        refine j_beq (tgt := 42) hx hb dX6_change_35 (by decide) (fun c4 => ?_) (fun c4 => ?_)
        · refine j_bi hx hb dX6_change_42 rfl ?_
          exact m_iret hx hb hr hlocks hW (by (by_cases zq0 : ¬ (0 ≤ x ∧ x < s 0) ∨ ¬ (0 ≤ y ∧ y < s 1) <;> first | (simp only [if_pos zq0]; first | done | (first | rfl | ( rfl) | (exfalso; omega))) | (simp only [if_neg zq0]; first | done | (by_cases zq1 : s 5 ≠ -9 ∨ ¬ ((seatL (fun i => s (32 + i)) (x) (s 1).toNat ≠ -9 ∨ seatL (fun i => s ((if s 5 ≠ -9 then (37 : Int) else 32).toNat + i)) (x) (s 1).toNat ≠ -9) ∧ s (8 + x.toNat) = 1 ∧ s (20 + x.toNat) = s 3) ∨ nn = 0 <;> first | (simp only [if_pos zq1]; first | done | (first | rfl | ( rfl) | (exfalso; omega))) | (simp only [if_neg zq1]; first | done | (by_cases zq2 : s 3 = 60 <;> first | (simp only [if_pos zq2]; first | done | (first | rfl | ( rfl) | (exfalso; omega))) | (simp only [if_neg zq2]; first | done | (first | rfl | ( rfl) | (exfalso; omega))))))))) (by (by_cases zq0 : ¬ (0 ≤ x ∧ x < s 0) ∨ ¬ (0 ≤ y ∧ y < s 1) <;> first | (rw [if_pos zq0]; first | done | (first | done | omega | ( rfl) | ( omega) | (exfalso; omega) | ( exfalso; omega))) | (rw [if_neg zq0]; first | done | (by_cases zq1 : s 5 ≠ -9 ∨ ¬ ((seatL (fun i => s (32 + i)) (x) (s 1).toNat ≠ -9 ∨ seatL (fun i => s ((if s 5 ≠ -9 then (37 : Int) else 32).toNat + i)) (x) (s 1).toNat ≠ -9) ∧ s (8 + x.toNat) = 1 ∧ s (20 + x.toNat) = s 3) ∨ nn = 0 <;> first | (rw [if_pos zq1]; first | done | (first | done | omega | ( rfl) | ( omega) | (exfalso; omega) | ( exfalso; omega))) | (rw [if_neg zq1]; first | done | (by_cases zq2 : s 3 = 60 <;> first | (rw [if_pos zq2]; first | done | (first | done | omega | ( rfl) | ( omega) | (exfalso; omega) | ( exfalso; omega))) | (rw [if_neg zq2]; first | done | (by_cases zq3 : (mgS ((up (wtS cC x (-9)) 5 (cC 3)) 3 - (up (wtS cC x (-9)) 5 (cC 3)) 4).toNat (up (wtS cC x (-9)) 5 (cC 3))) 4 - (up (wtS cC x (-9)) 5 (cC 3)) 4 < 0 <;> first | (rw [if_pos zq3]; first | done | (first | done | omega | ( rfl) | ( omega) | (exfalso; omega) | ( exfalso; omega))) | (rw [if_neg zq3]; first | done | (first | done | omega | ( rfl) | ( omega) | (exfalso; omega) | ( exfalso; omega))))))))))) dX6_change_44
        · refine lv_iload_n hx hb dX6_change_38 rfl (lv_at hl 0 rfl) ?_
          refine j_zne (tgt := 45) hx hb (by omega) dX6_change_39 (by decide) (fun c5 => ?_) (fun c5 => ?_)
          · refine lv_aload_n hx hb dX6_change_45 rfl (lv_at hl 1 rfl) ?_
            refine Mg0 hx hb hts hin hown hK hW.1 (by decide +kernel) dX6_change_46 ?_
            refine j_c hx hb dX6_change_49 ?_
            refine Ma0 hx hb hK hW.1 (by omega) dX6_change_50 ?_
            rw [show (3 : Int).toNat = 3 from by omega]
            have r5_47 : bd (s 3) := hbs _
            refine j_bi hx hb dX6_change_51 rfl ?_
            refine j_ine (tgt := 59) hx hb (by omega) (by omega) dX6_change_53 (by decide) (fun c6 => ?_) (fun c6 => ?_)
            · refine lv_aload_n hx hb dX6_change_59 rfl (lv_at hl 1 rfl) ?_
              refine m_callV (v := none) (ci := 6) (n := 0) (As := []) (rest := []) (st2 := []) (w2 := modw cI b s (if ru = 0 then (actP s pa np) else (pa)) he (if ru = 0 then (actN np + 1) else (np)) ru t ty at_ rd) (pre := []) (post := []) ⟨hx, hb, hml, hown, hts⟩ hK hW (kX6_acts l D cI cV b s pa he np ru t ty at_ rd (by omega) (by omega)) (by rw [List.nil_append, List.append_nil]) (by rw [List.nil_append, List.append_nil]) rfl rfl rfl gX6_change_X6_acts rfl (by decide +kernel) ⟨Nat.le_of_ble_eq_true rfl, Nat.le_of_ble_eq_true rfl⟩ rfl hl.1 (Nat.le_of_ble_eq_true rfl) dX6_change_60 ⟨Nat.zero_le _, Nat.zero_le _⟩ rfl rfl (fun H locs hW => ?_)
              obtain ⟨pa_1, epa_1⟩ : ∃ zz_, zz_ = if ru = 0 then (actP s pa np) else (pa) := ⟨_, rfl⟩
              rw [← epa_1] at hW
              refine j_si hx hb dX6_change_63 rfl ?_
              refine j_c hx hb dX6_change_66 ?_
              refine lv_aload_n hx hb dX6_change_67 rfl (lv_at hl 1 rfl) ?_
              refine Mg0 hx hb hts hin hown hK hW.1 (by decide +kernel) dX6_change_68 ?_
              refine j_bi hx hb dX6_change_71 rfl ?_
              refine Ma0 hx hb hK hW.1 (by omega) dX6_change_73 ?_
              rw [show (7 : Int).toNat = 7 from by omega]
              have r6_61 : bd (s 7) := hbs _
              refine j_mul hx hb dX6_change_74 ?_
              refine j_add hx hb dX6_change_75 ?_
              refine lv_istore (lv' := [(4, .int (iI (222 + (5 * (s 7))))), (3, .int (iI (nn))), (0, .ref (b 0)), (1, .int (iI (x))), (2, .int (iI (y)))]) hx hb dX6_change_76 hl (by decide) rfl (fun ls hl => ?_)
              refine lv_aload_n hx hb dX6_change_78 rfl (lv_at hl 2 rfl) ?_
              refine Mg0 hx hb hts hin hown hK hW.1 (by decide +kernel) dX6_change_79 ?_
              refine lv_iload hx hb dX6_change_82 (lv_at hl 0 rfl) ?_
              refine lv_aload_n hx hb dX6_change_84 rfl (lv_at hl 2 rfl) ?_
              refine Mg0 hx hb hts hin hown hK hW.1 (by decide +kernel) dX6_change_85 ?_
              refine j_bi hx hb dX6_change_88 rfl ?_
              refine Ma0 hx hb hK hW.1 (by omega) dX6_change_90 ?_
              rw [show (6 : Int).toNat = 6 from by omega]
              have r6_73 : bd (s 6) := hbs _
              refine Ms0 hx hb hK hW (by omega) dX6_change_91 (fun H locs hW => ?_)
              rw [show (222 + (5 * (s 7)) : Int).toNat = 222 + 5 * ((s 7).toNat) from by omega] at hW
              obtain ⟨s_2, es_2⟩ : ∃ zz_, zz_ = up s (222 + 5 * ((s 7).toNat)) (s 6) := ⟨_, rfl⟩
              rw [← es_2] at hW
              refine lv_aload_n hx hb dX6_change_92 rfl (lv_at hl 2 rfl) ?_
              refine Mg0 hx hb hts hin hown hK hW.1 (by decide +kernel) dX6_change_93 ?_
              refine lv_iload hx hb dX6_change_96 (lv_at hl 0 rfl) ?_
              refine j_c hx hb dX6_change_98 ?_
              refine j_add hx hb dX6_change_99 ?_
              refine lv_iload_n hx hb dX6_change_100 rfl (lv_at hl 1 rfl) ?_
              refine Ms0 hx hb hK hW (by omega) dX6_change_101 (fun H locs hW => ?_)
              rw [show ((222 + (5 * (s 7))) + 1 : Int).toNat = 223 + 5 * ((s 7).toNat) from by omega] at hW
              obtain ⟨s_3, es_3⟩ : ∃ zz_, zz_ = up s_2 (223 + 5 * ((s 7).toNat)) (nn) := ⟨_, rfl⟩
              rw [← es_3] at hW
              refine lv_aload_n hx hb dX6_change_102 rfl (lv_at hl 2 rfl) ?_
              refine Mg0 hx hb hts hin hown hK hW.1 (by decide +kernel) dX6_change_103 ?_
              refine j_bi hx hb dX6_change_106 rfl ?_
              refine lv_aload_n hx hb dX6_change_108 rfl (lv_at hl 2 rfl) ?_
              refine Mg0 hx hb hts hin hown hK hW.1 (by decide +kernel) dX6_change_109 ?_
              refine j_bi hx hb dX6_change_112 rfl ?_
              refine Ma0 hx hb hK hW.1 (by omega) dX6_change_114 ?_
              rw [show (6 : Int).toNat = 6 from by omega]
              rw [show s_3 6 = s 6 from by rw [es_3, up_ne (by omega), es_2, up_ne (by omega)]]
              have r6_97 : bd (s 6) := hbs _
              refine p_callS (v := .int (iI ((((s 6)) * 25173 + 13849) % 65536))) (n := 1) (w := []) (As := [.int (iI (s 6))]) (rest := [.int (iI (6)), .ref (b 1)]) ⟨hx, hb, hml, hown, hts⟩ hK (kX6_drawn l D cI cV (s 6) (by omega)) (fun k q h => by simp at h) gX6_change_X6_drawn rfl (by decide +kernel) ⟨Nat.le_of_ble_eq_true rfl, Nat.le_of_ble_eq_true rfl⟩ rfl hl.1 (Nat.le_of_ble_eq_true rfl) dX6_change_115 ⟨Nat.zero_le _, Nat.zero_le _⟩ rfl ?_
              refine Ms0 hx hb hK hW (by omega) dX6_change_118 (fun H locs hW => ?_)
              rw [show (6 : Int).toNat = 6 from by omega] at hW
              obtain ⟨s_4, es_4⟩ : ∃ zz_, zz_ = up s_3 (6) ((((s 6)) * 25173 + 13849) % 65536) := ⟨_, rfl⟩
              rw [← es_4] at hW
              have hcA : s_4 = cA := by rw [e_cA, es_4, es_3, es_2]; rfl
              rw [hcA] at hW
              have hMA : MS cA := by rw [e_cA]; exact MS_chA hM (by omega)
              have hA : cA 0 = s 0 ∧ cA 1 = s 1 ∧ cA 2 = s 2 ∧ cA 3 = s 3 ∧ cA 4 = s 4 ∧ cA 7 = s 7 := by rw [e_cA]; exact ⟨chA_ne (by omega), chA_ne (by omega), chA_ne (by omega), chA_ne (by omega), chA_ne (by omega), chA_ne (by omega)⟩
              have hA20 : cA (20 + x.toNat) = s (20 + x.toNat) := by rw [e_cA]; exact chA_ne (by omega)
              have hA6 : cA 6 = (s 6 * 25173 + 13849) % 65536 := by rw [e_cA]; exact chA_6
              have hM := hMA
              have hbs := hMA.1
              have hP0 := Int.emod_nonneg (cA 6) (show nn ≠ 0 by omega)
              have hP1 := Int.emod_lt_of_pos (cA 6) (show 0 < nn by omega)
              refine lv_aload_n hx hb dX6_change_119 rfl (lv_at hl 2 rfl) ?_
              refine lv_aload_n hx hb dX6_change_120 rfl (lv_at hl 2 rfl) ?_
              refine Mg0 hx hb hts hin hown hK hW.1 (by decide +kernel) dX6_change_121 ?_
              refine j_bi hx hb dX6_change_124 rfl ?_
              refine Ma0 hx hb hK hW.1 (by omega) dX6_change_126 ?_
              rw [show (6 : Int).toNat = 6 from by omega]
              refine lv_iload_n hx hb dX6_change_127 rfl (lv_at hl 1 rfl) ?_
              refine j_rem hx hb (by omega) (by omega) dX6_change_128 ?_
              refine p_callV (v := .int (iI (pickL (fun i => b2i (seatL (fun i => cA (32 + i)) (i : Int) (cA 1).toNat = -9)) ((cA 6) % nn) (cA 0).toNat))) (ci := 6) (n := 1) (As := [.int (iI ((cA 6) % nn))]) (rest := []) ⟨hx, hb, hml, hown, hts⟩ hK (kX6_candidate l D cI cV b cA pa_1 he (if ru = 0 then (actN np + 1) else (np)) ru t ty at_ rd ((cA 6) % nn) hM (by omega)) hW.1 rfl rfl gX6_change_X6_candidate rfl (by decide +kernel) ⟨Nat.le_of_ble_eq_true rfl, Nat.le_of_ble_eq_true rfl⟩ rfl hl.1 (Nat.le_of_ble_eq_true rfl) dX6_change_129 ⟨Nat.zero_le _, Nat.zero_le _⟩ rfl ?_
              rw [← evi]
              have hvi0 := pickL_rg (f := fun i => b2i (seatL (fun i => cA (32 + i)) (i : Int) (cA 1).toNat = -9)) (p := cA 6 % nn) (cA 0).toNat
              rw [← evi] at hvi0
              skip
              have hvi1 : 0 ≤ vi := by rw [evi]; exact pickL_ok (fun k => b2i_rg) (by omega) _ (by rw [← hnc]; omega)
              refine lv_istore (lv' := [(5, .int (iI (vi))), (4, .int (iI (222 + (5 * (s 7))))), (3, .int (iI (nn))), (0, .ref (b 0)), (1, .int (iI (x))), (2, .int (iI (y)))]) hx hb dX6_change_132 hl (by decide) rfl (fun ls hl => ?_)
              refine lv_aload_n hx hb dX6_change_134 rfl (lv_at hl 3 rfl) ?_
              refine Mg0 hx hb hts hin hown hK hW.1 (by decide +kernel) dX6_change_135 ?_
              refine lv_iload hx hb dX6_change_138 (lv_at hl 1 rfl) ?_
              refine j_c hx hb dX6_change_140 ?_
              refine j_add hx hb dX6_change_141 ?_
              refine lv_iload hx hb dX6_change_142 (lv_at hl 0 rfl) ?_
              refine Ms0 hx hb hK hW (by omega) dX6_change_144 (fun H locs hW => ?_)
              rw [show ((222 + (5 * (s 7))) + 2 : Int).toNat = 224 + 5 * ((s 7).toNat) from by omega] at hW
              obtain ⟨s_5, es_5⟩ : ∃ zz_, zz_ = up cA (224 + 5 * ((s 7).toNat)) (vi) := ⟨_, rfl⟩
              rw [← es_5] at hW
              refine lv_aload_n hx hb dX6_change_145 rfl (lv_at hl 3 rfl) ?_
              refine Mg0 hx hb hts hin hown hK hW.1 (by decide +kernel) dX6_change_146 ?_
              refine lv_iload hx hb dX6_change_149 (lv_at hl 1 rfl) ?_
              refine j_c hx hb dX6_change_151 ?_
              refine j_add hx hb dX6_change_152 ?_
              refine lv_iload hx hb dX6_change_153 (lv_at hl 0 rfl) ?_
              refine Ms0 hx hb hK hW (by omega) dX6_change_155 (fun H locs hW => ?_)
              rw [show ((222 + (5 * (s 7))) + 3 : Int).toNat = 225 + 5 * ((s 7).toNat) from by omega] at hW
              obtain ⟨s_6, es_6⟩ : ∃ zz_, zz_ = up s_5 (225 + 5 * ((s 7).toNat)) (vi) := ⟨_, rfl⟩
              rw [← es_6] at hW
              refine lv_aload_n hx hb dX6_change_156 rfl (lv_at hl 3 rfl) ?_
              refine Mg0 hx hb hts hin hown hK hW.1 (by decide +kernel) dX6_change_157 ?_
              refine lv_iload hx hb dX6_change_160 (lv_at hl 1 rfl) ?_
              refine j_c hx hb dX6_change_162 ?_
              refine j_add hx hb dX6_change_163 ?_
              refine lv_iload_n hx hb dX6_change_164 rfl (lv_at hl 5 rfl) ?_
              refine Ms0 hx hb hK hW (by omega) dX6_change_165 (fun H locs hW => ?_)
              rw [show ((222 + (5 * (s 7))) + 4 : Int).toNat = 226 + 5 * ((s 7).toNat) from by omega] at hW
              obtain ⟨s_7, es_7⟩ : ∃ zz_, zz_ = up s_6 (226 + 5 * ((s 7).toNat)) (y) := ⟨_, rfl⟩
              rw [← es_7] at hW
              refine lv_aload_n hx hb dX6_change_166 rfl (lv_at hl 3 rfl) ?_
              refine Mg0 hx hb hts hin hown hK hW.1 (by decide +kernel) dX6_change_167 ?_
              refine j_bi hx hb dX6_change_170 rfl ?_
              refine lv_dup2_11 hx hb dX6_change_172 rfl rfl ?_
              refine Ma0 hx hb hK hW.1 (by omega) dX6_change_173 ?_
              rw [show (7 : Int).toNat = 7 from by omega]
              rw [show s_7 7 = cA 7 from by rw [es_7, up_ne (by omega), es_6, up_ne (by omega), es_5, up_ne (by omega)]]
              refine j_c hx hb dX6_change_174 ?_
              refine j_add hx hb dX6_change_175 ?_
              refine Ms0 hx hb hK hW (by omega) dX6_change_176 (fun H locs hW => ?_)
              rw [show (7 : Int).toNat = 7 from by omega] at hW
              obtain ⟨s_8, es_8⟩ : ∃ zz_, zz_ = up s_7 (7) ((cA 7) + 1) := ⟨_, rfl⟩
              rw [← es_8] at hW
              have hcB : s_8 = cB := by rw [e_cB, es_8, es_7, es_6, es_5]; rfl
              rw [hcB] at hW
              have hMB : MS cB := by rw [e_cB]; exact MS_chB hMA (by omega) (by omega) (by omega)
              have hB : cB 1 = s 1 ∧ cB 2 = s 2 ∧ cB 3 = s 3 ∧ cB 4 = s 4 ∧ cB 0 = s 0 := by rw [e_cB, chB_ne (by omega), chB_ne (by omega), chB_ne (by omega), chB_ne (by omega), chB_ne (by omega)]; omega
              have hB20 : cB (20 + x.toNat) = s (20 + x.toNat) := by rw [e_cB, chB_ne (by omega)]; exact hA20
              have hM := hMB
              have hbs := hMB.1
              refine j_c hx hb dX6_change_177 ?_
              refine lv_istore (lv' := [(6, .int (iI (0))), (5, .int (iI (vi))), (4, .int (iI (222 + (5 * (s 7))))), (3, .int (iI (nn))), (0, .ref (b 0)), (1, .int (iI (x))), (2, .int (iI (y)))]) hx hb dX6_change_178 hl (by decide) rfl (fun ls hl => ?_)
              have LP180 : ∀ (fu : Nat) (j : Nat) (sj : Nat → Int) (x6 : Int), x6 = (j : Int) → ((j : Int) ≤ s 1 ∧ sj = blk cB 37 (fun i => if (i : Int) = y then vi else cB (32 + i)) j) → (s 1).toNat - j < fu → ∀ (H : Heap) (locs : List Loc), Wd D (ad (modw cI b s pa he np ru t ty at_ rd)) (modw cI b sj (if ru = 0 then actP s pa np else pa) he (if ru = 0 then actN np + 1 else np) ru t ty at_ rd) s0.heap H locs → ∀ ls : Array Slot, lv_has ls 7 [(6, .int (iI (x6))), (5, .int (iI (vi))), (4, .int (iI (222 + (5 * (s 7))))), (3, .int (iI (nn))), (0, .ref (b 0)), (1, .int (iI (x))), (2, .int (iI (y)))] → W p l e (headSpec wsX6_change (rmK 4 82)).room s0 m ([.ref (b 0), .int (iI (x)), .int (iI (y))] : List Value).toArray below meth c H locs 0 0 (MQ below (mQ D (some (.int (iI (if ¬ (0 ≤ x ∧ x < s 0) ∨ ¬ (0 ≤ y ∧ y < s 1) then (-1) else (if s 5 ≠ -9 ∨ ¬ ((seatL (fun i => s (32 + i)) (x) (s 1).toNat ≠ -9 ∨ seatL (fun i => s ((if s 5 ≠ -9 then (37 : Int) else 32).toNat + i)) (x) (s 1).toNat ≠ -9) ∧ s (8 + x.toNat) = 1 ∧ s (20 + x.toNat) = s 3) ∨ nn = 0 then (-2) else (if s 3 = 60 then (-3) else (if (mgS ((up (wtS cC x (-9)) 5 (cC 3)) 3 - (up (wtS cC x (-9)) 5 (cC 3)) 4).toNat (up (wtS cC x (-9)) 5 (cC 3))) 4 - (up (wtS cC x (-9)) 5 (cC 3)) 4 < 0 then (-9) else (vi)))))))) (modw cI b (if ¬ (0 ≤ x ∧ x < s 0) ∨ ¬ (0 ≤ y ∧ y < s 1) then (s) else (if s 5 ≠ -9 ∨ ¬ ((seatL (fun i => s (32 + i)) (x) (s 1).toNat ≠ -9 ∨ seatL (fun i => s ((if s 5 ≠ -9 then (37 : Int) else 32).toNat + i)) (x) (s 1).toNat ≠ -9) ∧ s (8 + x.toNat) = 1 ∧ s (20 + x.toNat) = s 3) ∨ nn = 0 then (s) else (if s 3 = 60 then (s) else (mgS ((up (wtS cC x (-9)) 5 (cC 3)) 3 - (up (wtS cC x (-9)) 5 (cC 3)) 4).toNat (up (wtS cC x (-9)) 5 (cC 3)))))) (if ¬ (0 ≤ x ∧ x < s 0) ∨ ¬ (0 ≤ y ∧ y < s 1) then (pa) else (if s 5 ≠ -9 ∨ ¬ ((seatL (fun i => s (32 + i)) (x) (s 1).toNat ≠ -9 ∨ seatL (fun i => s ((if s 5 ≠ -9 then (37 : Int) else 32).toNat + i)) (x) (s 1).toNat ≠ -9) ∧ s (8 + x.toNat) = 1 ∧ s (20 + x.toNat) = s 3) ∨ nn = 0 then (pa) else (if s 3 = 60 then (pa) else (if ru = 0 then actP s pa np else pa)))) he (if ¬ (0 ≤ x ∧ x < s 0) ∨ ¬ (0 ≤ y ∧ y < s 1) then (np) else (if s 5 ≠ -9 ∨ ¬ ((seatL (fun i => s (32 + i)) (x) (s 1).toNat ≠ -9 ∨ seatL (fun i => s ((if s 5 ≠ -9 then (37 : Int) else 32).toNat + i)) (x) (s 1).toNat ≠ -9) ∧ s (8 + x.toNat) = 1 ∧ s (20 + x.toNat) = s 3) ∨ nn = 0 then (np) else (if s 3 = 60 then (np) else (if ru = 0 then actN np + 1 else np)))) ru t ty at_ rd) (ad (modw cI b s pa he np ru t ty at_ rd))) ([.ref (b 0), .int (iI (x)), .int (iI (y))] : List Value).toArray s0 0 0 (ad (modw cI b s pa he np ru t ty at_ rd))) (F0 m 180 ls []) := by
                intro fu
                induction fu with
                | zero =>
                  intros
                  omega
                | succ fu ih =>
                  intro j sj x6 ex6 hinv hmeas H locs hW ls hl
                  subst ex6
                  have hj1 : sj 1 = s 1 := by rw [hinv.2, blk_out (by omega)]; exact hB.1
                  refine lv_iload hx hb dX6_change_180 (lv_at hl 0 rfl) ?_
                  refine lv_aload_n hx hb dX6_change_182 rfl (lv_at hl 4 rfl) ?_
                  refine Mg0 hx hb hts hin hown hK hW.1 (by decide +kernel) dX6_change_183 ?_
                  refine j_c hx hb dX6_change_186 ?_
                  refine Ma0 hx hb hK hW.1 (by omega) dX6_change_187 ?_
                  rw [show (1 : Int).toNat = 1 from by omega]
                  rw [hj1]
                  refine j_ige (tgt := 228) hx hb (by omega) (by omega) dX6_change_188 (by decide) (fun c7 => ?_) (fun c7 => ?_)
                  · have hjj : j = (s 1).toNat := by omega
                    have hcC : sj = cC := by rw [e_cC, hinv.2, hjj]
                    rw [hcC] at hW
                    have hMC : MS cC := by rw [e_cC]; exact MS_nw hMB (by omega) (fun i hi => by have := hMB.2.2.2.2.2.2.2.2.2.2.2.2.2.1 i hi; split <;> omega)
                    have hC : cC 2 = s 2 ∧ cC 3 = s 3 ∧ cC 4 = s 4 := by rw [e_cC, blk_out (by omega), blk_out (by omega), blk_out (by omega)]; omega
                    have hC20 : cC (20 + x.toNat) = s (20 + x.toNat) := by rw [e_cC, blk_out (by omega)]; exact hB20
                    have hM := hMC
                    have hbs := hMC.1
                    have hb20 := hbs (20 + x.toNat)
                    refine lv_aload_n hx hb dX6_change_228 rfl (lv_at hl 4 rfl) ?_
                    refine Mg0 hx hb hts hin hown hK hW.1 (by decide +kernel) dX6_change_229 ?_
                    refine j_c hx hb dX6_change_232 ?_
                    refine lv_aload_n hx hb dX6_change_233 rfl (lv_at hl 4 rfl) ?_
                    refine lv_iload_n hx hb dX6_change_234 rfl (lv_at hl 5 rfl) ?_
                    refine j_bi hx hb dX6_change_235 rfl ?_
                    refine m_callV (v := some (.int (iI (cC 3)))) (ci := 6) (n := 2) (As := [.int (iI (x)), .int (iI ((-9)))]) (rest := [.int (iI (5)), .ref (b 1)]) (st2 := [.int (iI (cC 3)), .int (iI (5)), .ref (b 1)]) (w2 := modw cI b (wtS cC x ((-9) : Int)) (if ru = 0 then actP s pa np else pa) he (if ru = 0 then actN np + 1 else np) ru t ty at_ rd) (pre := []) (post := []) ⟨hx, hb, hml, hown, hts⟩ hK hW (kX6_writes l D cI cV b cC (if ru = 0 then actP s pa np else pa) he (if ru = 0 then actN np + 1 else np) ru t ty at_ rd x (-9) hM (by omega) (by omega)) (by rw [List.nil_append, List.append_nil]) (by rw [List.nil_append, List.append_nil]) rfl rfl rfl gX6_change_X6_writes rfl (by decide +kernel) ⟨Nat.le_of_ble_eq_true rfl, Nat.le_of_ble_eq_true rfl⟩ rfl hl.1 (Nat.le_of_ble_eq_true rfl) dX6_change_237 ⟨Nat.zero_le _, Nat.zero_le _⟩ rfl rfl (fun H locs hW => ?_)
                    obtain ⟨s_9, es_9⟩ : ∃ zz_, zz_ = wtS cC x ((-9) : Int) := ⟨_, rfl⟩
                    rw [← es_9] at hW
                    have hM : MS s_9 := by rw [es_9]; exact MS_wt hM (by omega) (by omega) (by omega) (by omega)
                    have h24 : s_9 2 ≤ s_9 4 := by rw [es_9, wtS_ne (by omega) (by omega), wtS_ne (by omega) (by omega)]; omega
                    refine Ms0 hx hb hK hW (by omega) dX6_change_240 (fun H locs hW => ?_)
                    rw [show (5 : Int).toNat = 5 from by omega] at hW
                    obtain ⟨s_10, es_10⟩ : ∃ zz_, zz_ = up s_9 (5) (cC 3) := ⟨_, rfl⟩
                    rw [← es_10] at hW
                    refine lv_aload_n hx hb dX6_change_241 rfl (lv_at hl 4 rfl) ?_
                    have hM : MS s_10 := by rw [es_10]; exact MS_up hM (by omega) (by omega)
                    have h24 : s_10 2 ≤ s_10 4 := by rw [es_10, up_ne (by omega), up_ne (by omega)]; omega
                    refine m_callV (v := some (.int (iI ((mgS (s_10 3 - s_10 4).toNat s_10) 4 - s_10 4)))) (ci := 6) (n := 0) (As := []) (rest := []) (st2 := [.int (iI ((mgS (s_10 3 - s_10 4).toNat s_10) 4 - s_10 4))]) (w2 := modw cI b (mgS (s_10 3 - s_10 4).toNat s_10) (if ru = 0 then actP s pa np else pa) he (if ru = 0 then actN np + 1 else np) ru t ty at_ rd) (pre := []) (post := []) ⟨hx, hb, hml, hown, hts⟩ hK hW (kX6_agrees l D cI cV b s_10 (if ru = 0 then actP s pa np else pa) he (if ru = 0 then actN np + 1 else np) ru t ty at_ rd hM h24) (by rw [List.nil_append, List.append_nil]) (by rw [List.nil_append, List.append_nil]) rfl rfl rfl gX6_change_X6_agrees rfl (by decide +kernel) ⟨Nat.le_of_ble_eq_true rfl, Nat.le_of_ble_eq_true rfl⟩ rfl hl.1 (Nat.le_of_ble_eq_true rfl) dX6_change_242 ⟨Nat.zero_le _, Nat.zero_le _⟩ rfl rfl (fun H locs hW => ?_)
                    obtain ⟨s_11, es_11⟩ : ∃ zz_, zz_ = mgS (s_10 3 - s_10 4).toNat s_10 := ⟨_, rfl⟩
                    rw [← es_11] at hW
                    have hmgr := mg_rg hM h24 (s_10 3 - s_10 4).toNat
                    refine j_zge (tgt := 253) hx hb (by omega) dX6_change_245 (by decide) (fun c8 => ?_) (fun c8 => ?_)
                    · refine lv_iload hx hb dX6_change_253 (lv_at hl 1 rfl) ?_
                      exact m_iret hx hb hr hlocks hW (by (by_cases zq0 : ¬ (0 ≤ x ∧ x < s 0) ∨ ¬ (0 ≤ y ∧ y < s 1) <;> first | (simp only [if_pos zq0]; first | done | (first | rfl | (subst es_11; subst es_10; subst es_9; rfl) | (exfalso; omega))) | (simp only [if_neg zq0]; first | done | (by_cases zq1 : s 5 ≠ -9 ∨ ¬ ((seatL (fun i => s (32 + i)) (x) (s 1).toNat ≠ -9 ∨ seatL (fun i => s ((if s 5 ≠ -9 then (37 : Int) else 32).toNat + i)) (x) (s 1).toNat ≠ -9) ∧ s (8 + x.toNat) = 1 ∧ s (20 + x.toNat) = s 3) ∨ nn = 0 <;> first | (simp only [if_pos zq1]; first | done | (first | rfl | (subst es_11; subst es_10; subst es_9; rfl) | (exfalso; omega))) | (simp only [if_neg zq1]; first | done | (by_cases zq2 : s 3 = 60 <;> first | (simp only [if_pos zq2]; first | done | (first | rfl | (subst es_11; subst es_10; subst es_9; rfl) | (exfalso; omega))) | (simp only [if_neg zq2]; first | done | (first | rfl | (subst es_11; subst es_10; subst es_9; rfl) | (exfalso; omega))))))))) (by (by_cases zq0 : ¬ (0 ≤ x ∧ x < s 0) ∨ ¬ (0 ≤ y ∧ y < s 1) <;> first | (rw [if_pos zq0]; first | done | (first | done | omega | (subst es_11; subst es_10; subst es_9; rfl) | (subst es_11; subst es_10; subst es_9; omega) | (exfalso; omega) | (subst es_11; subst es_10; subst es_9; exfalso; omega))) | (rw [if_neg zq0]; first | done | (by_cases zq1 : s 5 ≠ -9 ∨ ¬ ((seatL (fun i => s (32 + i)) (x) (s 1).toNat ≠ -9 ∨ seatL (fun i => s ((if s 5 ≠ -9 then (37 : Int) else 32).toNat + i)) (x) (s 1).toNat ≠ -9) ∧ s (8 + x.toNat) = 1 ∧ s (20 + x.toNat) = s 3) ∨ nn = 0 <;> first | (rw [if_pos zq1]; first | done | (first | done | omega | (subst es_11; subst es_10; subst es_9; rfl) | (subst es_11; subst es_10; subst es_9; omega) | (exfalso; omega) | (subst es_11; subst es_10; subst es_9; exfalso; omega))) | (rw [if_neg zq1]; first | done | (by_cases zq2 : s 3 = 60 <;> first | (rw [if_pos zq2]; first | done | (first | done | omega | (subst es_11; subst es_10; subst es_9; rfl) | (subst es_11; subst es_10; subst es_9; omega) | (exfalso; omega) | (subst es_11; subst es_10; subst es_9; exfalso; omega))) | (rw [if_neg zq2]; first | done | (by_cases zq3 : (mgS ((up (wtS cC x (-9)) 5 (cC 3)) 3 - (up (wtS cC x (-9)) 5 (cC 3)) 4).toNat (up (wtS cC x (-9)) 5 (cC 3))) 4 - (up (wtS cC x (-9)) 5 (cC 3)) 4 < 0 <;> first | (rw [if_pos zq3]; first | done | (first | done | omega | (subst es_11; subst es_10; subst es_9; rfl) | (subst es_11; subst es_10; subst es_9; omega) | (exfalso; omega) | (subst es_11; subst es_10; subst es_9; exfalso; omega))) | (rw [if_neg zq3]; first | done | (first | done | omega | (subst es_11; subst es_10; subst es_9; rfl) | (subst es_11; subst es_10; subst es_9; omega) | (exfalso; omega) | (subst es_11; subst es_10; subst es_9; exfalso; omega))))))))))) dX6_change_255
                    · refine j_bi hx hb dX6_change_248 rfl ?_
                      refine lv_goto (tgt := 255) hx hb dX6_change_250 (by decide) ?_
                      exact m_iret hx hb hr hlocks hW (by (by_cases zq0 : ¬ (0 ≤ x ∧ x < s 0) ∨ ¬ (0 ≤ y ∧ y < s 1) <;> first | (simp only [if_pos zq0]; first | done | (first | rfl | (subst es_11; subst es_10; subst es_9; rfl) | (exfalso; omega))) | (simp only [if_neg zq0]; first | done | (by_cases zq1 : s 5 ≠ -9 ∨ ¬ ((seatL (fun i => s (32 + i)) (x) (s 1).toNat ≠ -9 ∨ seatL (fun i => s ((if s 5 ≠ -9 then (37 : Int) else 32).toNat + i)) (x) (s 1).toNat ≠ -9) ∧ s (8 + x.toNat) = 1 ∧ s (20 + x.toNat) = s 3) ∨ nn = 0 <;> first | (simp only [if_pos zq1]; first | done | (first | rfl | (subst es_11; subst es_10; subst es_9; rfl) | (exfalso; omega))) | (simp only [if_neg zq1]; first | done | (by_cases zq2 : s 3 = 60 <;> first | (simp only [if_pos zq2]; first | done | (first | rfl | (subst es_11; subst es_10; subst es_9; rfl) | (exfalso; omega))) | (simp only [if_neg zq2]; first | done | (first | rfl | (subst es_11; subst es_10; subst es_9; rfl) | (exfalso; omega))))))))) (by (by_cases zq0 : ¬ (0 ≤ x ∧ x < s 0) ∨ ¬ (0 ≤ y ∧ y < s 1) <;> first | (rw [if_pos zq0]; first | done | (first | done | omega | (subst es_11; subst es_10; subst es_9; rfl) | (subst es_11; subst es_10; subst es_9; omega) | (exfalso; omega) | (subst es_11; subst es_10; subst es_9; exfalso; omega))) | (rw [if_neg zq0]; first | done | (by_cases zq1 : s 5 ≠ -9 ∨ ¬ ((seatL (fun i => s (32 + i)) (x) (s 1).toNat ≠ -9 ∨ seatL (fun i => s ((if s 5 ≠ -9 then (37 : Int) else 32).toNat + i)) (x) (s 1).toNat ≠ -9) ∧ s (8 + x.toNat) = 1 ∧ s (20 + x.toNat) = s 3) ∨ nn = 0 <;> first | (rw [if_pos zq1]; first | done | (first | done | omega | (subst es_11; subst es_10; subst es_9; rfl) | (subst es_11; subst es_10; subst es_9; omega) | (exfalso; omega) | (subst es_11; subst es_10; subst es_9; exfalso; omega))) | (rw [if_neg zq1]; first | done | (by_cases zq2 : s 3 = 60 <;> first | (rw [if_pos zq2]; first | done | (first | done | omega | (subst es_11; subst es_10; subst es_9; rfl) | (subst es_11; subst es_10; subst es_9; omega) | (exfalso; omega) | (subst es_11; subst es_10; subst es_9; exfalso; omega))) | (rw [if_neg zq2]; first | done | (by_cases zq3 : (mgS ((up (wtS cC x (-9)) 5 (cC 3)) 3 - (up (wtS cC x (-9)) 5 (cC 3)) 4).toNat (up (wtS cC x (-9)) 5 (cC 3))) 4 - (up (wtS cC x (-9)) 5 (cC 3)) 4 < 0 <;> first | (rw [if_pos zq3]; first | done | (first | done | omega | (subst es_11; subst es_10; subst es_9; rfl) | (subst es_11; subst es_10; subst es_9; omega) | (exfalso; omega) | (subst es_11; subst es_10; subst es_9; exfalso; omega))) | (rw [if_neg zq3]; first | done | (first | done | omega | (subst es_11; subst es_10; subst es_9; rfl) | (subst es_11; subst es_10; subst es_9; omega) | (exfalso; omega) | (subst es_11; subst es_10; subst es_9; exfalso; omega))))))))))) dX6_change_255
                  · refine lv_aload_n hx hb dX6_change_191 rfl (lv_at hl 4 rfl) ?_
                    refine Mg0 hx hb hts hin hown hK hW.1 (by decide +kernel) dX6_change_192 ?_
                    refine j_bi hx hb dX6_change_195 rfl ?_
                    refine lv_iload hx hb dX6_change_197 (lv_at hl 0 rfl) ?_
                    refine j_add hx hb dX6_change_199 ?_
                    refine lv_iload hx hb dX6_change_200 (lv_at hl 0 rfl) ?_
                    refine lv_iload_n hx hb dX6_change_202 rfl (lv_at hl 6 rfl) ?_
                    refine j_ine (tgt := 211) hx hb (by omega) (by omega) dX6_change_203 (by decide) (fun c9 => ?_) (fun c9 => ?_)
                    · refine lv_aload_n hx hb dX6_change_211 rfl (lv_at hl 4 rfl) ?_
                      refine Mg0 hx hb hts hin hown hK hW.1 (by decide +kernel) dX6_change_212 ?_
                      refine j_bi hx hb dX6_change_215 rfl ?_
                      refine lv_iload hx hb dX6_change_217 (lv_at hl 0 rfl) ?_
                      refine j_add hx hb dX6_change_219 ?_
                      refine Ma0 hx hb hK hW.1 (by omega) dX6_change_220 ?_
                      rw [show (32 + (j : Int) : Int).toNat = 32 + j from by omega]
                      rw [show sj (32 + j) = cB (32 + j) from by rw [hinv.2]; exact blk_out (by omega)]
                      refine Ms0 hx hb hK hW (by omega) dX6_change_221 (fun H locs hW => ?_)
                      rw [show (37 + (j : Int) : Int).toNat = 37 + j from by omega] at hW
                      obtain ⟨s_12, es_12⟩ : ∃ zz_, zz_ = up sj (37 + j) (cB (32 + j)) := ⟨_, rfl⟩
                      rw [← es_12] at hW
                      refine lv_iinc (v := iI ((j : Int) + 1)) (lv' := [(6, .int (iI ((j : Int) + 1))), (5, .int (iI (vi))), (4, .int (iI (222 + (5 * (s 7))))), (3, .int (iI (nn))), (0, .ref (b 0)), (1, .int (iI (x))), (2, .int (iI (y)))]) hx hb dX6_change_222 hl (k := 0) rfl (iI_add _ _) (by decide) rfl (fun ls hl => ?_)
                      refine lv_goto (tgt := 180) hx hb dX6_change_225 (by decide) ?_
                      exact ih (j + 1) s_12 ((j : Int) + 1) (by first | rfl | omega | (simp only [sm, b2i]; (repeat' split) <;> first | rfl | omega | (exfalso; omega) | (exfalso; simp_all))) (by exact ⟨by omega, by rw [es_12, hinv.2, ← blk_step (v := fun i => if (i : Int) = y then vi else cB (32 + i))]; first | rw [if_pos (by omega)] | rw [if_neg (by omega)]⟩) (by omega) _ _ (hW) ls (lv_sub hl [0, 1, 2, 3, 4, 5, 6] rfl)
                    · refine lv_iload hx hb dX6_change_206 (lv_at hl 1 rfl) ?_
                      refine lv_goto (tgt := 221) hx hb dX6_change_208 (by decide) ?_
                      refine Ms0 hx hb hK hW (by omega) dX6_change_221 (fun H locs hW => ?_)
                      rw [show (37 + (j : Int) : Int).toNat = 37 + j from by omega] at hW
                      obtain ⟨s_13, es_13⟩ : ∃ zz_, zz_ = up sj (37 + j) (vi) := ⟨_, rfl⟩
                      rw [← es_13] at hW
                      refine lv_iinc (v := iI ((j : Int) + 1)) (lv' := [(6, .int (iI ((j : Int) + 1))), (5, .int (iI (vi))), (4, .int (iI (222 + (5 * (s 7))))), (3, .int (iI (nn))), (0, .ref (b 0)), (1, .int (iI (x))), (2, .int (iI (y)))]) hx hb dX6_change_222 hl (k := 0) rfl (iI_add _ _) (by decide) rfl (fun ls hl => ?_)
                      refine lv_goto (tgt := 180) hx hb dX6_change_225 (by decide) ?_
                      exact ih (j + 1) s_13 ((j : Int) + 1) (by first | rfl | omega | (simp only [sm, b2i]; (repeat' split) <;> first | rfl | omega | (exfalso; omega) | (exfalso; simp_all))) (by exact ⟨by omega, by rw [es_13, hinv.2, ← blk_step (v := fun i => if (i : Int) = y then vi else cB (32 + i))]; first | rw [if_pos (by omega)] | rw [if_neg (by omega)]⟩) (by omega) _ _ (hW) ls (lv_sub hl [0, 1, 2, 3, 4, 5, 6] rfl)
              exact LP180 (_) 0 cB 0 (by first | rfl | omega) (by exact ⟨by omega, blk_0.symm⟩) (by exact Nat.lt_succ_self _) _ _ (by subst epa_1; exact hW) ls (lv_sub hl [0, 1, 2, 3, 4, 5, 6] rfl)
            · refine j_bi hx hb dX6_change_56 rfl ?_
              exact m_iret hx hb hr hlocks hW (by (by_cases zq0 : ¬ (0 ≤ x ∧ x < s 0) ∨ ¬ (0 ≤ y ∧ y < s 1) <;> first | (simp only [if_pos zq0]; first | done | (first | rfl | ( rfl) | (exfalso; omega))) | (simp only [if_neg zq0]; first | done | (by_cases zq1 : s 5 ≠ -9 ∨ ¬ ((seatL (fun i => s (32 + i)) (x) (s 1).toNat ≠ -9 ∨ seatL (fun i => s ((if s 5 ≠ -9 then (37 : Int) else 32).toNat + i)) (x) (s 1).toNat ≠ -9) ∧ s (8 + x.toNat) = 1 ∧ s (20 + x.toNat) = s 3) ∨ nn = 0 <;> first | (simp only [if_pos zq1]; first | done | (first | rfl | ( rfl) | (exfalso; omega))) | (simp only [if_neg zq1]; first | done | (by_cases zq2 : s 3 = 60 <;> first | (simp only [if_pos zq2]; first | done | (first | rfl | ( rfl) | (exfalso; omega))) | (simp only [if_neg zq2]; first | done | (first | rfl | ( rfl) | (exfalso; omega))))))))) (by (by_cases zq0 : ¬ (0 ≤ x ∧ x < s 0) ∨ ¬ (0 ≤ y ∧ y < s 1) <;> first | (rw [if_pos zq0]; first | done | (first | done | omega | ( rfl) | ( omega) | (exfalso; omega) | ( exfalso; omega))) | (rw [if_neg zq0]; first | done | (by_cases zq1 : s 5 ≠ -9 ∨ ¬ ((seatL (fun i => s (32 + i)) (x) (s 1).toNat ≠ -9 ∨ seatL (fun i => s ((if s 5 ≠ -9 then (37 : Int) else 32).toNat + i)) (x) (s 1).toNat ≠ -9) ∧ s (8 + x.toNat) = 1 ∧ s (20 + x.toNat) = s 3) ∨ nn = 0 <;> first | (rw [if_pos zq1]; first | done | (first | done | omega | ( rfl) | ( omega) | (exfalso; omega) | ( exfalso; omega))) | (rw [if_neg zq1]; first | done | (by_cases zq2 : s 3 = 60 <;> first | (rw [if_pos zq2]; first | done | (first | done | omega | ( rfl) | ( omega) | (exfalso; omega) | ( exfalso; omega))) | (rw [if_neg zq2]; first | done | (by_cases zq3 : (mgS ((up (wtS cC x (-9)) 5 (cC 3)) 3 - (up (wtS cC x (-9)) 5 (cC 3)) 4).toNat (up (wtS cC x (-9)) 5 (cC 3))) 4 - (up (wtS cC x (-9)) 5 (cC 3)) 4 < 0 <;> first | (rw [if_pos zq3]; first | done | (first | done | omega | ( rfl) | ( omega) | (exfalso; omega) | ( exfalso; omega))) | (rw [if_neg zq3]; first | done | (first | done | omega | ( rfl) | ( omega) | (exfalso; omega) | ( exfalso; omega))))))))))) dX6_change_58
          · refine j_bi hx hb dX6_change_42 rfl ?_
            exact m_iret hx hb hr hlocks hW (by (by_cases zq0 : ¬ (0 ≤ x ∧ x < s 0) ∨ ¬ (0 ≤ y ∧ y < s 1) <;> first | (simp only [if_pos zq0]; first | done | (first | rfl | ( rfl) | (exfalso; omega))) | (simp only [if_neg zq0]; first | done | (by_cases zq1 : s 5 ≠ -9 ∨ ¬ ((seatL (fun i => s (32 + i)) (x) (s 1).toNat ≠ -9 ∨ seatL (fun i => s ((if s 5 ≠ -9 then (37 : Int) else 32).toNat + i)) (x) (s 1).toNat ≠ -9) ∧ s (8 + x.toNat) = 1 ∧ s (20 + x.toNat) = s 3) ∨ nn = 0 <;> first | (simp only [if_pos zq1]; first | done | (first | rfl | ( rfl) | (exfalso; omega))) | (simp only [if_neg zq1]; first | done | (by_cases zq2 : s 3 = 60 <;> first | (simp only [if_pos zq2]; first | done | (first | rfl | ( rfl) | (exfalso; omega))) | (simp only [if_neg zq2]; first | done | (first | rfl | ( rfl) | (exfalso; omega))))))))) (by (by_cases zq0 : ¬ (0 ≤ x ∧ x < s 0) ∨ ¬ (0 ≤ y ∧ y < s 1) <;> first | (rw [if_pos zq0]; first | done | (first | done | omega | ( rfl) | ( omega) | (exfalso; omega) | ( exfalso; omega))) | (rw [if_neg zq0]; first | done | (by_cases zq1 : s 5 ≠ -9 ∨ ¬ ((seatL (fun i => s (32 + i)) (x) (s 1).toNat ≠ -9 ∨ seatL (fun i => s ((if s 5 ≠ -9 then (37 : Int) else 32).toNat + i)) (x) (s 1).toNat ≠ -9) ∧ s (8 + x.toNat) = 1 ∧ s (20 + x.toNat) = s 3) ∨ nn = 0 <;> first | (rw [if_pos zq1]; first | done | (first | done | omega | ( rfl) | ( omega) | (exfalso; omega) | ( exfalso; omega))) | (rw [if_neg zq1]; first | done | (by_cases zq2 : s 3 = 60 <;> first | (rw [if_pos zq2]; first | done | (first | done | omega | ( rfl) | ( omega) | (exfalso; omega) | ( exfalso; omega))) | (rw [if_neg zq2]; first | done | (by_cases zq3 : (mgS ((up (wtS cC x (-9)) 5 (cC 3)) 3 - (up (wtS cC x (-9)) 5 (cC 3)) 4).toNat (up (wtS cC x (-9)) 5 (cC 3))) 4 - (up (wtS cC x (-9)) 5 (cC 3)) 4 < 0 <;> first | (rw [if_pos zq3]; first | done | (first | done | omega | ( rfl) | ( omega) | (exfalso; omega) | ( exfalso; omega))) | (rw [if_neg zq3]; first | done | (first | done | omega | ( rfl) | ( omega) | (exfalso; omega) | ( exfalso; omega))))))))))) dX6_change_44
    · refine j_c hx hb dX6_change_16 ?_
      exact m_iret hx hb hr hlocks hW (by (by_cases zq0 : ¬ (0 ≤ x ∧ x < s 0) ∨ ¬ (0 ≤ y ∧ y < s 1) <;> first | (simp only [if_pos zq0]; first | done | (first | rfl | ( rfl) | (exfalso; omega))) | (simp only [if_neg zq0]; first | done | (by_cases zq1 : s 5 ≠ -9 ∨ ¬ ((seatL (fun i => s (32 + i)) (x) (s 1).toNat ≠ -9 ∨ seatL (fun i => s ((if s 5 ≠ -9 then (37 : Int) else 32).toNat + i)) (x) (s 1).toNat ≠ -9) ∧ s (8 + x.toNat) = 1 ∧ s (20 + x.toNat) = s 3) ∨ nn = 0 <;> first | (simp only [if_pos zq1]; first | done | (first | rfl | ( rfl) | (exfalso; omega))) | (simp only [if_neg zq1]; first | done | (by_cases zq2 : s 3 = 60 <;> first | (simp only [if_pos zq2]; first | done | (first | rfl | ( rfl) | (exfalso; omega))) | (simp only [if_neg zq2]; first | done | (first | rfl | ( rfl) | (exfalso; omega))))))))) (by (by_cases zq0 : ¬ (0 ≤ x ∧ x < s 0) ∨ ¬ (0 ≤ y ∧ y < s 1) <;> first | (rw [if_pos zq0]; first | done | (first | done | omega | ( rfl) | ( omega) | (exfalso; omega) | ( exfalso; omega))) | (rw [if_neg zq0]; first | done | (by_cases zq1 : s 5 ≠ -9 ∨ ¬ ((seatL (fun i => s (32 + i)) (x) (s 1).toNat ≠ -9 ∨ seatL (fun i => s ((if s 5 ≠ -9 then (37 : Int) else 32).toNat + i)) (x) (s 1).toNat ≠ -9) ∧ s (8 + x.toNat) = 1 ∧ s (20 + x.toNat) = s 3) ∨ nn = 0 <;> first | (rw [if_pos zq1]; first | done | (first | done | omega | ( rfl) | ( omega) | (exfalso; omega) | ( exfalso; omega))) | (rw [if_neg zq1]; first | done | (by_cases zq2 : s 3 = 60 <;> first | (rw [if_pos zq2]; first | done | (first | done | omega | ( rfl) | ( omega) | (exfalso; omega) | ( exfalso; omega))) | (rw [if_neg zq2]; first | done | (by_cases zq3 : (mgS ((up (wtS cC x (-9)) 5 (cC 3)) 3 - (up (wtS cC x (-9)) 5 (cC 3)) 4).toNat (up (wtS cC x (-9)) 5 (cC 3))) 4 - (up (wtS cC x (-9)) 5 (cC 3)) 4 < 0 <;> first | (rw [if_pos zq3]; first | done | (first | done | omega | ( rfl) | ( omega) | (exfalso; omega) | ( exfalso; omega))) | (rw [if_neg zq3]; first | done | (first | done | omega | ( rfl) | ( omega) | (exfalso; omega) | ( exfalso; omega))))))))))) dX6_change_17
