/-! a change that begins, all five seats of the new row told -/
def chgW (m : Nat → Int) (x y n v : Int) : Nat → Int := blk (chgG m x y n v) 37 (fun i => if (i : Int) = y then v else m (32 + i)) 5
theorem chgW_o {m : Nat → Int} {x y n v : Int} {j : Nat} (hj : ¬ (37 ≤ j ∧ j < 42)) : chgW m x y n v j = chgG m x y n v j := by
  unfold chgW
  rw [blk_out (by omega)]
theorem chgW_n {m : Nat → Int} {x y n v : Int} {i : Nat} (hi : i < 5) : chgW m x y n v (37 + i) = if (i : Int) = y then v else m (32 + i) := by
  unfold chgW
  rw [blk_in hi]
theorem drawn_ok {m : Nat → Int} {nn vi : Int} (h : Inv m) (e_nn : nn = sm (fun i => b2i (seatL (fun i => m (32 + i)) (i : Int) (m 1).toNat = -9)) (m 0).toNat) (evi : vi = pickL (fun i => b2i (seatL (fun i => m (32 + i)) (i : Int) (m 1).toNat = -9)) ((m 6 * 25173 + 13849) % 65536 % nn) (m 0).toNat) (n0 : nn ≠ 0) : 0 ≤ vi ∧ vi < m 0 ∧ 0 < nn ∧ nn ≤ 12 ∧ ∀ i : Nat, (i : Int) < m 1 → m (32 + i) ≠ vi := by
  have h0 := h.1.2.1
  have h12 := h.1.2.2.1
  have hF : ∀ k : Nat, 0 ≤ (fun i : Nat => b2i (seatL (fun i => m (32 + i)) (i : Int) (m 1).toNat = -9)) k ∧ (fun i : Nat => b2i (seatL (fun i => m (32 + i)) (i : Int) (m 1).toNat = -9)) k ≤ 1 := fun k => b2i_rg
  have hr := sm_rg hF (m 0).toNat
  rw [← e_nn] at hr
  have hp0 := Int.emod_nonneg ((m 6 * 25173 + 13849) % 65536) n0
  have hp1 := Int.emod_lt_of_pos ((m 6 * 25173 + 13849) % 65536) (show 0 < nn by omega)
  have v0 : 0 ≤ vi := by
    rw [evi]
    exact pickL_ok hF hp0 _ (by rw [← e_nn]; exact hp1)
  have hs := pickL_sound (i := vi.toNat) (m 0).toNat ((evi.symm).trans (Int.toNat_of_nonneg v0).symm)
  have vL : seatL (fun i => m (32 + i)) vi (m 1).toNat = -9 := by
    have q := hs.2.1
    by_cases r : seatL (fun i => m (32 + i)) ((vi.toNat : Nat) : Int) (m 1).toNat = -9
    · rw [Int.toNat_of_nonneg v0] at r
      exact r
    · have q : b2i (seatL (fun i => m (32 + i)) ((vi.toNat : Nat) : Int) (m 1).toNat = -9) = 1 := q
      rw [b2i_f r] at q
      omega
  have vN := (seatL_none (m 1).toNat).mp vL
  exact ⟨v0, by omega, by omega, by omega, fun i hi => vN i (by omega)⟩
theorem chgW_inv {m : Nat → Int} {x y nn vi : Int} (h : Inv m) (hx : 0 ≤ x ∧ x < m 0) (hy : 0 ≤ y ∧ y < m 1) (h5 : m 5 = -9) (hc : m (20 + x.toNat) = m 3) (h60 : m 3 < 60) (hv : 0 ≤ vi ∧ vi < m 0 ∧ 0 < nn ∧ nn ≤ 12 ∧ ∀ i : Nat, (i : Int) < m 1 → m (32 + i) ≠ vi) : Inv (chgW m x y nn vi) := by
  obtain ⟨v0, v1, n0, n12, vN⟩ := hv
  have h0 := h.1.2.1
  have h12 := h.1.2.2.1
  have h1 := h.1.2.2.2.1
  have h15 := h.1.2.2.2.2.1
  have h3 := h.1.2.2.2.2.2.1
  have h360 := h.1.2.2.2.2.2.2.1
  have h4 := h.1.2.2.2.2.2.2.2.1
  have h43 := h.1.2.2.2.2.2.2.2.2.1
  have h7 := h.1.2.2.2.2.2.2.2.2.2.1
  have h760 := h.1.2.2.2.2.2.2.2.2.2.2.1
  have h6 := h.1.2.2.2.2.2.2.2.2.2.2.2.1
  have h66 := h.1.2.2.2.2.2.2.2.2.2.2.2.2.1
  have h73 := h.2.2.1
  obtain ⟨W, hW⟩ : ∃ W, W = chgW m x y nn vi := ⟨_, rfl⟩
  rw [← hW]
  have hG : ∀ j, ¬ (37 ≤ j ∧ j < 42) → W j = chgG m x y nn vi j := fun j hj => by
    rw [hW]
    exact chgW_o hj
  have hm : ∀ j, j ≠ 3 ∧ j ≠ 5 ∧ j ≠ 6 ∧ j ≠ 7 ∧ j < 37 ∧ j ≠ 20 + x.toNat → W j = m j := fun j hj => by
    rw [hG j (by omega), chgG_m (by omega)]
  have w3 : W 3 = m 3 + 1 := (hG 3 (by omega)).trans chgG_3
  have w5 : W 5 = m 3 := (hG 5 (by omega)).trans chgG_5
  have w7 : W 7 = m 7 + 1 := (hG 7 (by omega)).trans chgG_7
  have w1 : W 1 = m 1 := hm 1 (by omega)
  have w6 : W 6 = (m 6 * 25173 + 13849) % 65536 := by
    rw [hG 6 (by omega)]
    unfold chgG
    simp
    omega
  have wo : ∀ i, i < 5 → W (32 + i) = m (32 + i) := fun i hi => hm (32 + i) (by omega)
  have wn : ∀ i : Nat, i < 5 → W (37 + i) = if (i : Int) = y then vi else m (32 + i) := fun i hi => by
    rw [hW]
    exact chgW_n hi
  have hb : ∀ k, bd (W k) := fun k => by
    by_cases q : 37 ≤ k ∧ k < 42
    · obtain ⟨i, rfl⟩ : ∃ i, k = 37 + i := ⟨k - 37, by omega⟩
      rw [wn i (by omega)]
      split
      · omega
      · exact h.1.1 _
    · rw [hG k q]
      unfold chgG
      have b2 := h.1.1 2
      have bk := h.1.1 k
      (repeat' split) <;> omega
  have hM : MS W := by
    refine MS_ex h.1 hb (Or.inl (hm 0 (by omega))) (by rw [w1]; omega) (Or.inr ⟨w3, by omega⟩) (Or.inl (hm 4 (by omega))) ?_ (Or.inr ⟨w7, by omega⟩) (fun i hi => ?_) (fun i hi => ?_)
    · rw [w6]
      omega
    · rw [wo i hi]
      exact h.1.2.2.2.2.2.2.2.2.2.2.2.2.2.1 i hi
    · rw [wn i hi]
      split
      · omega
      · exact h.1.2.2.2.2.2.2.2.2.2.2.2.2.2.1 i hi
  refine ⟨hM, ?_, by omega, fun i hi => ?_, fun i hi => ?_, fun i hi => ?_, fun i j hi hj he => ?_, Or.inr ⟨?_, by omega, by omega, y.toNat, ?_, by omega, ?_, fun i hi hy => ?_, ?_, fun i hi => ?_⟩⟩
  · rw [hm 2 (by omega), hm 4 (by omega)]
    exact h.2.1
  · rw [hm (8 + i) (by omega)]
    exact h.2.2.2.1 i hi
  · by_cases q : i = x.toNat
    · rw [q, hG (20 + x.toNat) (by omega), chgG_x]
      omega
    · have := h.2.2.2.2.1 i hi
      rw [hm (20 + i) (by omega)]
      omega
  · rw [w1] at hi
    rw [wo i (by omega), hm 0 (by omega)]
    exact h.2.2.2.2.2.1 i hi
  · rw [w1] at hi hj
    have he : W (32 + i) = W (32 + j) := he
    rw [wo i (by omega), wo j (by omega)] at he
    exact h.2.2.2.2.2.2.1 i j hi hj he
  · rw [hm 4 (by omega), w5]
    omega
  · rw [w7, show (m 7 + 1).toNat - 1 = (m 7).toNat by omega, hG _ (by omega), chgG_226 (by omega) (by omega)]
    omega
  · rw [w7, show (m 7 + 1).toNat - 1 = (m 7).toNat by omega, hG _ (by omega), chgG_224 (by omega) (by omega), wn y.toNat (by omega), if_pos (by omega)]
  · rw [wn i (by omega), if_neg (by omega), wo i (by omega)]
  · rw [wn y.toNat (by omega), if_pos (by omega), hm 0 (by omega)]
    omega
  · rw [wn y.toNat (by omega), if_pos (by omega), wo i (by omega)]
    exact vN i (by omega)
theorem ac_change {cI cV : ClassId} {g a : Nat → Nat} {ra : Nat → Nat → Nat} {m : Nat → Int} {wL : va_W} (l : Launch) (D : va_G) (hL : LW cI cV g a ra m wL) (hI : Inv m) {x y nn vi : Int} (hx : 0 ≤ x ∧ x < m 0) (hy : 0 ≤ y ∧ y < m 1) (e_nn : nn = sm (fun i => b2i (seatL (fun i => m (32 + i)) (i : Int) (m 1).toNat = -9)) (m 0).toNat) (evi : vi = pickL (fun i => b2i (seatL (fun i => m (32 + i)) (i : Int) (m 1).toNat = -9)) ((m 6 * 25173 + 13849) % 65536 % nn) (m 0).toNat) (h5 : m 5 = -9) (hel : ((seatL (fun i => m (32 + i)) x (m 1).toNat ≠ -9 ∨ seatL (fun i => m ((if m 5 ≠ -9 then (37 : Int) else 32).toNat + i)) x (m 1).toNat ≠ -9) ∧ m (8 + x.toNat) = 1 ∧ m (20 + x.toNat) = m 3)) (n0 : nn ≠ 0) (h60 : m 3 < 60) : ∃ wL', LW cI cV g a ra (mgS ((chgW m x y nn vi) 3 - (chgW m x y nn vi) 4).toNat (chgW m x y nn vi)) wL' ∧ MM l yX5_change wsX5_change 6 145 [.ref (g 0), .int (iI x), .int (iI y)] wL wL' D cI cV (some (.int (iI vi))) := by
  obtain ⟨rS, rZ, rN, fr, np, t, pl, le, vr, nr, hfr, hnp, rfl⟩ := hL
  have hv := drawn_ok hI e_nn evi n0
  have hW := chgW_inv (y := y) hI hx hy h5 hel.2.2 h60 hv
  have r_x : rg x := ⟨by omega, by have := hI.1.2.2.1; omega⟩
  have r_y : rg y := ⟨by omega, by have := hI.1.2.2.2.2.1; omega⟩
  obtain ⟨dr, edr⟩ : ∃ z : Int, z = if sm (fun i => b2i (¬ (seatF (fun i => m (32 + i)) ((i : Int)) (m 1).toNat ≠ -9))) (m 0).toNat ≤ 0 then -9 else pick (fun i => b2i (¬ (seatF (fun i => m (32 + i)) ((i : Int)) (m 1).toNat ≠ -9))) (((m 6) * 25173 + 13849) % 65536 % sm (fun i => b2i (¬ (seatF (fun i => m (32 + i)) ((i : Int)) (m 1).toNat ≠ -9))) (m 0).toNat) (m 0).toNat := ⟨_, rfl⟩
  have h12 := hI.1.2.2.1
  have h15 := hI.1.2.2.2.2.1
  have h3 := hI.1.2.2.2.2.2.1
  have h4 := hI.1.2.2.2.2.2.2.2.1
  have h43 := hI.1.2.2.2.2.2.2.2.2.1
  have ed2 : dr = vi := by
    rw [edr, cand_eq, ← e_nn, if_neg (by omega), evi, pick_eq (fun k => b2i_rg.1)]
  have hA : ActP m (fun _ => 0) 0 (if ¬ (0 ≤ x ∧ x < m 0) ∨ ¬ (0 ≤ y ∧ y < m 1) then (m) else (if m 5 ≠ -9 ∨ ¬ (((seatF (fun i => m (32 + i)) (x) (m 1).toNat ≠ -9) ∨ (seatF (nwO m) (x) (m 1).toNat ≠ -9)) ∧ ((0 ≤ (x) ∧ (x) < m 0) ∧ m (8 + (x).toNat) = 1)) ∨ m (20 + x.toNat) < m 3 ∨ dr = -9 then (m) else (if 60 ≤ m 3 then (m) else (agS (m 1) (up (nwO m) y.toNat dr) ((addS (up (wrS m (sm (fun i => b2i (¬ (seatF (fun i => m (32 + i)) ((i : Int)) (m 1).toNat ≠ -9))) (m 0).toNat) dr y) 5 ((wrS m (sm (fun i => b2i (¬ (seatF (fun i => m (32 + i)) ((i : Int)) (m 1).toNat ≠ -9))) (m 0).toNat) dr y) 3)) x (-9)) 3 - (addS (up (wrS m (sm (fun i => b2i (¬ (seatF (fun i => m (32 + i)) ((i : Int)) (m 1).toNat ≠ -9))) (m 0).toNat) dr y) 5 ((wrS m (sm (fun i => b2i (¬ (seatF (fun i => m (32 + i)) ((i : Int)) (m 1).toNat ≠ -9))) (m 0).toNat) dr y) 3)) x (-9)) 4).toNat (addS (up (wrS m (sm (fun i => b2i (¬ (seatF (fun i => m (32 + i)) ((i : Int)) (m 1).toNat ≠ -9))) (m 0).toNat) dr y) 5 ((wrS m (sm (fun i => b2i (¬ (seatF (fun i => m (32 + i)) ((i : Int)) (m 1).toNat ≠ -9))) (m 0).toNat) dr y) 3)) x (-9)))))) ((m 1)) (if ¬ (0 ≤ x ∧ x < m 0) ∨ ¬ (0 ≤ y ∧ y < m 1) then ((nwO m)) else (if m 5 ≠ -9 ∨ ¬ (((seatF (fun i => m (32 + i)) (x) (m 1).toNat ≠ -9) ∨ (seatF (nwO m) (x) (m 1).toNat ≠ -9)) ∧ ((0 ≤ (x) ∧ (x) < m 0) ∧ m (8 + (x).toNat) = 1)) ∨ m (20 + x.toNat) < m 3 ∨ dr = -9 then ((nwO m)) else (if 60 ≤ m 3 then ((nwO m)) else (up (nwO m) y.toNat dr)))) (if ¬ (0 ≤ x ∧ x < m 0) ∨ ¬ (0 ≤ y ∧ y < m 1) then (-1) else (if m 5 ≠ -9 ∨ ¬ (((seatF (fun i => m (32 + i)) (x) (m 1).toNat ≠ -9) ∨ (seatF (nwO m) (x) (m 1).toNat ≠ -9)) ∧ ((0 ≤ (x) ∧ (x) < m 0) ∧ m (8 + (x).toNat) = 1)) ∨ m (20 + x.toNat) < m 3 ∨ dr = -9 then (-2) else (if 60 ≤ m 3 then (-3) else (dr)))) (mgS ((chgW m x y nn vi) 3 - (chgW m x y nn vi) 4).toNat (chgW m x y nn vi)) (actP m (fun _ => 0) 0) (actN 0 + 1) vi := by
    rw [cand_eq, ← e_nn, seat_old hI (x := x), seat_new hI (x := x)]
    have c1 : ¬ (¬ (0 ≤ x ∧ x < m 0) ∨ ¬ (0 ≤ y ∧ y < m 1)) := fun q => by omega
    have c2' : ¬ (m 5 ≠ -9 ∨ ¬ (((seatL (fun i => m (32 + i)) (x) (m 1).toNat ≠ -9) ∨ (seatL (fun i => m ((if m 5 ≠ -9 then (37 : Int) else 32).toNat + i)) (x) (m 1).toNat ≠ -9)) ∧ ((0 ≤ (x) ∧ (x) < m 0) ∧ m (8 + (x).toNat) = 1)) ∨ m (20 + x.toNat) < m 3 ∨ dr = -9) := by
      rintro (q | q | q | q)
      · exact q h5
      · exact q ⟨hel.1, by omega, hel.2.1⟩
      · omega
      · omega
    simp only [if_neg c1, if_neg c2', if_neg (show ¬ 60 ≤ m 3 by omega)]
    rw [ed2, chg_A (by omega)]
    obtain ⟨W, eW⟩ : ∃ W, W = chgW m x y nn vi := ⟨_, rfl⟩
    rw [← eW] at hW ⊢
    have hG : ∀ j, ¬ (37 ≤ j ∧ j < 42) → W j = chgG m x y nn vi j := fun j hj => by
      rw [eW]
      exact chgW_o hj
    have hE : EQ (chgG m x y nn vi) W := fun j hj => (hG j hj).symm
    have hm : ∀ j, j ≠ 3 ∧ j ≠ 5 ∧ j ≠ 6 ∧ j ≠ 7 ∧ j < 37 ∧ j ≠ 20 + x.toNat → W j = m j := fun j hj => by
      rw [hG j (by omega), chgG_m (by omega)]
    have w5 : W 5 = m 3 := (hG 5 (by omega)).trans chgG_5
    have w1 : W 1 = m 1 := hm 1 (by omega)
    have hn : ∀ i, i < 5 → up (nwO m) y.toNat vi i = nwO W i := fun i hi => by
      unfold nwO
      rw [if_pos hi, w1, w5]
      by_cases q : (i : Int) < m 1
      · rw [if_pos ⟨by omega, q⟩, eW, chgW_n hi]
        by_cases r : i = y.toNat
        · rw [up_at r, if_pos (by omega)]
        · rw [up_ne r, if_pos hi, if_neg (fun u => u.1 h5), if_neg (by omega)]
      · rw [if_neg (fun u => q u.2), up_ne (by omega), if_pos hi, if_neg (fun u => u.1 h5), hm (32 + i) (by omega)]
    have ga := mg_all (W 3 - W 4).toNat hW
    rw [show (chgG m x y nn vi 3 - chgG m x y nn vi 4).toNat = (W 3 - W 4).toNat by rw [hG 3 (by omega), hG 4 (by omega)]]
    exact Act.yes ga.1 (by omega) (by omega) rfl (ag_eq _ hE hW w1.symm hn) (w1.symm.trans ga.2.2.1.symm) (fun i hi => (hn i hi).trans (ga.2.1 i hi).symm)
  have c5 := kX5_change l D cI cV g a ra m (m 1) (nwO m) rS rZ rN fr np t 0 pl le vr nr x y dr _ _ _ hfr hI.toVI r_x r_y hI.2.1 rfl hI.2.2.1 edr hnp rfl rfl rfl hA.2.1
  rw [hA.1] at c5
  exact ⟨_, act_LW hA (by split <;> omega) (by split <;> omega), c5⟩
theorem SV_chg {m ev dv : Nat → Int} {x y nn vi : Int} (h : SV m ev dv) (hW : Inv (chgW m x y nn vi)) (hx : 0 ≤ x ∧ x < m 0) (hy : 0 ≤ y ∧ y < m 1) (h5 : m 5 = -9) (h60 : m 3 < 60) (hv : 0 ≤ vi ∧ vi < m 0 ∧ 0 < nn ∧ nn ≤ 12 ∧ ∀ i : Nat, (i : Int) < m 1 → m (32 + i) ≠ vi) : SV (chgW m x y nn vi) (up ev (m 3).toNat (-9 + 9 + m 2 * 1024 + x * 262144)) (up dv (m 7).toNat (m 6 + nn * 65536 + vi * 1048576 + vi * 16777216 + y * 268435456)) := by
  obtain ⟨v0, v1, n0, n12, -⟩ := hv
  obtain ⟨hI, ⟨h1, h2, h3, hX⟩, h4⟩ := h
  have h12 := hI.1.2.2.1
  have b15 := hI.1.2.2.2.2.1
  have b3 := hI.1.2.2.2.2.2.1
  have b4 := hI.1.2.2.2.2.2.2.2.1
  have b43 := hI.1.2.2.2.2.2.2.2.2.1
  have b7 := hI.1.2.2.2.2.2.2.2.2.2.1
  have h73 := hI.2.2.1
  have b6 := hI.1.2.2.2.2.2.2.2.2.2.2.2.1
  have b66 := hI.1.2.2.2.2.2.2.2.2.2.2.2.2.1
  have h24 := hI.2.1
  have b2 : 0 ≤ m 2 := by
    rw [h3.1]
    exact (sm_rg (fun k => b2i_rg) _).1
  obtain ⟨W, eW⟩ : ∃ W, W = chgW m x y nn vi := ⟨_, rfl⟩
  rw [← eW] at hW ⊢
  have hG : ∀ j, ¬ (37 ≤ j ∧ j < 42) → W j = (if j = 20 + x.toNat then m 3 + 1 else if j = 3 then m 3 + 1 else if j = 44 + 3 * (m 3).toNat then x else if j = 43 + 3 * (m 3).toNat then m 2 else if j = 42 + 3 * (m 3).toNat then -9 else if j = 5 then m 3 else if j = 6 then (m 6 * 25173 + 13849) % 65536 else if j = 7 then m 7 + 1 else if j = 226 + 5 * (m 7).toNat then y else if j = 224 + 5 * (m 7).toNat then vi else if j = 225 + 5 * (m 7).toNat then vi else if j = 223 + 5 * (m 7).toNat then nn else if j = 222 + 5 * (m 7).toNat then m 6 else m j) := fun j hj => by
    rw [eW, chgW_o hj]
    rfl
  have hg : ∀ j, ¬ (37 ≤ j ∧ j < 42) → W j = chgG m x y nn vi j := fun j hj => by
    rw [eW, chgW_o hj]
  have w2 : W 2 = m 2 := by rw [hg 2 (by omega), chgG_m (by omega)]
  have w3 : W 3 = m 3 + 1 := by rw [hg 3 (by omega), chgG_3]
  have w4 : W 4 = m 4 := by rw [hg 4 (by omega), chgG_m (by omega)]
  have w5 : W 5 = m 3 := by rw [hg 5 (by omega), chgG_5]
  have w7 : W 7 = m 7 + 1 := by rw [hg 7 (by omega), chgG_7]
  have w1 : W 1 = m 1 := by rw [hg 1 (by omega), chgG_m (by omega)]
  have el : ∀ k : Nat, (k : Int) < m 3 → W (42 + 3 * k) = m (42 + 3 * k) ∧ W (43 + 3 * k) = m (43 + 3 * k) ∧ W (44 + 3 * k) = m (44 + 3 * k) := fun k hk => by
    refine ⟨?_, ?_, ?_⟩
    all_goals
      rw [hG _ (by omega)]
      repeat rw [if_neg (by omega)]
  have dl : ∀ k : Nat, (k : Int) < m 7 → W (222 + 5 * k) = m (222 + 5 * k) ∧ W (223 + 5 * k) = m (223 + 5 * k) ∧ W (224 + 5 * k) = m (224 + 5 * k) ∧ W (225 + 5 * k) = m (225 + 5 * k) ∧ W (226 + 5 * k) = m (226 + 5 * k) := fun k hk => by
    refine ⟨?_, ?_, ?_, ?_, ?_⟩
    all_goals
      rw [hG _ (by omega)]
      repeat rw [if_neg (by omega)]
  have en : W (42 + 3 * (m 3).toNat) = -9 ∧ W (43 + 3 * (m 3).toNat) = m 2 ∧ W (44 + 3 * (m 3).toNat) = x := by
    refine ⟨?_, ?_, ?_⟩
    all_goals
      rw [hG _ (by omega)]
      repeat first | rw [if_pos rfl] | rw [if_neg (by omega)]
  have dn : W (222 + 5 * (m 7).toNat) = m 6 ∧ W (223 + 5 * (m 7).toNat) = nn ∧ W (224 + 5 * (m 7).toNat) = vi ∧ W (225 + 5 * (m 7).toNat) = vi ∧ W (226 + 5 * (m 7).toNat) = y := by
    refine ⟨?_, ?_, ?_, ?_, ?_⟩
    all_goals
      rw [hG _ (by omega)]
      repeat first | rw [if_pos rfl] | rw [if_neg (by omega)]
  refine ⟨hW, ⟨fun k hk => ?_, fun k hk => ?_, ⟨?_, ?_, fun k k1 k2 => ?_⟩, fun q i hi hm => ?_⟩, fun k hk => ?_, fun k hk => ?_⟩
  · rw [w3] at hk
    by_cases c : (k : Int) < m 3
    · rw [(el k c).1, (el k c).2.1, (el k c).2.2]
      exact h1 k c
    · rw [show k = (m 3).toNat by omega, en.1, en.2.1, en.2.2]
      omega
  · rw [w7] at hk
    by_cases c : (k : Int) < m 7
    · rw [(dl k c).1, (dl k c).2.1, (dl k c).2.2.1, (dl k c).2.2.2.1, (dl k c).2.2.2.2]
      exact h2 k c
    · rw [show k = (m 7).toNat by omega, dn.1, dn.2.1, dn.2.2.1, dn.2.2.2.1, dn.2.2.2.2]
      omega
  · rw [w2, w4, h3.1]
    exact sm_b2i (fun i hi => by rw [(el i (by omega)).1])
  · have q := h3.2.1
    rw [if_pos h5] at q
    rw [w7, w2, w5, if_neg (by omega)]
    omega
  · rw [w4] at k1
    rw [w3] at k2
    rw [w5]
    by_cases c : (k : Int) < m 3
    · have q := h3.2.2 k k1 c
      rw [(el k c).1]
      omega
    · rw [show k = (m 3).toNat by omega, en.1]
      omega
  · rw [w1] at hm
    rw [eW, chgW_n hi, if_neg (by omega), chgW_o (by omega), chgG_m (by omega)]
  · rw [w3] at hk
    unfold eE
    by_cases c : (k : Int) < m 3
    · rw [(el k c).1, (el k c).2.1, (el k c).2.2, up_ne (by omega)]
      exact h4.1 k c
    · rw [show k = (m 3).toNat by omega, en.1, en.2.1, en.2.2, up_at rfl]
  · rw [w7] at hk
    unfold dE
    by_cases c : (k : Int) < m 7
    · rw [(dl k c).1, (dl k c).2.1, (dl k c).2.2.1, (dl k c).2.2.2.1, (dl k c).2.2.2.2, up_ne (by omega)]
      exact h4.2 k c
    · rw [show k = (m 7).toNat by omega, dn.1, dn.2.1, dn.2.2.1, dn.2.2.2.1, dn.2.2.2.2, up_at rfl]
