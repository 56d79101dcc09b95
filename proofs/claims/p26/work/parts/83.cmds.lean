/-! the commands of a text, on both sides -/
theorem nwO_ext {a b : Nat → Int} (h : ∀ i, i < 5 → nwO a i = nwO b i) : nwO a = nwO b := by
  funext i
  by_cases hi : i < 5
  · exact h i hi
  · unfold nwO
    rw [if_neg hi, if_neg hi]
theorem nwO_congr {a b : Nat → Int} (h5 : a 5 = b 5) (h1 : a 1 = b 1) (h : ∀ j, 32 ≤ j ∧ j < 42 → a j = b j) : nwO a = nwO b := nwO_ext (fun i hi => by
  unfold nwO
  rw [if_pos hi, if_pos hi, h5, h1, h (37 + i) (by omega), h (32 + i) (by omega)])
theorem seat_old {m : Nat → Int} (h : Inv m) {x : Int} : seatF (fun i => m (32 + i)) x (m 1).toNat = seatL (fun i => m (32 + i)) x (m 1).toNat := seat_eq _ h.2.2.2.2.2.2.1
theorem seat_new {m : Nat → Int} (h : Inv m) {x : Int} : seatF (nwO m) x (m 1).toNat = seatL (fun i => m ((if m 5 ≠ -9 then (37 : Int) else 32).toNat + i)) x (m 1).toNat := by
  have h5 := h.1.2.2.2.2.1
  rw [seatF_congr (m 1).toNat (fun i hi => nwO_at h5 (by omega)), seat_eq _ h.disN]
/-- what an action leaves -/
def Good (m m' : Nat → Int) (an : Int) : Prop := Inv m' ∧ bd an ∧ (an < 0 → m' = m)
/-- what a command leaves -/
def Kept (m m' : Nat → Int) (an : Int) : Prop := Good m m' an ∧ m' 1 = m 1 ∧ nwO m' = nwO m
theorem Kept.no {m : Nat → Int} {an : Int} (h : Inv m) (ha : bd an) : Kept m m an := ⟨⟨h, ha, fun _ => rfl⟩, rfl, rfl⟩
theorem mg_good {m W : Nat → Int} {an : Int} (k : Nat) (h : Inv W) (h1 : W 1 = m 1) (hn : nwO W = nwO m) (ha : bd an) (h0 : 0 ≤ an) : Kept m (mgS k W) an :=
  have r := mg_all k h
  ⟨⟨r.1, ha, fun q => by omega⟩, r.2.2.1.trans h1, (nwO_ext r.2.1).trans hn⟩
theorem att_eq {m : Nat → Int} {x y : Int} (h : Inv m) : aAtt m (m 1) (nwO m) x y = maAtt m x y ∧ sAtt m (m 1) (nwO m) x y = msAtt m x y ∧ Kept m (msAtt m x y) (maAtt m x y) := by
  have h0 := h.1.2.1
  have h12 := h.1.2.2.1
  unfold aAtt maAtt sAtt msAtt
  by_cases c1 : ¬ (0 ≤ x ∧ x < m 0) ∨ ¬ (0 ≤ y ∧ y ≤ 1)
  · rw [if_pos c1, if_pos c1, if_pos (show ¬ (0 ≤ x ∧ x < m 0) ∨ y < 0 ∨ 1 < y by omega), if_pos (show ¬ (0 ≤ x ∧ x < m 0) ∨ y < 0 ∨ 1 < y by omega)]
    exact ⟨rfl, rfl, Kept.no h (by omega)⟩
  · rw [if_neg c1, if_neg c1, if_neg (show ¬ (¬ (0 ≤ x ∧ x < m 0) ∨ y < 0 ∨ 1 < y) by omega), if_neg (show ¬ (¬ (0 ≤ x ∧ x < m 0) ∨ y < 0 ∨ 1 < y) by omega)]
    refine ⟨rfl, rfl, ?_⟩
    by_cases c2 : m (8 + x.toNat) = y
    · rw [if_pos c2, if_pos c2]
      exact Kept.no h (by omega)
    · rw [if_neg c2, if_neg c2]
      have hx : ∀ j, j < 12 → up m (8 + x.toNat) y (8 + j) = 0 ∨ up m (8 + x.toNat) y (8 + j) = 1 := fun j hj => by
        unfold up
        split
        · omega
        · exact h.2.2.2.1 j hj
      have hsm : 0 ≤ sm (fun i => up m (8 + x.toNat) y (8 + i)) (up m (8 + x.toNat) y 0).toNat ∧ sm (fun i => up m (8 + x.toNat) y (8 + i)) (up m (8 + x.toNat) y 0).toNat ≤ 12 := by
        rw [show up m (8 + x.toNat) y 0 = m 0 from up_ne (by omega)]
        rw [sm_congr (g := fun i => if i < 12 then up m (8 + x.toNat) y (8 + i) else 0) (m 0).toNat (fun i hi => by
          show _ = if i < 12 then _ else _
          rw [if_pos (by omega)])]
        have := sm_rg (f := fun i => if i < 12 then up m (8 + x.toNat) y (8 + i) else 0) (fun k => by
          by_cases hk : k < 12
          · have := hx k hk
            show 0 ≤ (if k < 12 then _ else _) ∧ (if k < 12 then _ else _) ≤ (1 : Int)
            rw [if_pos hk]
            omega
          · show 0 ≤ (if k < 12 then _ else _) ∧ (if k < 12 then _ else _) ≤ (1 : Int)
            rw [if_neg hk]
            omega) (m 0).toNat
        omega
      refine ⟨⟨Inv_mk h (MS_up h.1 (by omega) (by omega)) ?_ (fun j hj => up_ne (by omega)) ?_ ?_ ?_ hx (fun i hi => ?_), by omega, fun q => by omega⟩, up_ne (by omega), nwO_congr (up_ne (by omega)) (up_ne (by omega)) (fun j hj => up_ne (by omega))⟩
      · rw [up_ne (by omega), up_ne (by omega)]
        exact h.2.1
      · rw [up_ne (by omega)]
        exact Int.le_refl _
      · rw [up_ne (by omega)]
        exact Int.le_refl _
      · rw [up_ne (by omega)]
        rcases h.2.2.2.2.2.2.2 with q | q
        · exact Or.inl q
        · exact Or.inr q.1
      · rw [up_ne (by omega), up_ne (by omega)]
        exact h.2.2.2.2.1 i hi
theorem Inv.h45 {m : Nat → Int} (h : Inv m) : m 5 = -9 ∨ m 4 ≤ m 5 := by
  rcases h.2.2.2.2.2.2.2 with q | q
  · exact Or.inl q
  · exact Or.inr q.1
/-- a copy set anew -/
theorem Inv_copy {m : Nat → Int} {i : Nat} {c : Int} (h : Inv m) (hi : i < 12) (hc : 0 ≤ c ∧ c ≤ m 3) : Inv (up m (20 + i) c) := by
  have h3 := h.1.2.2.2.2.2.2.1
  refine Inv_mk h (MS_up h.1 (by omega) (by omega)) ?_ (fun j hj => up_ne (by omega)) ?_ ?_ ?_ (fun i hi => ?_) (fun k hk => ?_)
  · rw [up_ne (by omega), up_ne (by omega)]
    exact h.2.1
  · rw [up_ne (by omega)]
    exact Int.le_refl _
  · rw [up_ne (by omega)]
    exact Int.le_refl _
  · rw [up_ne (by omega)]
    exact h.h45
  · rw [up_ne (by omega)]
    exact h.2.2.2.1 i hi
  · rw [show up m (20 + i) c 3 = m 3 from up_ne (by omega)]
    unfold up
    split
    · exact hc
    · exact h.2.2.2.2.1 k hk
theorem lea_eq {m : Nat → Int} {x : Int} (h : Inv m) : aLea m (m 1) (nwO m) x = maLea m x ∧ sLea m (m 1) (nwO m) x = msLea m x ∧ Kept m (msLea m x) (maLea m x) := by
  have h0 := h.1.2.1
  have h12 := h.1.2.2.1
  have h4 := h.1.2.2.2.2.2.2.2
  have h3 := h.1.2.2.2.2.2.2.1
  unfold aLea maLea sLea msLea
  by_cases c1 : ¬ (0 ≤ x ∧ x < m 0)
  · rw [if_pos c1, if_pos c1, if_pos c1, if_pos c1]
    exact ⟨rfl, rfl, Kept.no h (by omega)⟩
  · rw [if_neg c1, if_neg c1, if_neg c1, if_neg c1]
    have hp := h.2.2.2.1 x.toNat (by omega)
    have hcp := h.2.2.2.2.1 x.toNat (by omega)
    by_cases c2 : m (8 + x.toNat) = 0
    · rw [if_pos c2, if_pos c2, if_pos (show m (8 + x.toNat) ≠ 1 by omega), if_pos (show m (8 + x.toNat) ≠ 1 by omega)]
      exact ⟨rfl, rfl, Kept.no h (by omega)⟩
    · rw [if_neg c2, if_neg c2, if_neg (show ¬ m (8 + x.toNat) ≠ 1 by omega), if_neg (show ¬ m (8 + x.toNat) ≠ 1 by omega)]
      exact ⟨rfl, rfl, ⟨Inv_copy h (by omega) (by omega), by omega, fun q => by omega⟩, up_ne (by omega), nwO_congr (up_ne (by omega)) (up_ne (by omega)) (fun j hj => up_ne (by omega))⟩
theorem add_wt {m : Nat → Int} {x y : Int} (h : m (20 + x.toNat) = m 3) : addS m x y = wtS m x y := by
  unfold addS wtS
  rw [h]
theorem wtS_at {m : Nat → Int} {x y : Int} (h3 : 0 ≤ m 3) (hx : 0 ≤ x ∧ x < 12) {j : Nat} : wtS m x y j = if j = 20 + x.toNat then m (20 + x.toNat) + 1 else if j = 3 then m 3 + 1 else if j = 44 + 3 * (m 3).toNat then x else if j = 43 + 3 * (m 3).toNat then m 2 else if j = 42 + 3 * (m 3).toNat then y else m j := rfl
theorem Inv_wt {m : Nat → Int} {x y : Int} (h : Inv m) (hx : 0 ≤ x ∧ x < m 0) (hy : bd y) (h60 : m 3 < 60) (hc : m (20 + x.toNat) = m 3) : Inv (wtS m x y) := by
  have h0 := h.1.2.1
  have h12 := h.1.2.2.1
  have h3 := h.1.2.2.2.2.2.1
  have e : ∀ j, (j ≠ 3 ∧ j < 20 ∨ 32 ≤ j ∧ j < 42 ∨ 222 ≤ j) → wtS m x y j = m j := fun j hj => by
    rw [wtS_at h3 (by omega), if_neg (by omega), if_neg (by omega), if_neg (by omega), if_neg (by omega), if_neg (by omega)]
  refine Inv_mk h (MS_wt h.1 h60 (by omega) hy (by omega)) ?_ (fun j hj => e j (by omega)) ?_ ?_ ?_ (fun i hi => ?_) (fun k hk => ?_)
  · rw [e 2 (by omega), e 4 (by omega)]
    exact h.2.1
  · rw [e 0 (by omega)]
    exact Int.le_refl _
  · rw [wtS_3]
    omega
  · rw [e 4 (by omega)]
    exact h.h45
  · rw [e (8 + i) (by omega)]
    exact h.2.2.2.1 i hi
  · have := h.2.2.2.2.1 k hk
    rw [wtS_3, wtS_at h3 (by omega)]
    by_cases c : 20 + k = 20 + x.toNat
    · rw [if_pos c]
      omega
    · rw [if_neg c, if_neg (by omega), if_neg (by omega), if_neg (by omega), if_neg (by omega)]
      omega
theorem wt_nw {m : Nat → Int} {x y : Int} (hx : 0 ≤ x ∧ x < 12) : wtS m x y 1 = m 1 ∧ nwO (wtS m x y) = nwO m := ⟨wtS_ne (by omega) hx, nwO_congr (wtS_ne (by omega) hx) (wtS_ne (by omega) hx) (fun j hj => wtS_ne (by omega) hx)⟩
theorem pro_eq {m : Nat → Int} {x y : Int} (h : Inv m) : aPro m (m 1) (nwO m) x y = maPro m x y ∧ sPro m (m 1) (nwO m) x y = msPro m x y ∧ Kept m (msPro m x y) (maPro m x y) := by
  have h0 := h.1.2.1
  have h12 := h.1.2.2.1
  have h3 := h.1.2.2.2.2.2.1
  have h360 := h.1.2.2.2.2.2.2.1
  have h24 := h.2.1
  unfold aPro maPro sPro msPro
  rw [seat_old h, seat_new h]
  by_cases c1 : ¬ (0 ≤ x ∧ x < m 0) ∨ ¬ (0 ≤ y ∧ y ≤ 999)
  · rw [if_pos c1, if_pos c1, if_pos (show ¬ (0 ≤ x ∧ x < m 0) ∨ y < 0 ∨ 999 < y by omega), if_pos (show ¬ (0 ≤ x ∧ x < m 0) ∨ y < 0 ∨ 999 < y by omega)]
    exact ⟨rfl, rfl, Kept.no h (by omega)⟩
  rw [if_neg c1, if_neg c1, if_neg (show ¬ (¬ (0 ≤ x ∧ x < m 0) ∨ y < 0 ∨ 999 < y) by omega), if_neg (show ¬ (¬ (0 ≤ x ∧ x < m 0) ∨ y < 0 ∨ 999 < y) by omega)]
  have hcp := h.2.2.2.2.1 x.toNat (by omega)
  by_cases c2 : (((seatL (fun i => m (32 + i)) (x) (m 1).toNat ≠ -9) ∨ (seatL (fun i => m ((if m 5 ≠ -9 then (37 : Int) else 32).toNat + i)) (x) (m 1).toNat ≠ -9)) ∧ m (8 + x.toNat) = 1 ∧ m (20 + x.toNat) = m 3)
  · have c2' : ¬ (¬ (((seatL (fun i => m (32 + i)) (x) (m 1).toNat ≠ -9) ∨ (seatL (fun i => m ((if m 5 ≠ -9 then (37 : Int) else 32).toNat + i)) (x) (m 1).toNat ≠ -9)) ∧ ((0 ≤ (x) ∧ (x) < m 0) ∧ m (8 + (x).toNat) = 1)) ∨ m (20 + x.toNat) < m 3) := by
      rintro (q | q)
      · exact q ⟨c2.1, by omega, c2.2.1⟩
      · omega
    rw [if_neg c2', if_neg c2', if_neg (not_not_intro c2), if_neg (not_not_intro c2)]
    by_cases c3 : m 3 = 60
    · rw [if_pos c3, if_pos c3, if_pos (show 60 ≤ m 3 by omega), if_pos (show 60 ≤ m 3 by omega)]
      exact ⟨rfl, rfl, Kept.no h (by omega)⟩
    rw [if_neg c3, if_neg c3, if_neg (show ¬ 60 ≤ m 3 by omega), if_neg (show ¬ 60 ≤ m 3 by omega), add_wt c2.2.2]
    have hW := Inv_wt (x := x) (y := y) h (by omega) (by omega) (by omega) c2.2.2
    have hn := wt_nw (m := m) (x := x) (y := y) (by omega)
    rw [← hn.1, ← hn.2, ag_same _ hW]
    have g := mg_MS ((wtS m x y) 3 - (wtS m x y) 4).toNat hW.1 hW.2.1
    rw [if_neg (show ¬ (mgS ((wtS m x y) 3 - (wtS m x y) 4).toNat (wtS m x y) 4 - (wtS m x y) 4 < 0) by omega), g.2.2.2, wtS_3]
    exact ⟨by omega, rfl, mg_good _ hW hn.1 hn.2 (by omega) (by omega)⟩
  · have c2' : ¬ (((seatL (fun i => m (32 + i)) (x) (m 1).toNat ≠ -9) ∨ (seatL (fun i => m ((if m 5 ≠ -9 then (37 : Int) else 32).toNat + i)) (x) (m 1).toNat ≠ -9)) ∧ ((0 ≤ (x) ∧ (x) < m 0) ∧ m (8 + (x).toNat) = 1)) ∨ m (20 + x.toNat) < m 3 := by
      by_cases q : m (20 + x.toNat) < m 3
      · exact Or.inr q
      · exact Or.inl (fun r => c2 ⟨r.1, r.2.2, by omega⟩)
    rw [if_pos c2', if_pos c2', if_pos c2, if_pos c2]
    exact ⟨rfl, rfl, Kept.no h (by omega)⟩
theorem sec_eq {m : Nat → Int} {x y : Int} (h : Inv m) : aSec m (m 1) (nwO m) x y = maSec m x y ∧ sSec m (m 1) (nwO m) x y = msSec m x y ∧ Kept m (msSec m x y) (maSec m x y) := by
  have h0 := h.1.2.1
  have h12 := h.1.2.2.1
  have h3 := h.1.2.2.2.2.2.1
  have h360 := h.1.2.2.2.2.2.2.1
  unfold aSec maSec sSec msSec
  rw [seat_old h, seat_new h]
  by_cases c1 : ¬ (0 ≤ x ∧ x < m 0) ∨ ¬ (0 ≤ y ∧ y < m 3)
  · rw [if_pos c1, if_pos c1, if_pos c1, if_pos c1]
    exact ⟨rfl, rfl, Kept.no h (by omega)⟩
  rw [if_neg c1, if_neg c1, if_neg c1, if_neg c1]
  have hcp := h.2.2.2.2.1 x.toNat (by omega)
  by_cases c2 : ¬ (((seatL (fun i => m (32 + i)) (x) (m 1).toNat ≠ -9) ∨ (seatL (fun i => m ((if m 5 ≠ -9 then (37 : Int) else 32).toNat + i)) (x) (m 1).toNat ≠ -9)) ∧ m (8 + x.toNat) = 1) ∨ m (20 + x.toNat) ≠ y
  · have c2' : ¬ (((seatL (fun i => m (32 + i)) (x) (m 1).toNat ≠ -9) ∨ (seatL (fun i => m ((if m 5 ≠ -9 then (37 : Int) else 32).toNat + i)) (x) (m 1).toNat ≠ -9)) ∧ ((0 ≤ (x) ∧ (x) < m 0) ∧ m (8 + (x).toNat) = 1)) ∨ m (20 + x.toNat) ≠ y := by
      rcases c2 with q | q
      · exact Or.inl (fun r => q ⟨r.1, r.2.2⟩)
      · exact Or.inr q
    rw [if_pos c2', if_pos c2', if_pos c2, if_pos c2]
    exact ⟨rfl, rfl, Kept.no h (by omega)⟩
  · have c2' : ¬ (¬ (((seatL (fun i => m (32 + i)) (x) (m 1).toNat ≠ -9) ∨ (seatL (fun i => m ((if m 5 ≠ -9 then (37 : Int) else 32).toNat + i)) (x) (m 1).toNat ≠ -9)) ∧ ((0 ≤ (x) ∧ (x) < m 0) ∧ m (8 + (x).toNat) = 1)) ∨ m (20 + x.toNat) ≠ y) := by
      rintro (q | q)
      · exact c2 (Or.inl (fun r => q ⟨r.1, by omega, r.2⟩))
      · exact c2 (Or.inr q)
    rw [if_neg c2', if_neg c2', if_neg c2, if_neg c2]
    have hW := Inv_copy (i := x.toNat) (c := m (20 + x.toNat) + 1) h (by omega) (by omega)
    have hn1 : up m (20 + x.toNat) (m (20 + x.toNat) + 1) 1 = m 1 := up_ne (by omega)
    have hn2 : nwO (up m (20 + x.toNat) (m (20 + x.toNat) + 1)) = nwO m := nwO_congr (up_ne (by omega)) (up_ne (by omega)) (fun j hj => up_ne (by omega))
    generalize up m (20 + x.toNat) (m (20 + x.toNat) + 1) = W at *
    rw [← hn1, ← hn2, ag_same _ hW]
    have g := mg_rg hW.1 hW.2.1 (W 3 - W 4).toNat
    exact ⟨rfl, rfl, mg_good _ hW hn1 hn2 (by omega) (by omega)⟩
