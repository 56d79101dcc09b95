/-! the law's village: what its rows of longs say, and what it keeps of entries and draws -/
theorem Inv.toVI {m : Nat → Int} (h : Inv m) : VI m (m 1) (nwO m) := by
  obtain ⟨hb, k0, k1, k2, k3, k4, k5, k6, k7, k8, k9, k10, k11, ho, hn⟩ := h.1
  refine ⟨hb, fun k => ?_, k0, k1, k2, k3, k2, k3, k4, k5, k6, k7, k8, k9, k10, k11⟩
  unfold nwO
  split
  · split
    · exact hb _
    · exact hb _
  · omega
def eE (m : Nat → Int) (k : Nat) : Int := m (42 + 3 * k) + 9 + m (43 + 3 * k) * 1024 + m (44 + 3 * k) * 262144
def dE (m : Nat → Int) (k : Nat) : Int := m (222 + 5 * k) + m (223 + 5 * k) * 65536 + m (224 + 5 * k) * 1048576 + m (225 + 5 * k) * 16777216 + m (226 + 5 * k) * 268435456
def ExE (m : Nat → Int) : Prop := ∀ i : Nat, (i : Int) < m 3 → -9 ≤ m (42 + 3 * i) ∧ m (42 + 3 * i) ≤ 999 ∧ 0 ≤ m (43 + 3 * i) ∧ m (43 + 3 * i) ≤ 255 ∧ 0 ≤ m (44 + 3 * i) ∧ m (44 + 3 * i) ≤ 11
def ExD (m : Nat → Int) : Prop := ∀ d : Nat, (d : Int) < m 7 → 0 ≤ m (222 + 5 * d) ∧ m (222 + 5 * d) ≤ 65535 ∧ 0 ≤ m (223 + 5 * d) ∧ m (223 + 5 * d) ≤ 12 ∧ 0 ≤ m (224 + 5 * d) ∧ m (224 + 5 * d) ≤ 11 ∧ 0 ≤ m (225 + 5 * d) ∧ m (225 + 5 * d) ≤ 11 ∧ 0 ≤ m (226 + 5 * d) ∧ m (226 + 5 * d) ≤ 4
def ExN (m : Nat → Int) : Prop := m 2 = sm (fun k => b2i (m (42 + 3 * k) = -9)) (m 4).toNat ∧ m 7 = m 2 + (if m 5 = -9 then 0 else 1) ∧ ∀ k : Nat, m 4 ≤ (k : Int) → (k : Int) < m 3 → (m (42 + 3 * k) = -9 ↔ (k : Int) = m 5)
def Ex (m : Nat → Int) : Prop := ExE m ∧ ExD m ∧ ExN m ∧ Xw m
def Eq_ (m ev dv : Nat → Int) : Prop := (∀ k : Nat, (k : Int) < m 3 → ev k = eE m k) ∧ ∀ k : Nat, (k : Int) < m 7 → dv k = dE m k
def SV (m ev dv : Nat → Int) : Prop := Inv m ∧ Ex m ∧ Eq_ m ev dv
theorem ExE_keep {m m' : Nat → Int} (h : ExE m) (e : ∀ j, 42 ≤ j ∨ j = 3 → m' j = m j) : ExE m' := fun i hi => by
  rw [e 3 (by omega)] at hi
  rw [e (42 + 3 * i) (by omega), e (43 + 3 * i) (by omega), e (44 + 3 * i) (by omega)]
  exact h i hi
theorem ExD_keep {m m' : Nat → Int} (h : ExD m) (e : ∀ j, 222 ≤ j ∨ j = 7 → m' j = m j) : ExD m' := fun i hi => by
  rw [e 7 (by omega)] at hi
  rw [e (222 + 5 * i) (by omega), e (223 + 5 * i) (by omega), e (224 + 5 * i) (by omega), e (225 + 5 * i) (by omega), e (226 + 5 * i) (by omega)]
  exact h i hi
theorem Eq_keep {m m' ev dv : Nat → Int} (h : Eq_ m ev dv) (e : ∀ j, 42 ≤ j ∨ j = 3 ∨ j = 7 → m' j = m j) : Eq_ m' ev dv := by
  refine ⟨fun k hk => ?_, fun k hk => ?_⟩
  · rw [e 3 (by omega)] at hk
    rw [h.1 k hk]
    unfold eE
    rw [e (42 + 3 * k) (by omega), e (43 + 3 * k) (by omega), e (44 + 3 * k) (by omega)]
  · rw [e 7 (by omega)] at hk
    rw [h.2 k hk]
    unfold dE
    rw [e (222 + 5 * k) (by omega), e (223 + 5 * k) (by omega), e (224 + 5 * k) (by omega), e (225 + 5 * k) (by omega), e (226 + 5 * k) (by omega)]
theorem SV_keep {m m' ev dv : Nat → Int} (h : SV m ev dv) (hI : Inv m') (e : ∀ j, 42 ≤ j ∨ (2 ≤ j ∧ j ≤ 5) ∨ j = 7 → m' j = m j) (hX : Xw m') : SV m' ev dv := by
  obtain ⟨-, ⟨h1, h2, h3, -⟩, h4⟩ := h
  refine ⟨hI, ⟨ExE_keep h1 (fun j hj => e j (by omega)), ExD_keep h2 (fun j hj => e j (by omega)), ⟨?_, ?_, fun k k1 k2 => ?_⟩, hX⟩, Eq_keep h4 (fun j hj => e j (by omega))⟩
  · rw [e 2 (by omega), e 4 (by omega), h3.1]
    exact sm_b2i (fun i _ => by rw [e (42 + 3 * i) (by omega)])
  · rw [e 7 (by omega), e 2 (by omega), e 5 (by omega)]
    exact h3.2.1
  · rw [e 4 (by omega)] at k1
    rw [e 3 (by omega)] at k2
    rw [e (42 + 3 * k) (by omega), e 5 (by omega)]
    exact h3.2.2 k k1 k2
theorem mgStep_hi {s : Nat → Int} (h1 : 0 ≤ s 1 ∧ s 1 ≤ 5) {j : Nat} (hj : 42 ≤ j ∨ j = 3 ∨ j = 7) : mgStep s j = s j := by
  unfold mgStep
  split
  · unfold endM
    have : (up s 4 (s 4 + 1)) 1 = s 1 := up_ne (by omega)
    rw [up_ne (by omega), up_ne (by omega), blk_out (by omega), up_ne (by omega)]
  · exact up_ne (by omega)
theorem SV_step {m ev dv : Nat → Int} (h : SV m ev dv) (hc : cnM m) : SV (mgStep m) ev dv := by
  obtain ⟨hI, ⟨h1, h2, h3, hX⟩, h4⟩ := h
  have b1 : 0 ≤ m 1 ∧ m 1 ≤ 5 := ⟨hI.1.2.2.2.1, hI.1.2.2.2.2.1⟩
  have b4 : 0 ≤ m 4 := hI.1.2.2.2.2.2.2.2.1
  have c1 : m 4 < m 3 := hc.1
  have e : ∀ j, 42 ≤ j ∨ j = 3 ∨ j = 7 → mgStep m j = m j := fun j hj => mgStep_hi b1 hj
  have g4 := (mgStep_4 b1).1
  have q := h3.2.2 (m 4).toNat (by omega) (by omega)
  have s4 : sm (fun k => b2i (m (42 + 3 * k) = -9)) (m 4 + 1).toNat = m 2 + b2i (m (42 + 3 * (m 4).toNat) = -9) := by
    rw [show (m 4 + 1).toNat = (m 4).toNat + 1 by omega, h3.1]
    rfl
  have sx : sm (fun k => b2i (mgStep m (42 + 3 * k) = -9)) (m 4 + 1).toNat = m 2 + b2i (m (42 + 3 * (m 4).toNat) = -9) := by
    rw [← s4]
    exact sm_b2i (fun i _ => by rw [e (42 + 3 * i) (by omega)])
  refine ⟨Inv_step hI hc, ⟨ExE_keep h1 (fun j hj => e j (by omega)), ExD_keep h2 (fun j hj => e j (by omega)), ?_, Xw_step b1 hX⟩, Eq_keep h4 e⟩
  by_cases c : m 4 = m 5
  · have v2 : mgStep m 2 = m 2 + 1 := by
      unfold mgStep
      rw [if_pos c]
      unfold endM
      rw [up_at rfl, blk_out (by omega), up_ne (by omega)]
    have v5 : mgStep m 5 = -9 := by
      unfold mgStep
      rw [if_pos c]
      unfold endM
      rw [up_ne (by omega), up_at rfl]
    refine ⟨?_, ?_, fun k k1 k2 => ?_⟩
    · rw [g4, sx, v2, b2i_t (q.mpr (by omega))]
    · have := h3.2.1
      rw [e 7 (by omega), v2, v5, if_pos rfl]
      rw [if_neg (by omega)] at this
      omega
    · rw [g4] at k1
      rw [e 3 (by omega)] at k2
      have := h3.2.2 k (by omega) k2
      rw [e (42 + 3 * k) (by omega), v5]
      omega
  · have v : ∀ j, j ≠ 4 → mgStep m j = m j := fun j hj => by
      unfold mgStep
      rw [if_neg c, up_ne hj]
    refine ⟨?_, ?_, fun k k1 k2 => ?_⟩
    · rw [g4, sx, v 2 (by omega), b2i_f (fun r => c (by have := q.mp r; omega))]
      omega
    · rw [v 7 (by omega), v 2 (by omega), v 5 (by omega)]
      exact h3.2.1
    · rw [g4] at k1
      rw [v 3 (by omega)] at k2
      rw [e (42 + 3 * k) (by omega), v 5 (by omega)]
      exact h3.2.2 k (by omega) k2
theorem SV_mg {ev dv : Nat → Int} : ∀ (n : Nat) {m : Nat → Int}, SV m ev dv → SV (mgS n m) ev dv ∧ mgS n m 3 = m 3
  | 0, _, h => ⟨h, rfl⟩
  | n + 1, m, h => by
    by_cases c : cnM m
    · rw [mgS_pos c]
      have q := SV_mg n (SV_step h c)
      exact ⟨q.1, q.2.trans (mgStep_4 ⟨h.1.1.2.2.2.1, h.1.1.2.2.2.2.1⟩).2⟩
    · rw [mgS_neg c]
      exact ⟨h, rfl⟩
/-- an entry that is proposed -/
theorem SV_wt {m ev dv : Nat → Int} {x y : Int} (h : SV m ev dv) (hx : 0 ≤ x ∧ x < m 0) (hy : 0 ≤ y ∧ y ≤ 999) (h60 : m 3 < 60) (hc : m (20 + x.toNat) = m 3) : SV (wtS m x y) (up ev (m 3).toNat (y + 9 + m 2 * 1024 + x * 262144)) dv := by
  obtain ⟨hI, ⟨h1, h2, h3, hX⟩, h4⟩ := h
  have h12 := hI.1.2.2.1
  have b3 := hI.1.2.2.2.2.2.1
  have b4 := hI.1.2.2.2.2.2.2.2.1
  have b43 := hI.1.2.2.2.2.2.2.2.2.1
  have h24 := hI.2.1
  have b2 : 0 ≤ m 2 := by
    rw [h3.1]
    exact (sm_rg (fun k => b2i_rg) _).1
  have w : ∀ j, wtS m x y j = _ := fun j => wtS_at (m := m) (x := x) (y := y) b3 ⟨hx.1, by omega⟩ (j := j)
  have w3 : wtS m x y 3 = m 3 + 1 := wtS_3
  have wo : ∀ j, j ≠ 3 → j < 20 ∨ 32 ≤ j ∧ j < 42 ∨ 222 ≤ j → wtS m x y j = m j := fun j a b => by
    rw [w j, if_neg (by omega), if_neg (by omega), if_neg (by omega), if_neg (by omega), if_neg (by omega)]
  have wl : ∀ k : Nat, (k : Int) < m 3 → wtS m x y (42 + 3 * k) = m (42 + 3 * k) ∧ wtS m x y (43 + 3 * k) = m (43 + 3 * k) ∧ wtS m x y (44 + 3 * k) = m (44 + 3 * k) := fun k hk => by
    refine ⟨?_, ?_, ?_⟩
    all_goals rw [w, if_neg (by omega), if_neg (by omega), if_neg (by omega), if_neg (by omega), if_neg (by omega)]
  have wn : wtS m x y (42 + 3 * (m 3).toNat) = y ∧ wtS m x y (43 + 3 * (m 3).toNat) = m 2 ∧ wtS m x y (44 + 3 * (m 3).toNat) = x := by
    refine ⟨?_, ?_, ?_⟩
    · rw [w, if_neg (by omega), if_neg (by omega), if_neg (by omega), if_neg (by omega), if_pos rfl]
    · rw [w, if_neg (by omega), if_neg (by omega), if_neg (by omega), if_pos rfl]
    · rw [w, if_neg (by omega), if_neg (by omega), if_pos rfl]
  have hk3 : ∀ k : Nat, (k : Int) < m 3 + 1 → ¬ (k : Int) < m 3 → k = (m 3).toNat := fun k _ _ => by omega
  refine ⟨Inv_wt hI hx (by omega) h60 hc, ⟨fun k hk => ?_, ExD_keep h2 (fun j hj => wo j (by omega) (by omega)), ⟨?_, ?_, fun k k1 k2 => ?_⟩, fun q i hi hm => ?_⟩, fun k hk => ?_, fun k hk => ?_⟩
  · rw [w3] at hk
    by_cases c : (k : Int) < m 3
    · rw [(wl k c).1, (wl k c).2.1, (wl k c).2.2]
      exact h1 k c
    · rw [hk3 k hk c, wn.1, wn.2.1, wn.2.2]
      omega
  · rw [wo 2 (by omega) (by omega), wo 4 (by omega) (by omega), h3.1]
    exact sm_b2i (fun i hi => by rw [(wl i (by omega)).1])
  · rw [wo 7 (by omega) (by omega), wo 2 (by omega) (by omega), wo 5 (by omega) (by omega)]
    exact h3.2.1
  · rw [wo 4 (by omega) (by omega)] at k1
    rw [w3] at k2
    rw [wo 5 (by omega) (by omega)]
    by_cases c : (k : Int) < m 3
    · rw [(wl k c).1]
      exact h3.2.2 k k1 c
    · have h5 : m 5 = -9 ∨ m 5 < m 3 := by
        rcases hI.2.2.2.2.2.2.2 with r | r
        · exact Or.inl r
        · exact Or.inr r.2.1
      have e := hk3 k k2 c
      rw [e, wn.1]
      omega
  · rw [wo 5 (by omega) (by omega)] at q
    rw [wo 1 (by omega) (by omega)] at hm
    rw [wo (37 + i) (by omega) (by omega), wo (32 + i) (by omega) (by omega)]
    exact hX q i hi hm
  · rw [w3] at hk
    unfold eE
    by_cases c : (k : Int) < m 3
    · rw [(wl k c).1, (wl k c).2.1, (wl k c).2.2, up_ne (by omega)]
      exact h4.1 k c
    · rw [hk3 k hk c, wn.1, wn.2.1, wn.2.2, up_at rfl]
  · rw [wo 7 (by omega) (by omega)] at hk
    unfold dE
    rw [wo (222 + 5 * k) (by omega) (by omega), wo (223 + 5 * k) (by omega) (by omega), wo (224 + 5 * k) (by omega) (by omega), wo (225 + 5 * k) (by omega) (by omega), wo (226 + 5 * k) (by omega) (by omega)]
    exact h4.2 k hk
/-- a lot that is forged -/
theorem SV_fg {m ev dv : Nat → Int} {x : Int} (h : SV m ev dv) (hI' : Inv (up (up m (219 + 5 * (m 7).toNat) x) (37 + (m (221 + 5 * (m 7).toNat)).toNat) x)) (hx : 0 ≤ x ∧ x < m 0) (h5 : m 5 ≠ -9) : SV (up (up m (219 + 5 * (m 7).toNat) x) (37 + (m (221 + 5 * (m 7).toNat)).toNat) x) ev (up dv (m 7 - 1).toNat (dv (m 7 - 1).toNat + (x - m (219 + 5 * (m 7).toNat)) * 1048576)) := by
  obtain ⟨hI, ⟨h1, h2, h3, hX⟩, h4⟩ := h
  have h12 := hI.1.2.2.1
  have b1 := hI.1.2.2.2.2.1
  have f5 := hI.f5m h5
  have e1 : 219 + 5 * (m 7).toNat = 224 + 5 * (m 7 - 1).toNat := by omega
  have e2 : 221 + 5 * (m 7).toNat = 226 + 5 * (m 7 - 1).toNat := by omega
  have sb : (m (221 + 5 * (m 7).toNat)).toNat < 5 := by omega
  obtain ⟨z, hz⟩ : ∃ z, z = 37 + (m (221 + 5 * (m 7).toNat)).toNat := ⟨_, rfl⟩
  rw [← hz] at hI' ⊢
  obtain ⟨w, hw⟩ : ∃ w, w = up (up m (219 + 5 * (m 7).toNat) x) z x := ⟨_, rfl⟩
  rw [← hw] at hI' ⊢
  have e : ∀ j, j ≠ 219 + 5 * (m 7).toNat → j ≠ z → w j = m j := fun j a b => by
    rw [hw, up_ne b, up_ne a]
  have ew : w (219 + 5 * (m 7).toNat) = x := by
    rw [hw, up_ne (by omega), up_at rfl]
  have b3 := hI.1.2.2.2.2.2.2.1
  have w3 : w 3 = m 3 := e 3 (by omega) (by omega)
  have w4 : w 4 = m 4 := e 4 (by omega) (by omega)
  have w5 : w 5 = m 5 := e 5 (by omega) (by omega)
  have w7 : w 7 = m 7 := e 7 (by omega) (by omega)
  have w2 : w 2 = m 2 := e 2 (by omega) (by omega)
  have b43 := hI.1.2.2.2.2.2.2.2.2.1
  have el : ∀ k : Nat, (k : Int) < m 3 → w (42 + 3 * k) = m (42 + 3 * k) ∧ w (43 + 3 * k) = m (43 + 3 * k) ∧ w (44 + 3 * k) = m (44 + 3 * k) := fun k hk => ⟨e _ (by omega) (by omega), e _ (by omega) (by omega), e _ (by omega) (by omega)⟩
  have dl : ∀ k : Nat, w (222 + 5 * k) = m (222 + 5 * k) ∧ w (223 + 5 * k) = m (223 + 5 * k) ∧ w (225 + 5 * k) = m (225 + 5 * k) ∧ w (226 + 5 * k) = m (226 + 5 * k) := fun k => ⟨e _ (by omega) (by omega), e _ (by omega) (by omega), e _ (by omega) (by omega), e _ (by omega) (by omega)⟩
  refine ⟨hI', ⟨fun k hk => ?_, fun d hd => ?_, ⟨?_, ?_, fun k k1 k2 => ?_⟩, fun q i hi hm => ?_⟩, fun k hk => ?_, fun k hk => ?_⟩
  · rw [w3] at hk
    rw [(el k hk).1, (el k hk).2.1, (el k hk).2.2]
    exact h1 k hk
  · rw [w7] at hd
    have q := h2 d hd
    rw [(dl d).1, (dl d).2.1, (dl d).2.2.1, (dl d).2.2.2]
    by_cases c : d = (m 7 - 1).toNat
    · rw [show 224 + 5 * d = 219 + 5 * (m 7).toNat by omega, ew]
      omega
    · rw [e (224 + 5 * d) (by omega) (by omega)]
      exact q
  · rw [w2, w4, h3.1]
    exact sm_b2i (fun i hi => by rw [(el i (by omega)).1])
  · rw [w7, w2, w5]
    exact h3.2.1
  · rw [w4] at k1
    rw [w3] at k2
    rw [(el k k2).1, w5]
    exact h3.2.2 k k1 k2
  · rw [w5] at q
    rw [e 1 (by omega) (by omega)] at hm
    rw [e (37 + i) (by omega) (by omega), e (32 + i) (by omega) (by omega)]
    exact hX q i hi hm
  · rw [w3] at hk
    unfold eE
    rw [(el k hk).1, (el k hk).2.1, (el k hk).2.2]
    exact h4.1 k hk
  · rw [w7] at hk
    unfold dE
    rw [(dl k).1, (dl k).2.1, (dl k).2.2.1, (dl k).2.2.2]
    by_cases c : k = (m 7 - 1).toNat
    · rw [up_at c, show 224 + 5 * k = 219 + 5 * (m 7).toNat by omega, ew, ← c, h4.2 k hk]
      unfold dE
      rw [show 219 + 5 * (m 7).toNat = 224 + 5 * k by omega]
      omega
    · rw [up_ne c, e (224 + 5 * k) (by omega) (by omega), h4.2 k hk]
      rfl
