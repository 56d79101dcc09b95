/-! the law's arms: what they need of states -/
theorem forge_inv {m : Nat → Int} {x : Int} (h : Inv m) (hx : 0 ≤ x ∧ x < m 0) (c2 : ¬ (m 5 = -9 ∨ (seatL (fun i => m (32 + i)) x (m 1).toNat ≠ -9 ∨ seatL (fun i => m ((if m 5 ≠ -9 then (37 : Int) else 32).toNat + i)) x (m 1).toNat ≠ -9))) : Inv (up (up m (219 + 5 * (m 7).toNat) x) (37 + (m (221 + 5 * (m 7).toNat)).toNat) x) := by
  have h0 := h.1.2.1
  have h12 := h.1.2.2.1
  have h1 := h.1.2.2.2.1
  have h15 := h.1.2.2.2.2.1
  have h3 := h.1.2.2.2.2.2.1
  have h360 := h.1.2.2.2.2.2.2.1
  have h43 := h.1.2.2.2.2.2.2.2.2.1
  have h7 := h.1.2.2.2.2.2.2.2.2.2.1
  have h760 := h.1.2.2.2.2.2.2.2.2.2.2.1
  have h5 : m 5 ≠ -9 := fun q => c2 (Or.inl q)
  have sO : seatL (fun i => m (32 + i)) x (m 1).toNat = -9 := Classical.not_not.mp (fun q => c2 (Or.inr (Or.inl q)))
  have sN : seatL (fun i => m ((if m 5 ≠ -9 then (37 : Int) else 32).toNat + i)) x (m 1).toNat = -9 := Classical.not_not.mp (fun q => c2 (Or.inr (Or.inr q)))
  have nO := (seatL_none (m 1).toNat).mp sO
  rcases id h.2.2.2.2.2.2.2 with q | ⟨k45, k53, k7, y, y1, y2, y3, y4, y5, y6⟩
  · exact absurd q h5
  obtain ⟨d, hd⟩ : ∃ d : Nat, m 7 = (d : Int) + 1 := ⟨(m 7 - 1).toNat, by omega⟩
  have e7 : (m 7).toNat = d + 1 := by omega
  have e71 : (m 7 - 1).toNat = d := by omega
  rw [e7] at y1 y3
  rw [Nat.add_sub_cancel] at y1 y3
  rw [e7, show 219 + 5 * (d + 1) = 224 + 5 * d by omega, show 221 + 5 * (d + 1) = 226 + 5 * d by omega, y1, Int.toNat_natCast]
  obtain ⟨W, hW⟩ : ∃ W, W = up (up m (224 + 5 * d) x) (37 + y) x := ⟨_, rfl⟩
  rw [← hW]
  have e : ∀ j, j ≠ 224 + 5 * d → j ≠ 37 + y → W j = m j := fun j a b => by
    rw [hW, up_ne b, up_ne a]
  have w1 : W 1 = m 1 := e 1 (by omega) (by omega)
  have w5 : W 5 = m 5 := e 5 (by omega) (by omega)
  have wy : W (37 + y) = x := by rw [hW, up_at rfl]
  have hI : Inv W := by
    refine ⟨by rw [hW]; exact MS_37 (MS_up h.1 (by omega) (by omega)) (by omega) (by omega), ?_, ?_, fun i hi => ?_, fun i hi => ?_, fun i hi => ?_, fun i j hi hj he => ?_, Or.inr ⟨?_, ?_, ?_, y, ?_, by omega, ?_, fun i hi hy => ?_, ?_, fun i hi => ?_⟩⟩
    · rw [e 2 (by omega) (by omega), e 4 (by omega) (by omega)]
      exact h.2.1
    · rw [e 7 (by omega) (by omega), e 3 (by omega) (by omega)]
      exact h.2.2.1
    · rw [e (8 + i) (by omega) (by omega)]
      exact h.2.2.2.1 i hi
    · rw [e (20 + i) (by omega) (by omega), e 3 (by omega) (by omega)]
      exact h.2.2.2.2.1 i hi
    · rw [w1] at hi
      rw [e (32 + i) (by omega) (by omega), e 0 (by omega) (by omega)]
      exact h.2.2.2.2.2.1 i hi
    · rw [w1] at hi hj
      have he : W (32 + i) = W (32 + j) := he
      rw [e (32 + i) (by omega) (by omega), e (32 + j) (by omega) (by omega)] at he
      exact h.2.2.2.2.2.2.1 i j hi hj he
    · rw [e 4 (by omega) (by omega), w5]
      exact k45
    · rw [e 3 (by omega) (by omega), w5]
      exact k53
    · rw [e 7 (by omega) (by omega)]
      exact k7
    · rw [e 7 (by omega) (by omega), e7, Nat.add_sub_cancel, e (226 + 5 * d) (by omega) (by omega)]
      exact y1
    · rw [e 7 (by omega) (by omega), e7, Nat.add_sub_cancel, wy, hW, up_ne (by omega), up_at rfl]
    · rw [e (37 + i) (by omega) (by omega), e (32 + i) (by omega) (by omega)]
      exact y4 i (by omega) hy
    · rw [wy, e 0 (by omega) (by omega)]
      omega
    · rw [wy, e (32 + i) (by omega) (by omega)]
      exact nO i (by omega)
  exact hI
theorem chg_law {m m6 : Nat → Int} {x y nn vi : Int} (h3 : 0 ≤ m 3 ∧ m 3 < 60) (hx : 0 ≤ x ∧ x < 12) (hc : m (20 + x.toNat) = m 3) (e : ∀ j, j < 37 → j ≠ 5 → j ≠ 6 → j ≠ 7 → m6 j = m j) (e5 : m6 5 = m 3) (e6 : m6 6 = (m 6 * 25173 + 13849) % 65536) (e7 : m6 7 = m 7 + 1) (en : ∀ i : Nat, i < 5 → m6 (37 + i) = if (i : Int) = y then vi else m (32 + i)) {j : Nat} (hj : j < 42) : wtS m6 x (-9) j = chgW m x y nn vi j := by
  have b3 := e 3 (by omega) (by omega) (by omega) (by omega)
  rw [wtS_at (by omega) hx]
  by_cases q : 37 ≤ j ∧ j < 42
  · obtain ⟨i, rfl⟩ : ∃ i, j = 37 + i := ⟨j - 37, by omega⟩
    rw [if_neg (by omega), if_neg (by omega), if_neg (by omega), if_neg (by omega), if_neg (by omega), chgW_n (by omega)]
    exact en i (by omega)
  rw [chgW_o q]
  by_cases q1 : j = 20 + x.toNat
  · rw [if_pos q1, e _ (by omega) (by omega) (by omega) (by omega), hc, q1, chgG_x]
  rw [if_neg q1]
  by_cases q2 : j = 3
  · rw [if_pos q2, b3, q2, chgG_3]
  rw [if_neg q2, if_neg (by omega), if_neg (by omega), if_neg (by omega)]
  unfold chgG
  show _ = if j = 20 + x.toNat then m 3 + 1 else if j = 3 then m 3 + 1 else if j = 44 + 3 * (m 3).toNat then x else if j = 43 + 3 * (m 3).toNat then m 2 else if j = 42 + 3 * (m 3).toNat then -9 else if j = 5 then m 3 else if j = 6 then (m 6 * 25173 + 13849) % 65536 else if j = 7 then m 7 + 1 else if j = 226 + 5 * (m 7).toNat then y else if j = 224 + 5 * (m 7).toNat then vi else if j = 225 + 5 * (m 7).toNat then vi else if j = 223 + 5 * (m 7).toNat then nn else if j = 222 + 5 * (m 7).toNat then m 6 else m j
  rw [if_neg q1, if_neg q2, if_neg (by omega), if_neg (by omega), if_neg (by omega)]
  by_cases q5 : j = 5
  · rw [if_pos q5, q5, e5]
  rw [if_neg q5]
  by_cases q6 : j = 6
  · rw [if_pos q6, q6, e6]
  rw [if_neg q6]
  by_cases q7 : j = 7
  · rw [if_pos q7, q7, e7]
  rw [if_neg q7, if_neg (by omega), if_neg (by omega), if_neg (by omega), if_neg (by omega), if_neg (by omega)]
  exact e j (by omega) q5 q6 q7
theorem free_n {l : Launch} {D : va_G} {cI cV cL : ClassId} {ga va : Nat} {post : va_W} {m : Nat → Int} (hbd : ∀ k, bd (m k)) (h0 : 0 ≤ m 0 ∧ m 0 ≤ 12) (h1 : 0 ≤ m 1 ∧ m 1 ≤ 5) : PL l yL_free wsL_free 1 25 [.ref ga, .ref va, .int (iI (-1))] (lw2 cI ga va m post) D cI cV cL (some (.int (iI (sm (fun i => b2i (seatL (fun i => m (32 + i)) (i : Int) (m 1).toNat = -9)) (m 0).toNat)))) := by
  have q := kL_free l D cI cV cL ga va post m hbd h0 h1 (-1) (by decide)
  rw [if_pos (by decide)] at q
  exact q
theorem free_p {l : Launch} {D : va_G} {cI cV cL : ClassId} {ga va : Nat} {post : va_W} {m s : Nat → Int} (hbd : ∀ k, bd (s k)) (h0 : 0 ≤ m 0 ∧ m 0 ≤ 12) (h1 : 0 ≤ m 1 ∧ m 1 ≤ 5) (e : ∀ j, j ≠ 6 → s j = m j) {pl : Int} (hp : 0 ≤ pl ∧ pl < 100) : PL l yL_free wsL_free 1 25 [.ref ga, .ref va, .int (iI pl)] (lw2 cI ga va s post) D cI cV cL (some (.int (iI (pickL (fun i => b2i (seatL (fun i => m (32 + i)) (i : Int) (m 1).toNat = -9)) pl (m 0).toNat)))) := by
  have q := kL_free l D cI cV cL ga va post s hbd (by rw [e 0 (by omega)]; exact h0) (by rw [e 1 (by omega)]; exact h1) pl ⟨by omega, by omega⟩
  have eF : (fun i => s (32 + i)) = (fun i => m (32 + i)) := funext fun i => e _ (by omega)
  rw [if_neg (by omega), e 0 (by omega), e 1 (by omega), eF] at q
  exact q
/-- what stands between two acts of the law: its village, the class's log beside it, at most t entries -/
def LSt (cI cV cL : ClassId) (g a : Nat → Nat) (ra : Nat → Nat → Nat) (ga va ea da : Nat) (t : Int) (w : va_W) : Prop := ∃ (m ev dv : Nat → Int) (wL : va_W), SV m ev dv ∧ m 3 ≤ t ∧ LW cI cV g a ra m wL ∧ w = lw2 cI ga va m (ed2 cL ea da ev dv wL)
theorem sv2 {m ev dv : Nat → Int} (h : SV m ev dv) : 0 ≤ m 2 ∧ m 2 ≤ 60 := by
  obtain ⟨hI, ⟨-, -, h3, -⟩, -⟩ := h
  have q := sm_rg (f := fun k => b2i (m (42 + 3 * k) = -9)) (fun k => b2i_rg) (m 4).toNat
  have b4 := hI.1.2.2.2.2.2.2.2.1
  have b43 := hI.1.2.2.2.2.2.2.2.2.1
  have b3 := hI.1.2.2.2.2.2.2.1
  have e := h3.1
  omega
