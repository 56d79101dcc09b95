/-! the other actions, on both sides -/
theorem Inv.h1z {m : Nat → Int} (h : Inv m) (h1 : m 1 = 0) : m 5 = -9 := by
  rcases h.2.2.2.2.2.2.2 with q | ⟨-, -, -, y, -, y2, -⟩
  · exact q
  · omega
/-- what an action does on both sides: the class's state, its new council, its answer; the reference's state, its past, its answer -/
def ActP (m pa : Nat → Int) (np : Int) (s1 : Nat → Int) (nz1 : Int) (nw1 : Nat → Int) (an : Int) (m1 pa1 : Nat → Int) (np1 an1 : Int) : Prop := an = an1 ∧ bd an ∧ EQ s1 m1 ∧ nz1 = m1 1 ∧ (∀ i, i < 5 → nw1 i = nwO m1 i) ∧ Inv m1 ∧ (an < 0 → m1 = m) ∧ pa1 = (if an < 0 then pa else actP m pa np) ∧ np1 = (if an < 0 then np else actN np + 1)
theorem Act.no {m pa : Nat → Int} {np an : Int} (h : Inv m) (ha : bd an) (hn : an < 0) : ActP m pa np m (m 1) (nwO m) an m pa np an := ⟨rfl, ha, EQ.refl, rfl, fun _ _ => rfl, h, fun _ => rfl, (if_pos hn).symm, (if_pos hn).symm⟩
theorem Act.yes {m pa s1 nw1 m1 : Nat → Int} {np nz1 an an1 : Int} (h : Inv m1) (ha : bd an) (h0 : 0 ≤ an) (he : an = an1) (hE : EQ s1 m1) (hz : nz1 = m1 1) (hn : ∀ i, i < 5 → nw1 i = nwO m1 i) : ActP m pa np s1 nz1 nw1 an m1 (actP m pa np) (actN np + 1) an1 := ⟨he, ha, hE, hz, hn, h, fun q => absurd q (by omega), (if_neg (by omega)).symm, (if_neg (by omega)).symm⟩
theorem Act.of {m pa s1 m1 pa1 : Nat → Int} {np np1 an an1 : Int} (h : an = an1 ∧ s1 = m1 ∧ Kept m m1 an1) (hp : pa1 = if an1 < 0 then pa else actP m pa np) (hn : np1 = if an1 < 0 then np else actN np + 1) : ActP m pa np s1 (m 1) (nwO m) an m1 pa1 np1 an1 := by
  obtain ⟨h1, h2, ⟨h3, h4, h5⟩, h6, h7⟩ := h
  subst h1 h2
  exact ⟨rfl, h4, EQ.refl, h6.symm, fun i _ => by rw [h7], h3, h5, hp, hn⟩
theorem come_act {m pa : Nat → Int} {np : Int} (h : Inv m) : ActP m pa np (if 12 ≤ m 0 then (m) else (comeS m)) ((m 1)) ((nwO m)) (if 12 ≤ m 0 then (-3) else (m 0)) (if m 0 = 12 then (m) else (comeS m)) (if m 0 = 12 then (pa) else (if (0 : Int) = 0 then actP m pa np else pa)) (if m 0 = 12 then (np) else (if (0 : Int) = 0 then actN np + 1 else np)) (if m 0 = 12 then (-3) else (m 0)) := by
  have h0 := h.1.2.1
  have h12 := h.1.2.2.1
  have h1 := h.1.2.2.2.1
  have h15 := h.1.2.2.2.2.1
  have h3 := h.1.2.2.2.2.2.1
  by_cases c : m 0 = 12
  · simp only [if_pos c, if_pos (show 12 ≤ m 0 by omega)]
    exact Act.no h (by omega) (by omega)
  · simp only [if_neg c, if_neg (show ¬ 12 ≤ m 0 by omega), if_true]
    have e : ∀ j, j ≠ 0 → j ≠ 8 + (m 0).toNat → j ≠ 20 + (m 0).toNat → comeS m j = m j := fun j a b d => by
      unfold comeS
      rw [up_ne a, up_ne d, up_ne b]
    have e0 : comeS m 0 = m 0 + 1 := up_at rfl
    have hM : MS (comeS m) := by
      refine MS_ex h.1 (bd_up (bd_up (bd_up h.1.1 (by omega)) (by omega)) (by omega)) (Or.inr ⟨e0, by omega⟩) ?_ (Or.inl (e 3 (by omega) (by omega) (by omega))) (Or.inl (e 4 (by omega) (by omega) (by omega))) ?_ (Or.inl (e 7 (by omega) (by omega) (by omega))) (fun i hi => ?_) (fun i hi => ?_)
      · rw [e 1 (by omega) (by omega) (by omega)]
        omega
      · rw [e 6 (by omega) (by omega) (by omega)]
        have := h.1.2.2.2.2.2.2.2.2.2.2.2.1
        have := h.1.2.2.2.2.2.2.2.2.2.2.2.2.1
        omega
      · rw [e (32 + i) (by omega) (by omega) (by omega)]
        exact h.1.2.2.2.2.2.2.2.2.2.2.2.2.2.1 i hi
      · rw [e (37 + i) (by omega) (by omega) (by omega)]
        exact h.1.2.2.2.2.2.2.2.2.2.2.2.2.2.2 i hi
    have hI : Inv (comeS m) := by
      refine Inv_mk h hM ?_ (fun j hj => e j (by omega) (by omega) (by omega)) (by omega) ?_ ?_ (fun i hi => ?_) (fun i hi => ?_)
      · rw [e 2 (by omega) (by omega) (by omega), e 4 (by omega) (by omega) (by omega)]
        exact h.2.1
      · rw [e 3 (by omega) (by omega) (by omega)]
        exact Int.le_refl _
      · rw [e 4 (by omega) (by omega) (by omega)]
        exact h.h45
      · by_cases q : i = (m 0).toNat
        · refine Or.inr ?_
          unfold comeS
          rw [up_ne (by omega), up_ne (by omega), up_at (by omega)]
        · rw [e (8 + i) (by omega) (by omega) (by omega)]
          exact h.2.2.2.1 i hi
      · rw [e 3 (by omega) (by omega) (by omega)]
        by_cases q : i = (m 0).toNat
        · have : comeS m (20 + i) = 0 := by
            unfold comeS
            rw [up_ne (by omega), up_at (by omega)]
          omega
        · rw [e (20 + i) (by omega) (by omega) (by omega)]
          exact h.2.2.2.2.1 i hi
    refine Act.yes hI (by omega) (by omega) rfl EQ.refl (e 1 (by omega) (by omega) (by omega)).symm (fun i hi => ?_)
    rw [nwO_congr (a := comeS m) (b := m) (e 5 (by omega) (by omega) (by omega)) (e 1 (by omega) (by omega) (by omega)) (fun j hj => e j (by omega) (by omega) (by omega))]
theorem setLot_act {m pa : Nat → Int} {np x : Int} (h : Inv m) : ActP m pa np (if x < 0 ∨ 65535 < x then (m) else (up m 6 x)) ((m 1)) ((nwO m)) (if x < 0 ∨ 65535 < x then (-1) else (m 6)) (if ¬ (0 ≤ x ∧ x ≤ 65535) then (m) else (up m 6 x)) (if ¬ (0 ≤ x ∧ x ≤ 65535) then (pa) else (if (0 : Int) = 0 then actP m pa np else pa)) (if ¬ (0 ≤ x ∧ x ≤ 65535) then (np) else (if (0 : Int) = 0 then actN np + 1 else np)) (if ¬ (0 ≤ x ∧ x ≤ 65535) then (-1) else (m 6)) := by
  have h6 := h.1.2.2.2.2.2.2.2.2.2.2.2.1
  have h66 := h.1.2.2.2.2.2.2.2.2.2.2.2.2.1
  by_cases c : ¬ (0 ≤ x ∧ x ≤ 65535)
  · simp only [if_pos c, if_pos (show x < 0 ∨ 65535 < x by omega)]
    exact Act.no h (by omega) (by omega)
  · simp only [if_neg c, if_neg (show ¬ (x < 0 ∨ 65535 < x) by omega), if_true]
    have hI : Inv (up m 6 x) := by
      refine Inv_mk h (MS_6 h.1 (by omega)) ?_ (fun j hj => up_ne (by omega)) ?_ ?_ ?_ (fun i hi => ?_) (fun i hi => ?_)
      · rw [up_ne (by omega), up_ne (by omega)]
        exact h.2.1
      · rw [up_ne (by omega)]
        exact Int.le_refl _
      · rw [up_ne (by omega)]
        exact Int.le_refl _
      · rw [up_ne (by omega)]
        exact h.h45
      · rw [up_ne (by omega)]
        exact h.2.2.2.1 i hi
      · rw [up_ne (by omega), up_ne (by omega)]
        exact h.2.2.2.2.1 i hi
    refine Act.yes hI (by omega) (by omega) rfl EQ.refl (up_ne (by omega)).symm (fun i hi => ?_)
    rw [nwO_congr (a := up m 6 x) (b := m) (up_ne (by omega)) (up_ne (by omega)) (fun j hj => up_ne (by omega))]
theorem found_act {m pa : Nat → Int} {np x : Int} (h : Inv m) : ActP m pa np (if x < 1 ∨ 5 < x then (m) else (if m 1 ≠ 0 ∨ m 0 < x then (m) else (setOld m x (fun i => if i < x.toNat then (i : Int) else m (32 + i))))) (if x < 1 ∨ 5 < x then ((m 1)) else (if m 1 ≠ 0 ∨ m 0 < x then ((m 1)) else (x))) (if x < 1 ∨ 5 < x then ((nwO m)) else (if m 1 ≠ 0 ∨ m 0 < x then ((nwO m)) else (fun i => (setOld m x (fun i => if i < x.toNat then (i : Int) else m (32 + i))) (32 + i)))) (if x < 1 ∨ 5 < x then (-1) else (if m 1 ≠ 0 ∨ m 0 < x then (-2) else (x))) (if ¬ (1 ≤ x ∧ x ≤ 5) then (m) else (if 0 < m 1 ∨ m 0 < x then (m) else (blk (up m 1 x) 32 (fun i => (i : Int)) x.toNat))) (if ¬ (1 ≤ x ∧ x ≤ 5) then (pa) else (if 0 < m 1 ∨ m 0 < x then (pa) else (if (0 : Int) = 0 then actP m pa np else pa))) (if ¬ (1 ≤ x ∧ x ≤ 5) then (np) else (if 0 < m 1 ∨ m 0 < x then (np) else (if (0 : Int) = 0 then actN np + 1 else np))) (if ¬ (1 ≤ x ∧ x ≤ 5) then (-1) else (if 0 < m 1 ∨ m 0 < x then (-2) else (x))) := by
  have h0 := h.1.2.1
  have h12 := h.1.2.2.1
  have h1 := h.1.2.2.2.1
  have h15 := h.1.2.2.2.2.1
  have h6 := h.1.2.2.2.2.2.2.2.2.2.2.2.1
  have h66 := h.1.2.2.2.2.2.2.2.2.2.2.2.2.1
  by_cases c : ¬ (1 ≤ x ∧ x ≤ 5)
  · simp only [if_pos c, if_pos (show x < 1 ∨ 5 < x by omega)]
    exact Act.no h (by omega) (by omega)
  by_cases c2 : 0 < m 1 ∨ m 0 < x
  · simp only [if_neg c, if_neg (show ¬ (x < 1 ∨ 5 < x) by omega), if_pos c2, if_pos (show m 1 ≠ 0 ∨ m 0 < x by omega)]
    exact Act.no h (by omega) (by omega)
  simp only [if_neg c, if_neg (show ¬ (x < 1 ∨ 5 < x) by omega), if_neg c2, if_neg (show ¬ (m 1 ≠ 0 ∨ m 0 < x) by omega), if_true]
  have h5 := h.h1z (by omega)
  obtain ⟨W, hW⟩ : ∃ W, W = blk (up m 1 x) 32 (fun i => (i : Int)) x.toNat := ⟨_, rfl⟩
  have eS : setOld m x (fun i => if i < x.toNat then (i : Int) else m (32 + i)) = W := by
    subst hW
    funext j
    by_cases j1 : j = 1
    · subst j1
      rw [setOld_1, blk_out (by omega), up_at rfl]
    by_cases j2 : 32 ≤ j ∧ j < 37
    · obtain ⟨i, rfl⟩ : ∃ i, j = 32 + i := ⟨j - 32, by omega⟩
      rw [setOld_el (by omega)]
      show (if i < x.toNat then (i : Int) else m (32 + i)) = _
      by_cases q : i < x.toNat
      · rw [if_pos q, blk_in q]
      · rw [if_neg q, blk_out (by omega), up_ne (by omega)]
    · rw [setOld_ne ⟨j1, j2⟩, blk_out (by omega), up_ne j1]
  rw [eS, ← hW]
  have w1 : W 1 = x := by
    rw [hW, blk_out (by omega), up_at rfl]
  have e : ∀ j, j ≠ 1 → ¬ (32 ≤ j ∧ j < 37) → W j = m j := fun j a b => by
    rw [hW, blk_out (by omega), up_ne a]
  have hw : ∀ i, i < 5 → W (32 + i) = if i < x.toNat then (i : Int) else m (32 + i) := fun i hi => by
    rw [← eS, setOld_el hi]
  have hM : MS W := by
    refine MS_ex h.1 (fun k => ?_) (Or.inl (e 0 (by omega) (by omega))) (by omega) (Or.inl (e 3 (by omega) (by omega))) (Or.inl (e 4 (by omega) (by omega))) (by rw [e 6 (by omega) (by omega)]; omega) (Or.inl (e 7 (by omega) (by omega))) (fun i hi => ?_) (fun i hi => ?_)
    · by_cases k1 : k = 1
      · rw [k1]
        omega
      by_cases k2 : 32 ≤ k ∧ k < 37
      · obtain ⟨i, rfl⟩ : ∃ i, k = 32 + i := ⟨k - 32, by omega⟩
        rw [hw i (by omega)]
        split
        · omega
        · exact h.1.1 _
      · rw [e k k1 k2]
        exact h.1.1 k
    · rw [hw i hi]
      split
      · omega
      · exact h.1.2.2.2.2.2.2.2.2.2.2.2.2.2.1 i hi
    · rw [e (37 + i) (by omega) (by omega)]
      exact h.1.2.2.2.2.2.2.2.2.2.2.2.2.2.2 i hi
  have w5 : W 5 = -9 := by
    rw [e 5 (by omega) (by omega)]
    exact h5
  have hI : Inv W := by
    refine ⟨hM, ?_, ?_, fun i hi => ?_, fun i hi => ?_, fun i hi => ?_, fun i j hi hj he => ?_, Or.inl w5⟩
    · rw [e 2 (by omega) (by omega), e 4 (by omega) (by omega)]
      exact h.2.1
    · rw [e 7 (by omega) (by omega), e 3 (by omega) (by omega)]
      exact h.2.2.1
    · rw [e (8 + i) (by omega) (by omega)]
      exact h.2.2.2.1 i hi
    · rw [e (20 + i) (by omega) (by omega), e 3 (by omega) (by omega)]
      exact h.2.2.2.2.1 i hi
    · rw [w1] at hi
      rw [hw i (by omega), if_pos (by omega), e 0 (by omega) (by omega)]
      omega
    · rw [w1] at hi hj
      have he : W (32 + i) = W (32 + j) := he
      rw [hw i (by omega), hw j (by omega), if_pos (by omega), if_pos (by omega)] at he
      omega
  refine Act.yes hI (by omega) (by omega) rfl EQ.refl w1.symm (fun i hi => ?_)
  show W (32 + i) = nwO W i
  unfold nwO
  rw [if_pos hi, if_neg (fun q => q.1 w5)]
theorem att_ps {α : Type} {m : Nat → Int} {x y : Int} {p q : α} (h : Inv m) : (if ¬ (0 ≤ x ∧ x < m 0) ∨ ¬ (0 ≤ y ∧ y ≤ 1) then (p) else (if m (8 + x.toNat) = y then (p) else (if (0 : Int) = 0 then q else p))) = if maAtt m x y < 0 then p else q := by
  have h12 := h.1.2.2.1
  unfold maAtt
  by_cases c1 : ¬ (0 ≤ x ∧ x < m 0) ∨ ¬ (0 ≤ y ∧ y ≤ 1)
  · simp only [if_pos c1]
    rw [if_pos (by omega)]
  by_cases c2 : m (8 + x.toNat) = y
  · simp only [if_neg c1, if_pos c2]
    rw [if_pos (by omega)]
  · simp only [if_neg c1, if_neg c2]
    have hx : ∀ j, j < 12 → 0 ≤ up m (8 + x.toNat) y (8 + j) := fun j hj => by
      unfold up
      split
      · omega
      · have := h.2.2.2.1 j hj
        omega
    have hs : ∀ n : Nat, n ≤ 12 → 0 ≤ sm (fun i => up m (8 + x.toNat) y (8 + i)) n := fun n => by
      induction n with
      | zero => intro _; exact Int.le_refl _
      | succ n ih =>
        intro hn
        have := ih (by omega)
        have := hx n (by omega)
        show 0 ≤ sm (fun i => up m (8 + x.toNat) y (8 + i)) n + up m (8 + x.toNat) y (8 + n)
        omega
    have := hs (up m (8 + x.toNat) y 0).toNat (by rw [up_ne (by omega)]; omega)
    rw [if_true, if_neg (by omega)]
theorem lea_ps {α : Type} {m : Nat → Int} {x : Int} {p q : α} : (if ¬ (0 ≤ x ∧ x < m 0) then (p) else (if m (8 + x.toNat) ≠ 1 then (p) else (if (0 : Int) = 0 then q else p))) = if maLea m x < 0 then p else q := by
  unfold maLea
  by_cases c1 : ¬ (0 ≤ x ∧ x < m 0)
  · simp only [if_pos c1]
    rw [if_pos (by omega)]
  by_cases c2 : m (8 + x.toNat) ≠ 1
  · simp only [if_neg c1, if_pos c2]
    rw [if_pos (by omega)]
  · simp only [if_neg c1, if_neg c2]
    rw [if_true, if_neg (by omega)]
theorem pro_ps {α : Type} {m : Nat → Int} {x y : Int} {p q : α} (h : Inv m) : (if ¬ (0 ≤ x ∧ x < m 0) ∨ ¬ (0 ≤ y ∧ y ≤ 999) then (p) else (if ¬ ((seatL (fun i => m (32 + i)) (x) (m 1).toNat ≠ -9 ∨ seatL (fun i => m ((if m 5 ≠ -9 then (37 : Int) else 32).toNat + i)) (x) (m 1).toNat ≠ -9) ∧ m (8 + x.toNat) = 1 ∧ m (20 + x.toNat) = m 3) then (p) else (if m 3 = 60 then (p) else (if (0 : Int) = 0 then q else p)))) = if maPro m x y < 0 then p else q := by
  have h3 := h.1.2.2.2.2.2.1
  have h12 := h.1.2.2.1
  unfold maPro
  by_cases c1 : ¬ (0 ≤ x ∧ x < m 0) ∨ ¬ (0 ≤ y ∧ y ≤ 999)
  · simp only [if_pos c1]
    rw [if_pos (by omega)]
  by_cases c2 : ¬ ((seatL (fun i => m (32 + i)) (x) (m 1).toNat ≠ -9 ∨ seatL (fun i => m ((if m 5 ≠ -9 then (37 : Int) else 32).toNat + i)) (x) (m 1).toNat ≠ -9) ∧ m (8 + x.toNat) = 1 ∧ m (20 + x.toNat) = m 3)
  · simp only [if_neg c1, if_pos c2]
    rw [if_pos (by omega)]
  by_cases c3 : m 3 = 60
  · simp only [if_neg c1, if_neg c2, if_pos c3]
    rw [if_pos (by omega)]
  · simp only [if_neg c1, if_neg c2, if_neg c3]
    have c2' := Classical.not_not.mp c2
    have h360 := h.1.2.2.2.2.2.2.1
    have hW := Inv_wt (x := x) (y := y) h (by omega) (by omega) (by omega) c2'.2.2
    have g := mg_MS ((wtS m x y) 3 - (wtS m x y) 4).toNat hW.1 hW.2.1
    rw [if_true, if_neg (show ¬ (mgS ((wtS m x y) 3 - (wtS m x y) 4).toNat (wtS m x y) 4 - (wtS m x y) 4 < 0) by omega), if_neg (by omega)]
theorem sec_ps {α : Type} {m : Nat → Int} {x y : Int} {p q : α} (h : Inv m) : (if ¬ (0 ≤ x ∧ x < m 0) ∨ ¬ (0 ≤ y ∧ y < m 3) then (p) else (if ¬ ((seatL (fun i => m (32 + i)) (x) (m 1).toNat ≠ -9 ∨ seatL (fun i => m ((if m 5 ≠ -9 then (37 : Int) else 32).toNat + i)) (x) (m 1).toNat ≠ -9) ∧ m (8 + x.toNat) = 1) ∨ m (20 + x.toNat) ≠ y then (p) else (if (0 : Int) = 0 then q else p))) = if maSec m x y < 0 then p else q := by
  have h12 := h.1.2.2.1
  unfold maSec
  by_cases c1 : ¬ (0 ≤ x ∧ x < m 0) ∨ ¬ (0 ≤ y ∧ y < m 3)
  · simp only [if_pos c1]
    rw [if_pos (by omega)]
  by_cases c2 : ¬ ((seatL (fun i => m (32 + i)) (x) (m 1).toNat ≠ -9 ∨ seatL (fun i => m ((if m 5 ≠ -9 then (37 : Int) else 32).toNat + i)) (x) (m 1).toNat ≠ -9) ∧ m (8 + x.toNat) = 1) ∨ m (20 + x.toNat) ≠ y
  · simp only [if_neg c1, if_pos c2]
    rw [if_pos (by omega)]
  · simp only [if_neg c1, if_neg c2]
    have hcp := h.2.2.2.2.1 x.toNat (by omega)
    have hW := Inv_copy (i := x.toNat) (c := m (20 + x.toNat) + 1) h (by omega) (by omega)
    have g := mg_rg hW.1 hW.2.1 ((up m (20 + x.toNat) (m (20 + x.toNat) + 1)) 3 - (up m (20 + x.toNat) (m (20 + x.toNat) + 1)) 4).toNat
    rw [if_true, if_neg (by omega)]
theorem attend_act {m pa : Nat → Int} {np x y : Int} (h : Inv m) : ActP m pa np (if ¬ (0 ≤ x ∧ x < m 0) ∨ y < 0 ∨ 1 < y then (m) else (if m (8 + x.toNat) = y then (m) else (up m (8 + x.toNat) y))) ((m 1)) ((nwO m)) (if ¬ (0 ≤ x ∧ x < m 0) ∨ y < 0 ∨ 1 < y then (-1) else (if m (8 + x.toNat) = y then (-2) else (sm (fun i => (up m (8 + x.toNat) y) (8 + i)) ((up m (8 + x.toNat) y) 0).toNat))) (if ¬ (0 ≤ x ∧ x < m 0) ∨ ¬ (0 ≤ y ∧ y ≤ 1) then (m) else (if m (8 + x.toNat) = y then (m) else (up m (8 + x.toNat) y))) (if ¬ (0 ≤ x ∧ x < m 0) ∨ ¬ (0 ≤ y ∧ y ≤ 1) then (pa) else (if m (8 + x.toNat) = y then (pa) else (if (0 : Int) = 0 then actP m pa np else pa))) (if ¬ (0 ≤ x ∧ x < m 0) ∨ ¬ (0 ≤ y ∧ y ≤ 1) then (np) else (if m (8 + x.toNat) = y then (np) else (if (0 : Int) = 0 then actN np + 1 else np))) (if ¬ (0 ≤ x ∧ x < m 0) ∨ ¬ (0 ≤ y ∧ y ≤ 1) then (-1) else (if m (8 + x.toNat) = y then (-2) else (sm (fun i => (up m (8 + x.toNat) y) (8 + i)) ((up m (8 + x.toNat) y) 0).toNat))) := Act.of (att_eq h) (att_ps h) (att_ps h)
theorem learn_act {m pa : Nat → Int} {np x : Int} (h : Inv m) : ActP m pa np (if ¬ (0 ≤ x ∧ x < m 0) then (m) else (if m (8 + x.toNat) = 0 then (m) else (up m (20 + x.toNat) (m (20 + x.toNat) + max 0 (m 4 - m (20 + x.toNat)))))) ((m 1)) ((nwO m)) (if ¬ (0 ≤ x ∧ x < m 0) then (-1) else (if m (8 + x.toNat) = 0 then (-2) else (max 0 (m 4 - m (20 + x.toNat))))) (if ¬ (0 ≤ x ∧ x < m 0) then (m) else (if m (8 + x.toNat) ≠ 1 then (m) else (up m (20 + x.toNat) (m (20 + x.toNat) + max 0 (m 4 - m (20 + x.toNat)))))) (if ¬ (0 ≤ x ∧ x < m 0) then (pa) else (if m (8 + x.toNat) ≠ 1 then (pa) else (if (0 : Int) = 0 then actP m pa np else pa))) (if ¬ (0 ≤ x ∧ x < m 0) then (np) else (if m (8 + x.toNat) ≠ 1 then (np) else (if (0 : Int) = 0 then actN np + 1 else np))) (if ¬ (0 ≤ x ∧ x < m 0) then (-1) else (if m (8 + x.toNat) ≠ 1 then (-2) else (max 0 (m 4 - m (20 + x.toNat))))) := Act.of (lea_eq h) lea_ps lea_ps
theorem propose_act {m pa : Nat → Int} {np x y : Int} (h : Inv m) : ActP m pa np (if ¬ (0 ≤ x ∧ x < m 0) ∨ y < 0 ∨ 999 < y then (m) else (if ¬ (((seatF (fun i => m (32 + i)) (x) (m 1).toNat ≠ -9) ∨ (seatF (nwO m) (x) (m 1).toNat ≠ -9)) ∧ ((0 ≤ (x) ∧ (x) < m 0) ∧ m (8 + (x).toNat) = 1)) ∨ m (20 + x.toNat) < m 3 then (m) else (if 60 ≤ m 3 then (m) else (agS (m 1) (nwO m) ((addS m x y) 3 - (addS m x y) 4).toNat (addS m x y))))) ((m 1)) ((nwO m)) (if ¬ (0 ≤ x ∧ x < m 0) ∨ y < 0 ∨ 999 < y then (-1) else (if ¬ (((seatF (fun i => m (32 + i)) (x) (m 1).toNat ≠ -9) ∨ (seatF (nwO m) (x) (m 1).toNat ≠ -9)) ∧ ((0 ≤ (x) ∧ (x) < m 0) ∧ m (8 + (x).toNat) = 1)) ∨ m (20 + x.toNat) < m 3 then (-2) else (if 60 ≤ m 3 then (-3) else ((agS (m 1) (nwO m) ((addS m x y) 3 - (addS m x y) 4).toNat (addS m x y)) 3 - 1)))) (if ¬ (0 ≤ x ∧ x < m 0) ∨ ¬ (0 ≤ y ∧ y ≤ 999) then (m) else (if ¬ ((seatL (fun i => m (32 + i)) (x) (m 1).toNat ≠ -9 ∨ seatL (fun i => m ((if m 5 ≠ -9 then (37 : Int) else 32).toNat + i)) (x) (m 1).toNat ≠ -9) ∧ m (8 + x.toNat) = 1 ∧ m (20 + x.toNat) = m 3) then (m) else (if m 3 = 60 then (m) else (mgS ((wtS m x y) 3 - (wtS m x y) 4).toNat (wtS m x y))))) (if ¬ (0 ≤ x ∧ x < m 0) ∨ ¬ (0 ≤ y ∧ y ≤ 999) then (pa) else (if ¬ ((seatL (fun i => m (32 + i)) (x) (m 1).toNat ≠ -9 ∨ seatL (fun i => m ((if m 5 ≠ -9 then (37 : Int) else 32).toNat + i)) (x) (m 1).toNat ≠ -9) ∧ m (8 + x.toNat) = 1 ∧ m (20 + x.toNat) = m 3) then (pa) else (if m 3 = 60 then (pa) else (if (0 : Int) = 0 then actP m pa np else pa)))) (if ¬ (0 ≤ x ∧ x < m 0) ∨ ¬ (0 ≤ y ∧ y ≤ 999) then (np) else (if ¬ ((seatL (fun i => m (32 + i)) (x) (m 1).toNat ≠ -9 ∨ seatL (fun i => m ((if m 5 ≠ -9 then (37 : Int) else 32).toNat + i)) (x) (m 1).toNat ≠ -9) ∧ m (8 + x.toNat) = 1 ∧ m (20 + x.toNat) = m 3) then (np) else (if m 3 = 60 then (np) else (if (0 : Int) = 0 then actN np + 1 else np)))) (if ¬ (0 ≤ x ∧ x < m 0) ∨ ¬ (0 ≤ y ∧ y ≤ 999) then (-1) else (if ¬ ((seatL (fun i => m (32 + i)) (x) (m 1).toNat ≠ -9 ∨ seatL (fun i => m ((if m 5 ≠ -9 then (37 : Int) else 32).toNat + i)) (x) (m 1).toNat ≠ -9) ∧ m (8 + x.toNat) = 1 ∧ m (20 + x.toNat) = m 3) then (-2) else (if m 3 = 60 then (-3) else (if (mgS ((wtS m x y) 3 - (wtS m x y) 4).toNat (wtS m x y)) 4 - (wtS m x y) 4 < 0 then (-9) else (m 3))))) := Act.of (pro_eq h) (pro_ps h) (pro_ps h)
theorem second_act {m pa : Nat → Int} {np x y : Int} (h : Inv m) : ActP m pa np (if ¬ (0 ≤ x ∧ x < m 0) ∨ ¬ (0 ≤ y ∧ y < m 3) then (m) else (if ¬ (((seatF (fun i => m (32 + i)) (x) (m 1).toNat ≠ -9) ∨ (seatF (nwO m) (x) (m 1).toNat ≠ -9)) ∧ ((0 ≤ (x) ∧ (x) < m 0) ∧ m (8 + (x).toNat) = 1)) ∨ m (20 + x.toNat) ≠ y then (m) else (agS (m 1) (nwO m) ((up m (20 + x.toNat) (m (20 + x.toNat) + 1)) 3 - (up m (20 + x.toNat) (m (20 + x.toNat) + 1)) 4).toNat (up m (20 + x.toNat) (m (20 + x.toNat) + 1))))) ((m 1)) ((nwO m)) (if ¬ (0 ≤ x ∧ x < m 0) ∨ ¬ (0 ≤ y ∧ y < m 3) then (-1) else (if ¬ (((seatF (fun i => m (32 + i)) (x) (m 1).toNat ≠ -9) ∨ (seatF (nwO m) (x) (m 1).toNat ≠ -9)) ∧ ((0 ≤ (x) ∧ (x) < m 0) ∧ m (8 + (x).toNat) = 1)) ∨ m (20 + x.toNat) ≠ y then (-2) else ((agS (m 1) (nwO m) ((up m (20 + x.toNat) (m (20 + x.toNat) + 1)) 3 - (up m (20 + x.toNat) (m (20 + x.toNat) + 1)) 4).toNat (up m (20 + x.toNat) (m (20 + x.toNat) + 1))) 4 - (up m (20 + x.toNat) (m (20 + x.toNat) + 1)) 4))) (if ¬ (0 ≤ x ∧ x < m 0) ∨ ¬ (0 ≤ y ∧ y < m 3) then (m) else (if ¬ ((seatL (fun i => m (32 + i)) (x) (m 1).toNat ≠ -9 ∨ seatL (fun i => m ((if m 5 ≠ -9 then (37 : Int) else 32).toNat + i)) (x) (m 1).toNat ≠ -9) ∧ m (8 + x.toNat) = 1) ∨ m (20 + x.toNat) ≠ y then (m) else (mgS ((up m (20 + x.toNat) (m (20 + x.toNat) + 1)) 3 - (up m (20 + x.toNat) (m (20 + x.toNat) + 1)) 4).toNat (up m (20 + x.toNat) (m (20 + x.toNat) + 1))))) (if ¬ (0 ≤ x ∧ x < m 0) ∨ ¬ (0 ≤ y ∧ y < m 3) then (pa) else (if ¬ ((seatL (fun i => m (32 + i)) (x) (m 1).toNat ≠ -9 ∨ seatL (fun i => m ((if m 5 ≠ -9 then (37 : Int) else 32).toNat + i)) (x) (m 1).toNat ≠ -9) ∧ m (8 + x.toNat) = 1) ∨ m (20 + x.toNat) ≠ y then (pa) else (if (0 : Int) = 0 then actP m pa np else pa))) (if ¬ (0 ≤ x ∧ x < m 0) ∨ ¬ (0 ≤ y ∧ y < m 3) then (np) else (if ¬ ((seatL (fun i => m (32 + i)) (x) (m 1).toNat ≠ -9 ∨ seatL (fun i => m ((if m 5 ≠ -9 then (37 : Int) else 32).toNat + i)) (x) (m 1).toNat ≠ -9) ∧ m (8 + x.toNat) = 1) ∨ m (20 + x.toNat) ≠ y then (np) else (if (0 : Int) = 0 then actN np + 1 else np))) (if ¬ (0 ≤ x ∧ x < m 0) ∨ ¬ (0 ≤ y ∧ y < m 3) then (-1) else (if ¬ ((seatL (fun i => m (32 + i)) (x) (m 1).toNat ≠ -9 ∨ seatL (fun i => m ((if m 5 ≠ -9 then (37 : Int) else 32).toNat + i)) (x) (m 1).toNat ≠ -9) ∧ m (8 + x.toNat) = 1) ∨ m (20 + x.toNat) ≠ y then (-2) else ((mgS ((up m (20 + x.toNat) (m (20 + x.toNat) + 1)) 3 - (up m (20 + x.toNat) (m (20 + x.toNat) + 1)) 4).toNat (up m (20 + x.toNat) (m (20 + x.toNat) + 1))) 4 - (up m (20 + x.toNat) (m (20 + x.toNat) + 1)) 4))) := Act.of (sec_eq h) (sec_ps h) (sec_ps h)
