theorem agStep_4 {s nw : Nat → Int} {nz : Int} : endIf nz nw s 4 = s 4 ∧ endIf nz nw s 3 = s 3 := by
  unfold endIf
  by_cases h : s 4 = s 5
  · rw [if_pos h]
    exact ⟨endS_ne (by omega), endS_ne (by omega)⟩
  · rw [if_neg h]
    exact ⟨rfl, rfl⟩
theorem ag_VI {nz : Int} {nw : Nat → Int} : ∀ (n : Nat) {s : Nat → Int}, VI s nz nw → s 2 ≤ s 4 → VI (agS nz nw n s) nz nw ∧ agS nz nw n s 2 ≤ agS nz nw n s 4 ∧ s 4 ≤ agS nz nw n s 4 ∧ agS nz nw n s 3 = s 3
  | 0, s, hV, h2 => ⟨hV, h2, Int.le_refl _, rfl⟩
  | n + 1, s, hV, h2 => by
    simp only [agS]
    by_cases hc : s 4 < s 3 ∧ (nz / 2 + 1 ≤ sm (fun i => b2i (((0 ≤ (nw i) ∧ (nw i) < s 0) ∧ (s 4) < s (20 + (nw i).toNat)) ∨ (((0) : Int) ≠ 0 ∧ ((0 ≤ (nw i) ∧ (nw i) < s 0) ∧ s (8 + (nw i).toNat) = 1)))) nz.toNat ∧ (¬ (s 5 ≠ -9 ∧ (s 4) ≤ s 5) ∨ s 1 / 2 + 1 ≤ sm (fun i => b2i (((0 ≤ (s (32 + i)) ∧ (s (32 + i)) < s 0) ∧ (s 4) < s (20 + (s (32 + i)).toNat)) ∨ (((0) : Int) ≠ 0 ∧ ((0 ≤ (s (32 + i)) ∧ (s (32 + i)) < s 0) ∧ s (8 + (s (32 + i)).toNat) = 1)))) (s 1).toNat))
    · rw [if_pos hc]
      have h : VI (up (endIf nz nw s) 4 (endIf nz nw s 4 + 1)) nz nw ∧ up (endIf nz nw s) 4 (endIf nz nw s 4 + 1) 2 ≤ up (endIf nz nw s) 4 (endIf nz nw s 4 + 1) 4 := by
        by_cases he : s 4 = s 5
        · have q := (ag_inv1 (X := agS nz nw (s 3 - s 4).toNat s) hV h2 rfl hc.1 hc.2 he rfl rfl).1
          rw [show endIf nz nw s = endS nz nw s from if_pos he]
          exact ⟨q.1, q.2.1⟩
        · have q := (ag_inv2 (X := agS nz nw (s 3 - s 4).toNat s) hV h2 rfl hc.1 hc.2 he rfl).1
          rw [show endIf nz nw s = s from if_neg he]
          exact ⟨q.1, q.2.1⟩
      have r := ag_VI n h.1 h.2
      have e := agStep_4 (s := s) (nw := nw) (nz := nz)
      have e4 : up (endIf nz nw s) 4 (endIf nz nw s 4 + 1) 4 = s 4 + 1 := by rw [up_at rfl, e.1]
      have e3 : up (endIf nz nw s) 4 (endIf nz nw s 4 + 1) 3 = s 3 := by rw [up_ne (by omega)]; exact e.2
      exact ⟨r.1, r.2.1, by omega, by omega⟩
    · rw [if_neg hc]
      exact ⟨hV, h2, Int.le_refl _, rfl⟩
/-- a row that stays in its bounds -/
def OKr (nz : Int) (nw t : Nat → Int) : Prop := VI t nz nw ∧ t 2 ≤ t 4
theorem OK_ite {nz : Int} {nw a b : Nat → Int} {P : Prop} [Decidable P] (ha : P → OKr nz nw a) (hb : ¬ P → OKr nz nw b) : OKr nz nw (if P then a else b) := by
  by_cases h : P
  · rw [if_pos h]
    exact ha h
  · rw [if_neg h]
    exact hb h
theorem OK_up {nz : Int} {nw s : Nat → Int} {k : Nat} {x : Int} (h : OKr nz nw s) (hk : k ≠ 0 ∧ k ≠ 1 ∧ k ≠ 2 ∧ k ≠ 3 ∧ k ≠ 4 ∧ k ≠ 6 ∧ k ≠ 7) (hx : bd x) : OKr nz nw (up s k x) := ⟨VI_up h.1 (by omega) hx, by rw [up_ne (by omega), up_ne (by omega)]; exact h.2⟩
theorem OK_ag {nz : Int} {nw s : Nat → Int} {n : Nat} (h : OKr nz nw s) : OKr nz nw (agS nz nw n s) := ⟨(ag_VI n h.1 h.2).1, (ag_VI n h.1 h.2).2.1⟩
theorem OK_add {nz : Int} {nw s : Nat → Int} {x y : Int} (h : OKr nz nw s) (h3 : s 3 < 60) (hx : bd x) (hy : bd y) : OKr nz nw (addS s x y) := ⟨VI_add h.1 h3 hx hy, by rw [addS_ne (by omega), addS_ne (by omega)]; exact h.2⟩
theorem OK_att {nz : Int} {nw s : Nat → Int} {x y : Int} (h : OKr nz nw s) : OKr nz nw (sAtt s nz nw x y) := by
  unfold sAtt
  exact OK_ite (fun _ => h) (fun q => OK_ite (fun _ => h) (fun _ => OK_up h (by omega) (by omega)))
theorem OK_pro {nz : Int} {nw s : Nat → Int} {x y : Int} (h : OKr nz nw s) : OKr nz nw (sPro s nz nw x y) := by
  have h0 := h.1.2.2
  unfold sPro
  exact OK_ite (fun _ => h) (fun q => OK_ite (fun _ => h) (fun _ => OK_ite (fun _ => h) (fun _ => OK_ag (OK_add h (by omega) (by omega) (by omega)))))
theorem OK_sec {nz : Int} {nw s : Nat → Int} {x y : Int} (h : OKr nz nw s) : OKr nz nw (sSec s nz nw x y) := by
  have h0 := h.1.2.2
  unfold sSec
  exact OK_ite (fun _ => h) (fun q => OK_ite (fun _ => h) (fun q2 => OK_ag (OK_up h (by omega) (by omega))))
theorem OK_lea {nz : Int} {nw s : Nat → Int} {x : Int} (h : OKr nz nw s) : OKr nz nw (sLea s nz nw x) := by
  have h0 := h.1.2.2
  have b := h.1.1 (20 + x.toNat)
  unfold sLea
  exact OK_ite (fun _ => h) (fun q => OK_ite (fun _ => h) (fun q2 => OK_up h (by omega) (by omega)))
theorem OK_cmd {nz : Int} {nw s : Nat → Int} {x y q : Int} (h : OKr nz nw s) : OKr nz nw (cmdS s nz nw x y q) := by
  unfold cmdS
  exact OK_ite (fun _ => OK_att h) (fun _ => OK_ite (fun _ => OK_att h) (fun _ => OK_ite (fun _ => OK_lea h) (fun _ => OK_ite (fun _ => OK_pro h) (fun _ => OK_ite (fun _ => OK_sec h) (fun _ => h)))))
theorem bd_ite {P : Prop} [Decidable P] {a b : Int} (ha : P → bd a) (hb : ¬ P → bd b) : bd (if P then a else b) := by
  by_cases h : P
  · rw [if_pos h]
    exact ha h
  · rw [if_neg h]
    exact hb h
theorem sm_bd {f : Nat → Int} (h : ∀ k, bd (f k)) : ∀ n : Nat, -100000 * (n : Int) ≤ sm f n ∧ sm f n ≤ 100000 * (n : Int)
  | 0 => by simp [sm]
  | n + 1 => by
    have := sm_bd h n
    have := h n
    simp only [sm]
    omega
theorem rg_cmd {nz : Int} {nw s : Nat → Int} {x y q : Int} (h : OKr nz nw s) : rg (cmdA s nz nw x y q) := by
  have h0 := h.1.2.2
  have hat : ∀ z, bd z → rg (aAtt s nz nw y z) := fun z hz => by
    unfold aAtt
    by_cases q1 : ¬ (0 ≤ y ∧ y < s 0) ∨ z < 0 ∨ 1 < z
    · rw [if_pos q1]
      decide
    · rw [if_neg q1]
      by_cases q2 : s (8 + y.toNat) = z
      · rw [if_pos q2]
        decide
      · rw [if_neg q2]
        have hb := sm_bd (f := fun i => up s (8 + y.toNat) z (8 + i)) (fun k => bd_up h.1.1 hz _) (up s (8 + y.toNat) z 0).toNat
        rw [show up s (8 + y.toNat) z 0 = s 0 from up_ne (by omega)] at hb ⊢
        omega
  have hle : rg (aLea s nz nw y) := by
    unfold aLea
    have b := h.1.1 (20 + y.toNat)
    by_cases q1 : ¬ (0 ≤ y ∧ y < s 0)
    · rw [if_pos q1]
      decide
    · rw [if_neg q1]
      by_cases q2 : s (8 + y.toNat) = 0
      · rw [if_pos q2]
        decide
      · rw [if_neg q2]
        omega
  have hpr : bd (aPro s nz nw y q) := by
    unfold aPro
    refine bd_ite (fun _ => by omega) (fun q1 => bd_ite (fun _ => by omega) (fun _ => bd_ite (fun _ => by omega) (fun q3 => ?_)))
    have k := ag_VI (nz := nz) (nw := nw) (addS s y q 3 - addS s y q 4).toNat (OK_add h (x := y) (y := q) (by omega) (by omega) (by omega)).1 (OK_add h (x := y) (y := q) (by omega) (by omega) (by omega)).2
    have k3 := k.1.2.2
    omega
  have hse : bd (aSec s nz nw y q) := by
    unfold aSec
    refine bd_ite (fun _ => by omega) (fun q1 => bd_ite (fun _ => by omega) (fun q2 => ?_))
    have ho : OKr nz nw (up s (20 + y.toNat) (s (20 + y.toNat) + 1)) := OK_up h (by omega) (by omega)
    have k := ag_VI (nz := nz) (nw := nw) (up s (20 + y.toNat) (s (20 + y.toNat) + 1) 3 - up s (20 + y.toNat) (s (20 + y.toNat) + 1) 4).toNat ho.1 ho.2
    have k3 := k.1.2.2
    have k4 := ho.1.2.2
    omega
  have a1 := hat 1 (by omega)
  have a0 := hat 0 (by omega)
  unfold cmdA
  by_cases q1 : x = 98
  · rw [if_pos q1]; exact a1
  rw [if_neg q1]
  by_cases q2 : x = 103
  · rw [if_pos q2]; exact a0
  rw [if_neg q2]
  by_cases q3 : x = 108
  · rw [if_pos q3]; omega
  rw [if_neg q3]
  by_cases q4 : x = 112
  · rw [if_pos q4]; omega
  rw [if_neg q4]
  by_cases q5 : x = 115
  · rw [if_pos q5]; omega
  rw [if_neg q5]
  decide
