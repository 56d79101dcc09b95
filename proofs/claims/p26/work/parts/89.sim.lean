/-! the relation of the two sides: worlds, history, text -/
theorem vilw_eq {cI : ClassId} {a : Nat → Nat} {s m nw : Nat → Int} {nz : Int} (h : ∀ j, j < 522 → ¬ (37 ≤ j ∧ j < 42) → s j = m j) (hz : nz = m 1) (hn : ∀ i, i < 5 → nw i = nwO m i) : vilw cI a s nz nw = vilw cI a m (m 1) (nwO m) := by
  have e1 : arI cI 12 (fun i => s (8 + i)) = arI cI 12 (fun i => m (8 + i)) := arI_congr (fun i hi => h _ (by omega) (by omega))
  have e2 : arI cI 12 (fun i => s (20 + i)) = arI cI 12 (fun i => m (20 + i)) := arI_congr (fun i hi => h _ (by omega) (by omega))
  have e3 : arI cI 60 (fun i => s (42 + 3 * i)) = arI cI 60 (fun i => m (42 + 3 * i)) := arI_congr (fun i hi => h _ (by omega) (by omega))
  have e4 : arI cI 60 (fun i => s (43 + 3 * i)) = arI cI 60 (fun i => m (43 + 3 * i)) := arI_congr (fun i hi => h _ (by omega) (by omega))
  have e5 : arI cI 60 (fun i => s (44 + 3 * i)) = arI cI 60 (fun i => m (44 + 3 * i)) := arI_congr (fun i hi => h _ (by omega) (by omega))
  have e6 : arI cI 5 (fun i => s (32 + i)) = arI cI 5 (fun i => m (32 + i)) := arI_congr (fun i hi => h _ (by omega) (by omega))
  have e7 : arI cI 5 nw = arI cI 5 (nwO m) := arI_congr hn
  have l1 : arI cI 60 (fun i => s (222 + 5 * i)) = arI cI 60 (fun i => m (222 + 5 * i)) := arI_congr (fun i hi => h _ (by omega) (by omega))
  have l2 : arI cI 60 (fun i => s (223 + 5 * i)) = arI cI 60 (fun i => m (223 + 5 * i)) := arI_congr (fun i hi => h _ (by omega) (by omega))
  have l3 : arI cI 60 (fun i => s (225 + 5 * i)) = arI cI 60 (fun i => m (225 + 5 * i)) := arI_congr (fun i hi => h _ (by omega) (by omega))
  have l4 : arI cI 60 (fun i => s (224 + 5 * i)) = arI cI 60 (fun i => m (224 + 5 * i)) := arI_congr (fun i hi => h _ (by omega) (by omega))
  have l5 : arI cI 60 (fun i => s (226 + 5 * i)) = arI cI 60 (fun i => m (226 + 5 * i)) := arI_congr (fun i hi => h _ (by omega) (by omega))
  unfold vilw vilo couw lotw
  rw [e1, e2, e3, e4, e5, e6, e7, l1, l2, l3, l4, l5, h 0 (by omega) (by omega), h 1 (by omega) (by omega), h 2 (by omega) (by omega), h 3 (by omega) (by omega), h 4 (by omega) (by omega), h 5 (by omega) (by omega), h 6 (by omega) (by omega), h 7 (by omega) (by omega), hz]
theorem logw_eq {cI cV : ClassId} {g a : Nat → Nat} {ra : Nat → Nat → Nat} {s m nw : Nat → Int} {nz : Int} {rS rN : Nat → Nat → Int} {rZ : Nat → Int} {fr hn : Int} {t : Nat → Int} {n pl le vr nr : Int} (h : ∀ j, j < 522 → ¬ (37 ≤ j ∧ j < 42) → s j = m j) (hz : nz = m 1) (hw : ∀ i, i < 5 → nw i = nwO m i) : logw cI cV g a ra s nz nw rS rZ rN fr hn t n pl le vr nr = logw cI cV g a ra m (m 1) (nwO m) rS rZ rN fr hn t n pl le vr nr := by
  unfold logw hvw
  rw [vilw_eq h hz hw]
/-- the reference's state of k actions after the oldest that it keeps -/
def past (pa : Nat → Int) (k : Nat) : Nat → Int := fun j => if j < 522 then pa (522 * k + j) else 0
/-- the class's row for it -/
def rowi (fr np : Int) (k : Nat) : Nat := ((fr - np + k + 6) % 6).toNat
def RowP (m s : Nat → Int) (z : Int) (nw : Nat → Int) : Prop := (∀ j, j < 522 → ¬ (37 ≤ j ∧ j < 42) → s j = m j) ∧ z = m 1 ∧ ∀ i, i < 5 → nw i = nwO m i
def HI (pa : Nat → Int) (np fr : Int) (rS : Nat → Nat → Int) (rZ : Nat → Int) (rN : Nat → Nat → Int) : Prop := (0 ≤ np ∧ np ≤ 5) ∧ (0 ≤ fr ∧ fr < 6) ∧ ∀ k : Nat, (k : Int) < np → Inv (past pa k) ∧ RowP (past pa k) (rS (rowi fr np k)) (rZ (rowi fr np k)) (rN (rowi fr np k))
theorem nwO_cut {m m' : Nat → Int} (e : ∀ j, j < 522 → m' j = m j) : nwO m' = nwO m := nwO_congr (e 5 (by omega)) (e 1 (by omega)) (fun j hj => e j (by omega))
/-- at the start -/
theorem Inv_S0 : Inv S0 := by
  have e : ∀ j, j ≠ 5 → j ≠ 6 → S0 j = 0 := fun j a b => by
    unfold S0
    rw [up_ne b, up_ne a]
  have e5 : S0 5 = -9 := by
    unfold S0
    rw [up_ne (by omega), up_at rfl]
  have e6 : S0 6 = 1 := by
    unfold S0
    rw [up_at rfl]
  have hb : ∀ k, bd (S0 k) := fun k => by
    by_cases k5 : k = 5
    · rw [k5, e5]
      omega
    by_cases k6 : k = 6
    · rw [k6, e6]
      omega
    rw [e k k5 k6]
    omega
  have e0 := e 0 (by omega) (by omega)
  have e1 := e 1 (by omega) (by omega)
  have e2 := e 2 (by omega) (by omega)
  have e3 := e 3 (by omega) (by omega)
  have e4 := e 4 (by omega) (by omega)
  have e7 := e 7 (by omega) (by omega)
  refine ⟨⟨hb, by omega, by omega, by omega, by omega, by omega, by omega, by omega, by omega, by omega, by omega, by omega, by omega, fun i hi => ?_, fun i hi => ?_⟩, by omega, by omega, fun i hi => Or.inl (e (8 + i) (by omega) (by omega)), fun i hi => ?_, fun i hi => ?_, fun i j hi hj he => ?_, Or.inl e5⟩
  · rw [e (32 + i) (by omega) (by omega)]
    omega
  · rw [e (37 + i) (by omega) (by omega)]
    omega
  · rw [e (20 + i) (by omega) (by omega), e3]
    omega
  · omega
  · omega
