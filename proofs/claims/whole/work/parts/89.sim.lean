/-! the relation of the two sides: worlds, history, text -/
theorem vilw_eq {cI : ClassId} {a : Nat → Nat} {s m nw : Nat → Int} {nz : Int} (h : ∀ j, j < 522 → ¬ (37 ≤ j ∧ j < 42) → s j = m j) (hz : nz = m 1) (hn : ∀ i, i < 5 → nw i = nwO m i) : vilw cI a s nz nw = vilw cI a m (m 1) (nwO m) := by
  have e1 : arI cI 12 (fun i => s (8 + i)) = arI cI 12 (fun i => m (8 + i)) := arI_congr (fun i hi => h _ (by omega) (by omega))
  have e2 : arI cI 12 (fun i => s (20 + i)) = arI cI 12 (fun i => m (20 + i)) := arI_congr (fun i hi => h _ (by omega) (by omega))
  have e3 : arI cI 60 (fun i => s (42 + 3 * i)) = arI cI 60 (fun i => m (42 + 3 * i)) := arI_congr (fun i hi => h _ (by omega) (by omega))
  have e4 : arI cI 60 (fun i => s (43 + 3 * i)) = arI cI 60 (fun i => m (43 + 3 * i)) := arI_congr (fun i hi => h _ (by omega) (by omega))
  have e5 : arI cI 60 (fun i => s (44 + 3 * i)) = arI cI 60 (fun i => m (44 + 3 * i)) := arI_congr (fun i hi => h _ (by omega) (by omega))
  have e6 : arI cI 5 (fun i => s (32 + i)) = arI cI 5 (fun i => m (32 + i)) := arI_congr (fun i hi => h _ (by omega) (by omega))
  have e7 : arI cI 5 nw = arI cI 5 (nwO m) := arI_congr hn
  have l1 : arI cI 60 (fun i => s (222 + 5 * i)) = arI cI 60 (fun i => m (222 + 5 * i)) := arI_congr (fun i hi => h _ (by omega) (by omega))
  have l2 : arI cI 60 (fun i => s (223 + 5 * i)) = arI cI 60 (fun i => m (223 + 5 * i)) := arI_congr (fun i hi => h _ (by omega) (by omega))
  have l3 : arI cI 60 (fun i => s (225 + 5 * i)) = arI cI 60 (fun i => m (225 + 5 * i)) := arI_congr (fun i hi => h _ (by omega) (by omega))
  have l4 : arI cI 60 (fun i => s (224 + 5 * i)) = arI cI 60 (fun i => m (224 + 5 * i)) := arI_congr (fun i hi => h _ (by omega) (by omega))
  have l5 : arI cI 60 (fun i => s (226 + 5 * i)) = arI cI 60 (fun i => m (226 + 5 * i)) := arI_congr (fun i hi => h _ (by omega) (by omega))
  unfold vilw vilo couw lotw
  rw [e1, e2, e3, e4, e5, e6, e7, l1, l2, l3, l4, l5, h 0 (by omega) (by omega), h 1 (by omega) (by omega), h 2 (by omega) (by omega), h 3 (by omega) (by omega), h 4 (by omega) (by omega), h 5 (by omega) (by omega), h 6 (by omega) (by omega), h 7 (by omega) (by omega), hz]
theorem logw_eq {cI cV : ClassId} {g a : Nat → Nat} {ra : Nat → Nat → Nat} {s m nw : Nat → Int} {nz : Int} {rS rN : Nat → Nat → Int} {rZ : Nat → Int} {fr hn : Int} {t : Nat → Int} {n pl le vr nr : Int} (h : ∀ j, j < 522 → ¬ (37 ≤ j ∧ j < 42) → s j = m j) (hz : nz = m 1) (hw : ∀ i, i < 5 → nw i = nwO m i) : logw cI cV g a ra s nz nw rS rZ rN fr hn t n pl le vr nr = logw cI cV g a ra m (m 1) (nwO m) rS rZ rN fr hn t n pl le vr nr := by
  unfold logw hvw
  rw [vilw_eq h hz hw]
/-- the reference's state of k actions after the oldest that it keeps -/
def past (pa : Nat → Int) (k : Nat) : Nat → Int := fun j => if j < 522 then pa (522 * k + j) else 0
/-- the class's row for it -/
def rowi (fr np : Int) (k : Nat) : Nat := ((fr - np + k + 6) % 6).toNat
def RowP (m s : Nat → Int) (z : Int) (nw : Nat → Int) : Prop := (∀ j, j < 522 → ¬ (37 ≤ j ∧ j < 42) → s j = m j) ∧ z = m 1 ∧ ∀ i, i < 5 → nw i = nwO m i
def HI (pa : Nat → Int) (np fr : Int) (rS : Nat → Nat → Int) (rZ : Nat → Int) (rN : Nat → Nat → Int) : Prop := (0 ≤ np ∧ np ≤ 5) ∧ (0 ≤ fr ∧ fr < 6) ∧ ∀ k : Nat, (k : Int) < np → Inv (past pa k) ∧ RowP (past pa k) (rS (rowi fr np k)) (rZ (rowi fr np k)) (rN (rowi fr np k))
theorem Inv_cut {m m' : Nat → Int} (h : Inv m) (e : ∀ j, j < 522 → m' j = m j) (hb : ∀ k, bd (m' k)) : Inv m' := by
  have h1 := h.1.2.2.2.1
  have h15 := h.1.2.2.2.2.1
  have h6 := h.1.2.2.2.2.2.2.2.2.2.2.2.1
  have h66 := h.1.2.2.2.2.2.2.2.2.2.2.2.2.1
  have h760 := h.1.2.2.2.2.2.2.2.2.2.2.1
  have e0 := e 0 (by omega)
  have e1 := e 1 (by omega)
  have e2 := e 2 (by omega)
  have e3 := e 3 (by omega)
  have e4 := e 4 (by omega)
  have e5 := e 5 (by omega)
  have e6 := e 6 (by omega)
  have e7 := e 7 (by omega)
  refine ⟨MS_ex h.1 hb (Or.inl e0) (by omega) (Or.inl e3) (Or.inl e4) (by omega) (Or.inl e7) (fun i hi => ?_) (fun i hi => ?_), ?_, ?_, fun i hi => ?_, fun i hi => ?_, fun i hi => ?_, fun i j hi hj he => ?_, ?_⟩
  · rw [e (32 + i) (by omega)]
    exact h.1.2.2.2.2.2.2.2.2.2.2.2.2.2.1 i hi
  · rw [e (37 + i) (by omega)]
    exact h.1.2.2.2.2.2.2.2.2.2.2.2.2.2.2 i hi
  · rw [e2, e4]
    exact h.2.1
  · rw [e7, e3]
    exact h.2.2.1
  · rw [e (8 + i) (by omega)]
    exact h.2.2.2.1 i hi
  · rw [e (20 + i) (by omega), e3]
    exact h.2.2.2.2.1 i hi
  · rw [e1] at hi
    rw [e (32 + i) (by omega), e0]
    exact h.2.2.2.2.2.1 i hi
  · rw [e1] at hi hj
    have he : m' (32 + i) = m' (32 + j) := he
    rw [e (32 + i) (by omega), e (32 + j) (by omega)] at he
    exact h.2.2.2.2.2.2.1 i j hi hj he
  · rcases h.2.2.2.2.2.2.2 with q | ⟨k1, k2, k3, y, y1, y2, y3, y4, y5, y6⟩
    · exact Or.inl (e5.trans q)
    · refine Or.inr ⟨by omega, by omega, by omega, y, ?_, by omega, ?_, fun i hi hy => ?_, ?_, fun i hi => ?_⟩
      · rw [e7, e (226 + 5 * ((m 7).toNat - 1)) (by omega)]
        exact y1
      · rw [e7, e (224 + 5 * ((m 7).toNat - 1)) (by omega), e (37 + y) (by omega)]
        exact y3
      · rw [e (37 + i) (by omega), e (32 + i) (by omega)]
        exact y4 i (by omega) hy
      · rw [e (37 + y) (by omega), e0]
        exact y5
      · rw [e (37 + y) (by omega), e (32 + i) (by omega)]
        exact y6 i (by omega)
theorem nwO_cut {m m' : Nat → Int} (e : ∀ j, j < 522 → m' j = m j) : nwO m' = nwO m := nwO_congr (e 5 (by omega)) (e 1 (by omega)) (fun j hj => e j (by omega))
theorem RowP.self {m m' : Nat → Int} (e : ∀ j, j < 522 → m' j = m j) : RowP m' m (m 1) (nwO m) := ⟨fun j hj _ => (e j hj).symm, (e 1 (by omega)).symm, fun i _ => by rw [nwO_cut e]⟩
theorem HI_no {pa z : Nat → Int} {np fr : Int} {rS rN : Nat → Nat → Int} {rZ : Nat → Int} {m : Nat → Int} {nz : Int} (h : HI pa np fr rS rZ rN) : HI pa np fr (nt fr.toNat m rS) (nt fr.toNat nz rZ) (nt fr.toNat z rN) := by
  obtain ⟨h1, h2, h3⟩ := h
  refine ⟨h1, h2, fun k hk => ?_⟩
  have e : rowi fr np k ≠ fr.toNat := by
    unfold rowi
    omega
  rw [nt_ne e, nt_ne e, nt_ne e]
  exact h3 k hk
theorem HI_yes {pa m : Nat → Int} {np fr : Int} {rS rN : Nat → Nat → Int} {rZ : Nat → Int} (h : HI pa np fr rS rZ rN) (hI : Inv m) : HI (actP m pa np) (actN np + 1) ((fr + 1) % 6) (nt fr.toNat m rS) (nt fr.toNat (m 1) rZ) (nt fr.toNat (nwO m) rN) := by
  obtain ⟨h1, h2, h3⟩ := h
  have hN : actN np = if np = 5 then 4 else np := rfl
  have hN2 : 0 ≤ actN np ∧ actN np ≤ 4 := by
    rw [hN]
    split <;> omega
  have eL : ∀ j, j < 522 → past (actP m pa np) (actN np).toNat j = m j := fun j hj => by
    unfold past actP
    rw [if_pos hj, blk_in hj]
  have eP : ∀ k : Nat, (k : Int) < actN np → past (actP m pa np) k = past (actB pa np) k := fun k hk => by
    funext j
    unfold past actP
    split
    · rw [blk_out (by omega)]
    · rfl
  have eB : ∀ k : Nat, (k : Int) < actN np → past (actB pa np) k = past pa (if np = 5 then k + 1 else k) := fun k hk => by
    unfold actB
    by_cases c : np = 5
    · rw [if_pos c, if_pos c]
      funext j
      unfold past
      split
      · unfold blk
        rw [if_pos (by omega)]
        show pa (522 * k + j - 0 + 522) = pa (522 * (k + 1) + j)
        congr 1
        omega
      · rfl
    · rw [if_neg c, if_neg c]
  refine ⟨by omega, by omega, fun k hk => ?_⟩
  by_cases c : (k : Int) = actN np
  · have er : rowi ((fr + 1) % 6) (actN np + 1) k = fr.toNat := by
      unfold rowi
      omega
    rw [er, nt_eq, nt_eq, nt_eq]
    have ek : k = (actN np).toNat := by omega
    rw [ek]
    refine ⟨Inv_cut hI eL (fun j => ?_), RowP.self eL⟩
    by_cases q : j < 522
    · rw [eL j q]
      exact hI.1.1 j
    · unfold past
      rw [if_neg q]
      omega
  · have hk2 : (k : Int) < actN np := by omega
    rw [eP k hk2, eB k hk2]
    have er : rowi ((fr + 1) % 6) (actN np + 1) k = rowi fr np (if np = 5 then k + 1 else k) := by
      rw [hN] at hk2 ⊢
      unfold rowi
      by_cases q : np = 5
      · rw [if_pos q, if_pos q]
        omega
      · rw [if_neg q, if_neg q]
        omega
    have ene : rowi ((fr + 1) % 6) (actN np + 1) k ≠ fr.toNat := by
      unfold rowi
      omega
    rw [nt_ne ene, nt_ne ene, nt_ne ene, er]
    refine h3 _ ?_
    rw [hN] at hk2
    by_cases q : np = 5
    · rw [if_pos q] at hk2 ⊢
      omega
    · rw [if_neg q] at hk2 ⊢
      exact hk2
theorem HI_undo {pa : Nat → Int} {np fr : Int} {rS rN : Nat → Nat → Int} {rZ : Nat → Int} (h : HI pa np fr rS rZ rN) (hn : np ≠ 0) : HI pa (np - 1) ((fr + 6 - 1) % 6) rS rZ rN ∧ Inv (past pa (np - 1).toNat) ∧ RowP (past pa (np - 1).toNat) (rS ((fr + 6 - 1) % 6).toNat) (rZ ((fr + 6 - 1) % 6).toNat) (rN ((fr + 6 - 1) % 6).toNat) := by
  obtain ⟨h1, h2, h3⟩ := h
  refine ⟨⟨by omega, by omega, fun k hk => ?_⟩, ?_⟩
  · have er : rowi ((fr + 6 - 1) % 6) (np - 1) k = rowi fr np k := by
      unfold rowi
      omega
    rw [er]
    exact h3 k (by omega)
  · have er : rowi fr np (np - 1).toNat = ((fr + 6 - 1) % 6).toNat := by
      unfold rowi
      omega
    have := h3 (np - 1).toNat (by omega)
    rw [er] at this
    exact this
/-- what the two sides have in common between two calls -/
def Sim (cI cV : ClassId) (g a : Nat → Nat) (ra : Nat → Nat → Nat) (b : Nat → Nat) (wL wM : va_W) : Prop := ∃ (m pa he : Nat → Int) (np : Int) (rS : Nat → Nat → Int) (rZ : Nat → Int) (rN : Nat → Nat → Int) (fr : Int) (t : Nat → Int) (n pl le vr nr at_ rd : Int), Inv m ∧ HI pa np fr rS rZ rN ∧ MT t n ∧ wL = logw cI cV g a ra m (m 1) (nwO m) rS rZ rN fr np t n pl le vr nr ∧ wM = modw cI b m pa he np 0 t n at_ rd
theorem Sim.heads {cI cV : ClassId} {g a : Nat → Nat} {ra : Nat → Nat → Nat} {b : Nat → Nat} {wL wM : va_W} (h : Sim cI cV g a ra b wL wM) : wL[0]? = some (g 0, .inr (5, [.ref (a 0), .ref (g 1), .ref (g 3)])) ∧ ∃ fs, wM[0]? = some (b 0, .inr (6, fs)) := by
  obtain ⟨m, pa, he, np, rS, rZ, rN, fr, t, n, pl, le, vr, nr, at_, rd, -, -, -, rfl, rfl⟩ := h
  exact ⟨rfl, _, rfl⟩
theorem Sim.fst {cI cV : ClassId} {g a : Nat → Nat} {ra : Nat → Nat → Nat} {b : Nat → Nat} {wL wM wL' wM' : va_W} (h : Sim cI cV g a ra b wL wM) (h' : Sim cI cV g a ra b wL' wM') : wL'.map Prod.fst = wL.map Prod.fst ∧ wM'.map Prod.fst = wM.map Prod.fst := by
  obtain ⟨m, pa, he, np, rS, rZ, rN, fr, t, n, pl, le, vr, nr, at_, rd, -, -, -, rfl, rfl⟩ := h
  obtain ⟨m', pa', he', np', rS', rZ', rN', fr', t', n', pl', le', vr', nr', at_', rd', -, -, -, rfl, rfl⟩ := h'
  exact ⟨rfl, rfl⟩
theorem act_sim {cI cV : ClassId} {g a : Nat → Nat} {ra : Nat → Nat → Nat} {b : Nat → Nat} {m pa he s1 nw1 m1 pa1 : Nat → Int} {np nz1 an np1 an1 fr : Int} {rS rN : Nat → Nat → Int} {rZ : Nat → Int} {t : Nat → Int} {n pl le vr nr at_ rd : Int} (hA : ActP m pa np s1 nz1 nw1 an m1 pa1 np1 an1) (hI : Inv m) (hH : HI pa np fr rS rZ rN) (hT : MT t n) : Sim cI cV g a ra b (logw cI cV g a ra s1 nz1 nw1 (nt fr.toNat m rS) (nt fr.toNat (m 1) rZ) (nt fr.toNat (nwO m) rN) (if 0 ≤ an then ((fr + 1) % 6) else (fr)) (if 0 ≤ an then (min (np + 1) 5) else (np)) t n pl le vr nr) (modw cI b m1 pa1 he np1 0 t n at_ rd) := by
  obtain ⟨e, ha, hE, hz, hn, hI1, hno, hp, hnp⟩ := hA
  rw [logw_eq (m := m1) (fun j _ hj => hE j hj) hz hn]
  by_cases c : an < 0
  · rw [if_pos c] at hp hnp
    rw [if_neg (show ¬ 0 ≤ an by omega), if_neg (show ¬ 0 ≤ an by omega), hp, hnp]
    exact ⟨m1, pa, he, np, _, _, _, fr, t, n, pl, le, vr, nr, at_, rd, hI1, HI_no hH, hT, rfl, rfl⟩
  · rw [if_neg c] at hp hnp
    have e5 : min (np + 1) 5 = actN np + 1 := by
      have := hH.1
      have hN : actN np = if np = 5 then 4 else np := rfl
      rw [hN]
      split <;> omega
    rw [if_pos (show 0 ≤ an by omega), if_pos (show 0 ≤ an by omega), hp, hnp, e5]
    exact ⟨m1, actP m pa np, he, actN np + 1, _, _, _, (fr + 1) % 6, t, n, pl, le, vr, nr, at_, rd, hI1, HI_yes hH hI, hT, rfl, rfl⟩
/-- at the start -/
theorem Inv_S0 : Inv S0 := by
  have e : ∀ j, j ≠ 5 → j ≠ 6 → S0 j = 0 := fun j a b => by
    unfold S0
    rw [up_ne b, up_ne a]
  have e5 : S0 5 = -9 := by
    unfold S0
    rw [up_ne (by omega), up_at rfl]
  have e6 : S0 6 = 1 := by
    unfold S0
    rw [up_at rfl]
  have hb : ∀ k, bd (S0 k) := fun k => by
    by_cases k5 : k = 5
    · rw [k5, e5]
      omega
    by_cases k6 : k = 6
    · rw [k6, e6]
      omega
    rw [e k k5 k6]
    omega
  have e0 := e 0 (by omega) (by omega)
  have e1 := e 1 (by omega) (by omega)
  have e2 := e 2 (by omega) (by omega)
  have e3 := e 3 (by omega) (by omega)
  have e4 := e 4 (by omega) (by omega)
  have e7 := e 7 (by omega) (by omega)
  refine ⟨⟨hb, by omega, by omega, by omega, by omega, by omega, by omega, by omega, by omega, by omega, by omega, by omega, by omega, fun i hi => ?_, fun i hi => ?_⟩, by omega, by omega, fun i hi => Or.inl (e (8 + i) (by omega) (by omega)), fun i hi => ?_, fun i hi => ?_, fun i j hi hj he => ?_, Or.inl e5⟩
  · rw [e (32 + i) (by omega) (by omega)]
    omega
  · rw [e (37 + i) (by omega) (by omega)]
    omega
  · rw [e (20 + i) (by omega) (by omega), e3]
    omega
  · omega
  · omega
theorem Sim_0 {cI cV : ClassId} {g a : Nat → Nat} {ra : Nat → Nat → Nat} {b : Nat → Nat} : Sim cI cV g a ra b (logw cI cV g a ra S0 0 (fun _ => 0) (fun _ => S0) (fun _ => 0) (fun _ _ => 0) 0 0 (fun _ => 0) 0 0 0 0 0) (modw cI b S0 (fun _ => 0) (fun _ => 0) 0 0 (fun _ => 0) 0 0 0) := by
  have e : ∀ j, j ≠ 5 → j ≠ 6 → S0 j = 0 := fun j a b => by
    unfold S0
    rw [up_ne b, up_ne a]
  rw [logw_eq (m := S0) (fun _ _ _ => rfl) (e 1 (by omega) (by omega)).symm (fun i hi => by
    unfold nwO
    rw [if_pos hi, if_neg (fun q => by have := q.2; rw [e 1 (by omega) (by omega)] at this; omega), e (32 + i) (by omega) (by omega)])]
  exact ⟨S0, _, _, 0, _, _, _, 0, _, 0, 0, 0, 0, 0, 0, 0, Inv_S0, ⟨by omega, by omega, fun k hk => absurd hk (by omega)⟩, ⟨fun k => by omega, by omega⟩, rfl, rfl⟩
