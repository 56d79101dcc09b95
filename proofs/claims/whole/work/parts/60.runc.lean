abbrev okC (t : Nat → Int) (n c0 v1 q1 v2 q2 : Int) : Prop := (c0 = 112 ∨ c0 = 115 ∨ c0 = 108 ∨ c0 = 103 ∨ c0 = 98) ∧ v1 ≠ -9 ∧ ((c0 = 112 ∨ c0 = 115) ∧ nxt t n q1 = 58 ∧ v2 ≠ -9 ∧ nxt t n q2 = 59 ∨ ¬ (c0 = 112 ∨ c0 = 115) ∧ nxt t n q1 = 59)
def plC (t : Nat → Int) (n pl c0 v1 q1 v2 q2 : Int) : Int := if ¬ (c0 = 112 ∨ c0 = 115 ∨ c0 = 108 ∨ c0 = 103 ∨ c0 = 98) then (pl) else (if v1 = -9 then (q1) else (if c0 = 112 ∨ c0 = 115 then (if nxt t n q1 ≠ 58 then (q1) else (if v2 = -9 then (q2) else (if nxt t n q2 ≠ 59 then (q2) else (q2 + 1)))) else (if nxt t n q1 ≠ 59 then (q1) else (q1 + 1))))
def vrC (t : Nat → Int) (n vr c0 v1 q1 v2 q2 : Int) : Int := if ¬ (c0 = 112 ∨ c0 = 115 ∨ c0 = 108 ∨ c0 = 103 ∨ c0 = 98) then (vr) else (if v1 = -9 then (v1) else (if c0 = 112 ∨ c0 = 115 then (if nxt t n q1 ≠ 58 then (v1) else (if v2 = -9 then (v1) else (if nxt t n q2 ≠ 59 then (v1) else (v1)))) else (if nxt t n q1 ≠ 59 then (v1) else (v1))))
def nrC (t : Nat → Int) (n nr c0 v1 q1 v2 q2 : Int) : Int := if ¬ (c0 = 112 ∨ c0 = 115 ∨ c0 = 108 ∨ c0 = 103 ∨ c0 = 98) then (nr) else (if v1 = -9 then (nr) else (if c0 = 112 ∨ c0 = 115 then (if nxt t n q1 ≠ 58 then (-9) else (if v2 = -9 then (v2) else (if nxt t n q2 ≠ 59 then (v2) else (v2)))) else (if nxt t n q1 ≠ 59 then (-9) else (-9))))
/-- the class's run: the answer, the row, the text's numbers -/
def runC (t : Nat → Int) (n nz : Int) (nw : Nat → Int) : Nat → (Nat → Int) → Int → Int → Int → Int → Int → Int × (Nat → Int) × Int × Int × Int × Int
  | 0, s, k, pl, le, vr, nr => (k, s, pl, le, vr, nr)
  | f + 1, s, k, pl, le, vr, nr => if n ≤ pl then (k, s, pl, le, vr, nr) else
    if ¬ okC t n (nxt t n pl) ((rdN t n (pl + 1)).1) ((rdN t n (pl + 1)).2) ((rdN t n ((rdN t n (pl + 1)).2 + 1)).1) ((rdN t n ((rdN t n (pl + 1)).2 + 1)).2) then (-1000 - plC t n pl (nxt t n pl) ((rdN t n (pl + 1)).1) ((rdN t n (pl + 1)).2) ((rdN t n ((rdN t n (pl + 1)).2 + 1)).1) ((rdN t n ((rdN t n (pl + 1)).2 + 1)).2), s, plC t n pl (nxt t n pl) ((rdN t n (pl + 1)).1) ((rdN t n (pl + 1)).2) ((rdN t n ((rdN t n (pl + 1)).2 + 1)).1) ((rdN t n ((rdN t n (pl + 1)).2 + 1)).2), nxt t n pl, vrC t n vr (nxt t n pl) ((rdN t n (pl + 1)).1) ((rdN t n (pl + 1)).2) ((rdN t n ((rdN t n (pl + 1)).2 + 1)).1) ((rdN t n ((rdN t n (pl + 1)).2 + 1)).2), nrC t n nr (nxt t n pl) ((rdN t n (pl + 1)).1) ((rdN t n (pl + 1)).2) ((rdN t n ((rdN t n (pl + 1)).2 + 1)).1) ((rdN t n ((rdN t n (pl + 1)).2 + 1)).2)) else
    if cmdA s nz nw (nxt t n pl) (vrC t n vr (nxt t n pl) ((rdN t n (pl + 1)).1) ((rdN t n (pl + 1)).2) ((rdN t n ((rdN t n (pl + 1)).2 + 1)).1) ((rdN t n ((rdN t n (pl + 1)).2 + 1)).2)) (nrC t n nr (nxt t n pl) ((rdN t n (pl + 1)).1) ((rdN t n (pl + 1)).2) ((rdN t n ((rdN t n (pl + 1)).2 + 1)).1) ((rdN t n ((rdN t n (pl + 1)).2 + 1)).2)) < 0 then (-1000 - pl, cmdS s nz nw (nxt t n pl) (vrC t n vr (nxt t n pl) ((rdN t n (pl + 1)).1) ((rdN t n (pl + 1)).2) ((rdN t n ((rdN t n (pl + 1)).2 + 1)).1) ((rdN t n ((rdN t n (pl + 1)).2 + 1)).2)) (nrC t n nr (nxt t n pl) ((rdN t n (pl + 1)).1) ((rdN t n (pl + 1)).2) ((rdN t n ((rdN t n (pl + 1)).2 + 1)).1) ((rdN t n ((rdN t n (pl + 1)).2 + 1)).2)), plC t n pl (nxt t n pl) ((rdN t n (pl + 1)).1) ((rdN t n (pl + 1)).2) ((rdN t n ((rdN t n (pl + 1)).2 + 1)).1) ((rdN t n ((rdN t n (pl + 1)).2 + 1)).2), nxt t n pl, vrC t n vr (nxt t n pl) ((rdN t n (pl + 1)).1) ((rdN t n (pl + 1)).2) ((rdN t n ((rdN t n (pl + 1)).2 + 1)).1) ((rdN t n ((rdN t n (pl + 1)).2 + 1)).2), nrC t n nr (nxt t n pl) ((rdN t n (pl + 1)).1) ((rdN t n (pl + 1)).2) ((rdN t n ((rdN t n (pl + 1)).2 + 1)).1) ((rdN t n ((rdN t n (pl + 1)).2 + 1)).2)) else
    runC t n nz nw f (cmdS s nz nw (nxt t n pl) (vrC t n vr (nxt t n pl) ((rdN t n (pl + 1)).1) ((rdN t n (pl + 1)).2) ((rdN t n ((rdN t n (pl + 1)).2 + 1)).1) ((rdN t n ((rdN t n (pl + 1)).2 + 1)).2)) (nrC t n nr (nxt t n pl) ((rdN t n (pl + 1)).1) ((rdN t n (pl + 1)).2) ((rdN t n ((rdN t n (pl + 1)).2 + 1)).1) ((rdN t n ((rdN t n (pl + 1)).2 + 1)).2))) (k + 1) (plC t n pl (nxt t n pl) ((rdN t n (pl + 1)).1) ((rdN t n (pl + 1)).2) ((rdN t n ((rdN t n (pl + 1)).2 + 1)).1) ((rdN t n ((rdN t n (pl + 1)).2 + 1)).2)) (nxt t n pl) (vrC t n vr (nxt t n pl) ((rdN t n (pl + 1)).1) ((rdN t n (pl + 1)).2) ((rdN t n ((rdN t n (pl + 1)).2 + 1)).1) ((rdN t n ((rdN t n (pl + 1)).2 + 1)).2)) (nrC t n nr (nxt t n pl) ((rdN t n (pl + 1)).1) ((rdN t n (pl + 1)).2) ((rdN t n ((rdN t n (pl + 1)).2 + 1)).1) ((rdN t n ((rdN t n (pl + 1)).2 + 1)).2))
theorem runC_0 {t : Nat → Int} {n nz : Int} {nw s : Nat → Int} {k pl le vr nr : Int} (h : n ≤ pl) : ∀ f, runC t n nz nw f s k pl le vr nr = (k, s, pl, le, vr, nr)
  | 0 => rfl
  | f + 1 => by
    simp only [runC]
    rw [if_pos h]
theorem runC_bad {t : Nat → Int} {n nz : Int} {nw s : Nat → Int} {k pl le vr nr c0 v1 q1 v2 q2 p1 vr1 nr1 : Int} (hc0 : c0 = nxt t n pl) (hv1 : v1 = (rdN t n (pl + 1)).1) (hq1 : q1 = (rdN t n (pl + 1)).2) (hv2 : v2 = (rdN t n (q1 + 1)).1) (hq2 : q2 = (rdN t n (q1 + 1)).2) (hp1 : p1 = plC t n pl c0 v1 q1 v2 q2) (hvr : vr1 = vrC t n vr c0 v1 q1 v2 q2) (hnr : nr1 = nrC t n nr c0 v1 q1 v2 q2) (h : ¬ n ≤ pl) (hb : ¬ okC t n c0 v1 q1 v2 q2) (f : Nat) : runC t n nz nw (f + 1) s k pl le vr nr = (-1000 - p1, s, p1, c0, vr1, nr1) := by
  subst hnr hvr hp1 hq2 hv2 hq1 hv1 hc0
  simp only [runC]
  rw [if_neg h, if_pos hb]
theorem runC_err {t : Nat → Int} {n nz : Int} {nw s : Nat → Int} {k pl le vr nr c0 v1 q1 v2 q2 p1 vr1 nr1 : Int} (hc0 : c0 = nxt t n pl) (hv1 : v1 = (rdN t n (pl + 1)).1) (hq1 : q1 = (rdN t n (pl + 1)).2) (hv2 : v2 = (rdN t n (q1 + 1)).1) (hq2 : q2 = (rdN t n (q1 + 1)).2) (hp1 : p1 = plC t n pl c0 v1 q1 v2 q2) (hvr : vr1 = vrC t n vr c0 v1 q1 v2 q2) (hnr : nr1 = nrC t n nr c0 v1 q1 v2 q2) (h : ¬ n ≤ pl) (hb : okC t n c0 v1 q1 v2 q2) (ha : cmdA s nz nw c0 vr1 nr1 < 0) (f : Nat) : runC t n nz nw (f + 1) s k pl le vr nr = (-1000 - pl, cmdS s nz nw c0 vr1 nr1, p1, c0, vr1, nr1) := by
  subst hnr hvr hp1 hq2 hv2 hq1 hv1 hc0
  simp only [runC]
  rw [if_neg h, if_neg (fun hh => hh hb), if_pos ha]
theorem runC_go {t : Nat → Int} {n nz : Int} {nw s : Nat → Int} {k pl le vr nr c0 v1 q1 v2 q2 p1 vr1 nr1 : Int} (hc0 : c0 = nxt t n pl) (hv1 : v1 = (rdN t n (pl + 1)).1) (hq1 : q1 = (rdN t n (pl + 1)).2) (hv2 : v2 = (rdN t n (q1 + 1)).1) (hq2 : q2 = (rdN t n (q1 + 1)).2) (hp1 : p1 = plC t n pl c0 v1 q1 v2 q2) (hvr : vr1 = vrC t n vr c0 v1 q1 v2 q2) (hnr : nr1 = nrC t n nr c0 v1 q1 v2 q2) (h : ¬ n ≤ pl) (hb : okC t n c0 v1 q1 v2 q2) (ha : ¬ cmdA s nz nw c0 vr1 nr1 < 0) (f : Nat) : runC t n nz nw (f + 1) s k pl le vr nr = runC t n nz nw f (cmdS s nz nw c0 vr1 nr1) (k + 1) p1 c0 vr1 nr1 := by
  subst hnr hvr hp1 hq2 hv2 hq1 hv1 hc0
  conv => lhs; simp only [runC]
  rw [if_neg h, if_neg (fun hh => hh hb), if_neg ha]
theorem okC_num {t : Nat → Int} {n pl c0 v1 q1 v2 q2 vr nr : Int} (hb : okC t n c0 v1 q1 v2 q2) (h0 : 0 ≤ pl) (hv1 : v1 = (rdN t n (pl + 1)).1) (hq1 : q1 = (rdN t n (pl + 1)).2) (hv2 : v2 = (rdN t n (q1 + 1)).1) (hq2 : q2 = (rdN t n (q1 + 1)).2) : (pl < plC t n pl c0 v1 q1 v2 q2 ∧ plC t n pl c0 v1 q1 v2 q2 ≤ n) ∧ vrC t n vr c0 v1 q1 v2 q2 = v1 ∧ (0 ≤ v1 ∧ v1 ≤ 999) ∧ nrC t n nr c0 v1 q1 v2 q2 = (if c0 = 112 ∨ c0 = 115 then v2 else -9) ∧ ((c0 = 112 ∨ c0 = 115) → 0 ≤ v2 ∧ v2 ≤ 999) := by
  have r1 := rdN_rg (t := t) (n := n) (pl := pl + 1)
  have r2 := rdN_rg (t := t) (n := n) (pl := q1 + 1)
  rw [← hv1, ← hq1] at r1
  rw [← hv2, ← hq2] at r2
  have hl : ¬ ¬ (c0 = 112 ∨ c0 = 115 ∨ c0 = 108 ∨ c0 = 103 ∨ c0 = 98) := fun h => h hb.1
  by_cases h2 : c0 = 112 ∨ c0 = 115
  · have ho : nxt t n q1 = 58 ∧ v2 ≠ -9 ∧ nxt t n q2 = 59 := by omega
    have l2 := nxt_lt (t := t) (n := n) (q := q2) (by omega)
    unfold plC vrC nrC
    rw [if_neg hl, if_neg hb.2.1, if_pos h2, if_neg (fun h => h ho.1), if_neg ho.2.1, if_neg (fun h => h ho.2.2), if_neg hl, if_neg hb.2.1, if_pos h2, if_neg (fun h => h ho.1), if_neg ho.2.1, if_neg (fun h => h ho.2.2), if_neg hl, if_neg hb.2.1, if_pos h2, if_neg (fun h => h ho.1), if_neg ho.2.1, if_neg (fun h => h ho.2.2), if_pos h2]
    refine ⟨⟨by omega, by omega⟩, rfl, by omega, rfl, fun _ => by omega⟩
  · have ho : nxt t n q1 = 59 := by omega
    have l2 := nxt_lt (t := t) (n := n) (q := q1) (by omega)
    unfold plC vrC nrC
    rw [if_neg hl, if_neg hb.2.1, if_neg h2, if_neg (fun h => h ho), if_neg hl, if_neg hb.2.1, if_neg h2, if_neg (fun h => h ho), if_neg hl, if_neg hb.2.1, if_neg h2, if_neg (fun h => h ho), if_neg h2]
    refine ⟨⟨by omega, by omega⟩, rfl, by omega, rfl, fun h => absurd h h2⟩
