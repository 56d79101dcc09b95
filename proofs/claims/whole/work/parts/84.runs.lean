/-! run, on both sides -/
theorem cmd_eq {m : Nat → Int} {c v w q : Int} (h : Inv m) (hc : c = 112 ∨ c = 115 ∨ c = 108 ∨ c = 103 ∨ c = 98) (hq : q = if c = 112 ∨ c = 115 then w else -9) : cmdA m (m 1) (nwO m) c v q = mcA m c v w ∧ cmdS m (m 1) (nwO m) c v q = mcS m c v w ∧ Kept m (mcS m c v w) (mcA m c v w) := by
  rcases hc with e | e | e | e | e <;> subst e
  · have hq : q = w := hq.trans (if_pos (Or.inl rfl))
    subst hq
    exact pro_eq h
  · have hq : q = w := hq.trans (if_pos (Or.inr rfl))
    subst hq
    exact sec_eq h
  · exact lea_eq h
  · exact att_eq h
  · exact att_eq h
theorem parse_ok {t : Nat → Int} {n pl c0 v1 q1 v2 q2 an : Int} (hb : okC t n c0 v1 q1 v2 q2) : dPl t n pl c0 v1 q1 v2 q2 an = (if an < 0 then pl else -9) ∧ dAt t n pl c0 v1 q1 v2 q2 = plC t n pl c0 v1 q1 v2 q2 ∧ ∀ s s1, dSt t n pl c0 v1 q1 v2 q2 s s1 = s1 := by
  have hl : ¬ ¬ (c0 = 112 ∨ c0 = 115 ∨ c0 = 108 ∨ c0 = 103 ∨ c0 = 98) := fun h => h hb.1
  unfold dPl dAt plC dSt
  by_cases h2 : c0 = 112 ∨ c0 = 115
  · have ho : nxt t n q1 = 58 ∧ v2 ≠ -9 ∧ nxt t n q2 = 59 := by
      rcases hb.2.2 with q | q
      · exact q.2
      · exact absurd h2 q.1
    have k2 : ¬ ¬ (v1 ≠ -9 ∧ ((c0 = 112 ∨ c0 = 115) ∧ nxt t n q1 = 58 ∨ ¬ (c0 = 112 ∨ c0 = 115) ∧ nxt t n q1 = 59)) := fun h => h ⟨hb.2.1, Or.inl ⟨h2, ho.1⟩⟩
    have k3 : ¬ ((c0 = 112 ∨ c0 = 115) ∧ ¬ (v2 ≠ -9 ∧ nxt t n q2 = 59)) := fun h => h.2 ho.2
    rw [if_neg hl, if_neg k2, if_neg k3, if_neg hl, if_neg k2, if_neg k3, if_pos h2, if_neg hl, if_neg hb.2.1, if_pos h2, if_neg (not_not_intro ho.1), if_neg ho.2.1, if_neg (not_not_intro ho.2.2)]
    exact ⟨rfl, rfl, fun s s1 => by rw [if_neg hl, if_neg k2, if_neg k3]⟩
  · have ho : nxt t n q1 = 59 := by
      rcases hb.2.2 with q | q
      · exact absurd q.1 h2
      · exact q.2
    have k2 : ¬ ¬ (v1 ≠ -9 ∧ ((c0 = 112 ∨ c0 = 115) ∧ nxt t n q1 = 58 ∨ ¬ (c0 = 112 ∨ c0 = 115) ∧ nxt t n q1 = 59)) := fun h => h ⟨hb.2.1, Or.inr ⟨h2, ho⟩⟩
    have k3 : ¬ ((c0 = 112 ∨ c0 = 115) ∧ ¬ (v2 ≠ -9 ∧ nxt t n q2 = 59)) := fun h => h2 h.1
    rw [if_neg hl, if_neg k2, if_neg k3, if_neg hl, if_neg k2, if_neg k3, if_neg h2, if_neg hl, if_neg hb.2.1, if_neg h2, if_neg (not_not_intro ho)]
    exact ⟨rfl, rfl, fun s s1 => by rw [if_neg hl, if_neg k2, if_neg k3]⟩
theorem parse_bad {t : Nat → Int} {n pl c0 v1 q1 v2 q2 an : Int} (hb : ¬ okC t n c0 v1 q1 v2 q2) (h0 : 0 ≤ pl ∧ 0 ≤ q1 ∧ 0 ≤ q2) : dPl t n pl c0 v1 q1 v2 q2 an = plC t n pl c0 v1 q1 v2 q2 ∧ 0 ≤ plC t n pl c0 v1 q1 v2 q2 := by
  unfold dPl plC
  by_cases hl : ¬ (c0 = 112 ∨ c0 = 115 ∨ c0 = 108 ∨ c0 = 103 ∨ c0 = 98)
  · rw [if_pos hl, if_pos hl]
    exact ⟨rfl, h0.1⟩
  rw [if_neg hl, if_neg hl]
  by_cases h1 : v1 = -9
  · rw [if_pos (fun h => h.1 h1), if_pos h1]
    exact ⟨rfl, h0.2.1⟩
  rw [if_neg h1]
  by_cases h2 : c0 = 112 ∨ c0 = 115
  · rw [if_pos h2]
    by_cases h3 : nxt t n q1 = 58
    · have k2 : ¬ ¬ (v1 ≠ -9 ∧ ((c0 = 112 ∨ c0 = 115) ∧ nxt t n q1 = 58 ∨ ¬ (c0 = 112 ∨ c0 = 115) ∧ nxt t n q1 = 59)) := fun h => h ⟨h1, Or.inl ⟨h2, h3⟩⟩
      have hc : ¬ (v2 ≠ -9 ∧ nxt t n q2 = 59) := fun h => hb ⟨Classical.not_not.mp hl, h1, Or.inl ⟨h2, h3, h⟩⟩
      rw [if_neg k2, if_pos ⟨h2, hc⟩, if_neg (not_not_intro h3)]
      by_cases h4 : v2 = -9
      · rw [if_pos h4]
        exact ⟨rfl, h0.2.2⟩
      · rw [if_neg h4, if_pos (fun h => hc ⟨h4, h⟩)]
        exact ⟨rfl, h0.2.2⟩
    · have k2 : ¬ (v1 ≠ -9 ∧ ((c0 = 112 ∨ c0 = 115) ∧ nxt t n q1 = 58 ∨ ¬ (c0 = 112 ∨ c0 = 115) ∧ nxt t n q1 = 59)) := by
        rintro ⟨-, q | q⟩
        · exact h3 q.2
        · exact q.1 h2
      rw [if_pos k2, if_pos h3]
      exact ⟨rfl, h0.2.1⟩
  · rw [if_neg h2]
    have h3 : nxt t n q1 ≠ 59 := fun h => hb ⟨Classical.not_not.mp hl, h1, Or.inr ⟨h2, h⟩⟩
    have k2 : ¬ (v1 ≠ -9 ∧ ((c0 = 112 ∨ c0 = 115) ∧ nxt t n q1 = 58 ∨ ¬ (c0 = 112 ∨ c0 = 115) ∧ nxt t n q1 = 59)) := by
      rintro ⟨-, q | q⟩
      · exact h2 q.1
      · exact h3 q.2
    rw [if_pos k2, if_pos h3]
    exact ⟨rfl, h0.2.1⟩
/-- what the two runs agree on -/
def RunR (m : Nat → Int) (rc : Int × (Nat → Int) × Int × Int × Int × Int) (rm : Int × Int × (Nat → Int) × Int × Int) : Prop := (rm.2.1 = -9 ∧ rc.1 = rm.1 ∧ 0 ≤ rm.1 ∧ rc.2.1 = rm.2.2.1 ∧ Inv rm.2.2.1 ∧ rm.2.2.1 1 = m 1 ∧ nwO rm.2.2.1 = nwO m) ∨ (rm.2.1 ≠ -9 ∧ 0 ≤ rm.2.1 ∧ rc.1 = -1000 - rm.2.1)
theorem run_eq {t : Nat → Int} {n : Int} : ∀ (f : Nat) {m : Nat → Int} {k pl le vr nr rd : Int}, Inv m → 0 ≤ pl → n - pl ≤ f → 0 ≤ k → RunR m (runC t n (m 1) (nwO m) f m k pl le vr nr) (runM t n (f + 1) (-9) m k pl rd) := by
  intro f
  induction f with
  | zero =>
    intro m k pl le vr nr rd h h0 hf hk
    rw [runC_0 (by omega), runM_end (Or.inr (by omega))]
    exact Or.inl ⟨rfl, rfl, hk, rfl, h, rfl, rfl⟩
  | succ f ih =>
    intro m k pl le vr nr rd h h0 hf hk
    by_cases hn : n ≤ pl
    · rw [runC_0 hn, runM_end (Or.inr hn)]
      exact Or.inl ⟨rfl, rfl, hk, rfl, h, rfl, rfl⟩
    have r1 := rdN_rg (t := t) (n := n) (pl := pl + 1)
    have r2 := rdN_rg (t := t) (n := n) (pl := (rdN t n (pl + 1)).2 + 1)
    obtain ⟨c0, hc0⟩ : ∃ c0, c0 = nxt t n pl := ⟨_, rfl⟩
    obtain ⟨v1, hv1⟩ : ∃ v1, v1 = (rdN t n (pl + 1)).1 := ⟨_, rfl⟩
    obtain ⟨q1, hq1⟩ : ∃ q1, q1 = (rdN t n (pl + 1)).2 := ⟨_, rfl⟩
    obtain ⟨v2, hv2⟩ : ∃ v2, v2 = (rdN t n (q1 + 1)).1 := ⟨_, rfl⟩
    obtain ⟨q2, hq2⟩ : ∃ q2, q2 = (rdN t n (q1 + 1)).2 := ⟨_, rfl⟩
    rw [← hq1] at r1 r2
    rw [← hq2] at r2
    rw [runM_go hc0 hv1 hq1 hv2 hq2 rfl rfl (by omega)]
    by_cases hb : okC t n c0 v1 q1 v2 q2
    · have hN := okC_num (vr := vr) (nr := nr) hb h0 hv1 hq1 hv2 hq2
      have hP := parse_ok (pl := pl) (an := mcA m c0 v1 v2) hb
      have hC := cmd_eq (v := v1) h hb.1 hN.2.2.2.1
      rw [hP.1, hP.2.1, hP.2.2]
      by_cases ha : mcA m c0 v1 v2 < 0
      · rw [if_pos ha, runM_end (Or.inl (by omega)), runC_err hc0 hv1 hq1 hv2 hq2 rfl rfl rfl hn hb (by rw [hN.2.1, hC.1]; exact ha)]
        refine Or.inr ⟨?_, h0, rfl⟩
        show pl ≠ -9
        omega
      · rw [if_neg ha, runC_go hc0 hv1 hq1 hv2 hq2 rfl rfl rfl hn hb (by rw [hN.2.1, hC.1]; exact ha), hN.2.1, hC.2.1, ← hC.2.2.2.1, ← hC.2.2.2.2]
        have q := ih (m := mcS m c0 v1 v2) (k := k + 1) (pl := plC t n pl c0 v1 q1 v2 q2) (le := c0) (vr := v1) (nr := nrC t n nr c0 v1 q1 v2 q2) (rd := dRd t n pl c0 v1 q1 v2 q2 rd) hC.2.2.1.1 (by omega) (by omega) (by omega)
        rcases q with ⟨a, b, c, d, e, g, i⟩ | q
        · exact Or.inl ⟨a, b, c, d, e, g.trans hC.2.2.2.1, i.trans hC.2.2.2.2⟩
        · exact Or.inr q
    · have hP := parse_bad (pl := pl) (an := mcA m c0 v1 v2) hb (by omega)
      rw [hP.1, runM_end (Or.inl (by omega)), runC_bad hc0 hv1 hq1 hv2 hq2 rfl rfl rfl hn hb]
      refine Or.inr ⟨?_, hP.2, rfl⟩
      show plC t n pl c0 v1 q1 v2 q2 ≠ -9
      omega
