def dPl (t : Nat → Int) (ty at_ c0 v1 q1 v2 q2 : Int) (an : Int) : Int := if ¬ (c0 = 112 ∨ c0 = 115 ∨ c0 = 108 ∨ c0 = 103 ∨ c0 = 98) then (at_) else (if ¬ (v1 ≠ -9 ∧ ((c0 = 112 ∨ c0 = 115) ∧ nxt t ty q1 = 58 ∨ ¬ (c0 = 112 ∨ c0 = 115) ∧ nxt t ty q1 = 59)) then (q1) else (if (c0 = 112 ∨ c0 = 115) ∧ ¬ (v2 ≠ -9 ∧ nxt t ty q2 = 59) then (q2) else (if an < 0 then (at_) else (-9))))
def dAt (t : Nat → Int) (ty at_ c0 v1 q1 v2 q2 : Int) : Int := if ¬ (c0 = 112 ∨ c0 = 115 ∨ c0 = 108 ∨ c0 = 103 ∨ c0 = 98) then (at_) else (if ¬ (v1 ≠ -9 ∧ ((c0 = 112 ∨ c0 = 115) ∧ nxt t ty q1 = 58 ∨ ¬ (c0 = 112 ∨ c0 = 115) ∧ nxt t ty q1 = 59)) then (q1) else (if (c0 = 112 ∨ c0 = 115) ∧ ¬ (v2 ≠ -9 ∧ nxt t ty q2 = 59) then (q2) else (if c0 = 112 ∨ c0 = 115 then (q2 + 1) else (q1 + 1))))
def dRd (t : Nat → Int) (ty at_ c0 v1 q1 v2 q2 : Int) (rd : Int) : Int := if ¬ (c0 = 112 ∨ c0 = 115 ∨ c0 = 108 ∨ c0 = 103 ∨ c0 = 98) then (rd) else (if ¬ (v1 ≠ -9 ∧ ((c0 = 112 ∨ c0 = 115) ∧ nxt t ty q1 = 58 ∨ ¬ (c0 = 112 ∨ c0 = 115) ∧ nxt t ty q1 = 59)) then (if v1 = -9 then (0) else (v1)) else (if (c0 = 112 ∨ c0 = 115) ∧ ¬ (v2 ≠ -9 ∧ nxt t ty q2 = 59) then (if v2 = -9 then (0) else (v2)) else (if c0 = 112 ∨ c0 = 115 then (v2) else (v1))))
def dSt (t : Nat → Int) (ty at_ c0 v1 q1 v2 q2 : Int) (s s1 : Nat → Int) : Nat → Int := if ¬ (c0 = 112 ∨ c0 = 115 ∨ c0 = 108 ∨ c0 = 103 ∨ c0 = 98) then (s) else (if ¬ (v1 ≠ -9 ∧ ((c0 = 112 ∨ c0 = 115) ∧ nxt t ty q1 = 58 ∨ ¬ (c0 = 112 ∨ c0 = 115) ∧ nxt t ty q1 = 59)) then (s) else (if (c0 = 112 ∨ c0 = 115) ∧ ¬ (v2 ≠ -9 ∧ nxt t ty q2 = 59) then (s) else (s1)))
/-- the reference's run: how many, the place, the row, the text's numbers -/
def runM (t : Nat → Int) (ty : Int) : Nat → Int → (Nat → Int) → Int → Int → Int → Int × Int × (Nat → Int) × Int × Int
  | 0, p, s, n, at_, rd => (n, p, s, at_, rd)
  | f + 1, p, s, n, at_, rd => if p ≠ -9 ∨ ty ≤ at_ then (n, p, s, at_, rd) else
    runM t ty f (dPl t ty at_ (nxt t ty at_) ((rdN t ty (at_ + 1)).1) ((rdN t ty (at_ + 1)).2) ((rdN t ty ((rdN t ty (at_ + 1)).2 + 1)).1) ((rdN t ty ((rdN t ty (at_ + 1)).2 + 1)).2) (mcA s (nxt t ty at_) ((rdN t ty (at_ + 1)).1) ((rdN t ty ((rdN t ty (at_ + 1)).2 + 1)).1))) (dSt t ty at_ (nxt t ty at_) ((rdN t ty (at_ + 1)).1) ((rdN t ty (at_ + 1)).2) ((rdN t ty ((rdN t ty (at_ + 1)).2 + 1)).1) ((rdN t ty ((rdN t ty (at_ + 1)).2 + 1)).2) s (mcS s (nxt t ty at_) ((rdN t ty (at_ + 1)).1) ((rdN t ty ((rdN t ty (at_ + 1)).2 + 1)).1))) (n + 1) (dAt t ty at_ (nxt t ty at_) ((rdN t ty (at_ + 1)).1) ((rdN t ty (at_ + 1)).2) ((rdN t ty ((rdN t ty (at_ + 1)).2 + 1)).1) ((rdN t ty ((rdN t ty (at_ + 1)).2 + 1)).2)) (dRd t ty at_ (nxt t ty at_) ((rdN t ty (at_ + 1)).1) ((rdN t ty (at_ + 1)).2) ((rdN t ty ((rdN t ty (at_ + 1)).2 + 1)).1) ((rdN t ty ((rdN t ty (at_ + 1)).2 + 1)).2) rd)
theorem runM_end {t s : Nat → Int} {ty p n at_ rd : Int} (h : p ≠ -9 ∨ ty ≤ at_) : ∀ f, runM t ty f p s n at_ rd = (n, p, s, at_, rd)
  | 0 => rfl
  | f + 1 => by
    simp only [runM]
    rw [if_pos h]
theorem runM_go {t s s1 : Nat → Int} {ty p n at_ rd c0 v1 q1 v2 q2 an : Int} (hc0 : c0 = nxt t ty at_) (hv1 : v1 = (rdN t ty (at_ + 1)).1) (hq1 : q1 = (rdN t ty (at_ + 1)).2) (hv2 : v2 = (rdN t ty (q1 + 1)).1) (hq2 : q2 = (rdN t ty (q1 + 1)).2) (ha : an = mcA s c0 v1 v2) (hs : s1 = mcS s c0 v1 v2) (h : ¬ (p ≠ -9 ∨ ty ≤ at_)) (f : Nat) : runM t ty (f + 1) p s n at_ rd = runM t ty f (dPl t ty at_ c0 v1 q1 v2 q2 an) (dSt t ty at_ c0 v1 q1 v2 q2 s s1) (n + 1) (dAt t ty at_ c0 v1 q1 v2 q2) (dRd t ty at_ c0 v1 q1 v2 q2 rd) := by
  subst hs ha hq2 hv2 hq1 hv1 hc0
  conv => lhs; simp only [runM]
  rw [if_neg h]
theorem d_num {t : Nat → Int} {ty at_ c0 v1 q1 v2 q2 an : Int} (h0 : 0 ≤ at_ ∧ at_ < ty) (hv1 : v1 = (rdN t ty (at_ + 1)).1) (hq1 : q1 = (rdN t ty (at_ + 1)).2) (hv2 : v2 = (rdN t ty (q1 + 1)).1) (hq2 : q2 = (rdN t ty (q1 + 1)).2) : (at_ ≤ dPl t ty at_ c0 v1 q1 v2 q2 an ∧ dPl t ty at_ c0 v1 q1 v2 q2 an ≤ at_ + 10 ∨ dPl t ty at_ c0 v1 q1 v2 q2 an = -9 ∧ at_ < dAt t ty at_ c0 v1 q1 v2 q2 ∧ dAt t ty at_ c0 v1 q1 v2 q2 ≤ ty) ∧ at_ ≤ dAt t ty at_ c0 v1 q1 v2 q2 ∧ dAt t ty at_ c0 v1 q1 v2 q2 ≤ at_ + 10 := by
  have r1 := rdN_rg (t := t) (n := ty) (pl := at_ + 1)
  have r2 := rdN_rg (t := t) (n := ty) (pl := q1 + 1)
  rw [← hv1, ← hq1] at r1
  rw [← hv2, ← hq2] at r2
  unfold dPl dAt
  by_cases k1 : ¬ (c0 = 112 ∨ c0 = 115 ∨ c0 = 108 ∨ c0 = 103 ∨ c0 = 98)
  · rw [if_pos k1, if_pos k1]
    omega
  rw [if_neg k1, if_neg k1]
  by_cases k2 : ¬ (v1 ≠ -9 ∧ ((c0 = 112 ∨ c0 = 115) ∧ nxt t ty q1 = 58 ∨ ¬ (c0 = 112 ∨ c0 = 115) ∧ nxt t ty q1 = 59))
  · rw [if_pos k2, if_pos k2]
    omega
  rw [if_neg k2, if_neg k2]
  have l1 := nxt_lt (t := t) (n := ty) (q := q1) (by omega)
  by_cases k3 : (c0 = 112 ∨ c0 = 115) ∧ ¬ (v2 ≠ -9 ∧ nxt t ty q2 = 59)
  · rw [if_pos k3, if_pos k3]
    omega
  rw [if_neg k3, if_neg k3]
  by_cases k4 : c0 = 112 ∨ c0 = 115
  · have l2 := nxt_lt (t := t) (n := ty) (q := q2) (by omega)
    rw [if_pos k4]
    split <;> omega
  · rw [if_neg k4]
    split <;> omega
theorem actP_congr {s1 s pa : Nat → Int} {np : Int} (h : ∀ i, i < 522 → s1 i = s i) : actP s1 pa np = actP s pa np := by
  unfold actP blk
  funext j
  split
  · exact h _ (by omega)
  · rfl
/-- a row of the reference that stays in its bounds -/
def OKm (t : Nat → Int) : Prop := MS t ∧ t 2 ≤ t 4
theorem OKm_ite {a b : Nat → Int} {P : Prop} [Decidable P] (ha : P → OKm a) (hb : ¬ P → OKm b) : OKm (if P then a else b) := by
  by_cases h : P
  · rw [if_pos h]
    exact ha h
  · rw [if_neg h]
    exact hb h
theorem OKm_up {s : Nat → Int} {k : Nat} {x : Int} (h : OKm s) (hk : k ≠ 0 ∧ k ≠ 1 ∧ k ≠ 2 ∧ k ≠ 3 ∧ k ≠ 4 ∧ k ≠ 6 ∧ k ≠ 7 ∧ ¬ (32 ≤ k ∧ k < 42)) (hx : bd x) : OKm (up s k x) := ⟨MS_up h.1 (by omega) hx, by rw [up_ne (by omega), up_ne (by omega)]; exact h.2⟩
theorem OKm_mg {s : Nat → Int} {n : Nat} (h : OKm s) : OKm (mgS n s) := ⟨(mg_MS n h.1 h.2).1, (mg_MS n h.1 h.2).2.1⟩
theorem OKm_wt {s : Nat → Int} {x y : Int} (h : OKm s) (h3 : s 3 < 60) (hx : 0 ≤ x ∧ x < 12) (hy : bd y) (hc : bd (s (20 + x.toNat) + 1)) : OKm (wtS s x y) := ⟨MS_wt h.1 h3 hx hy hc, by rw [wtS_ne (by omega) hx, wtS_ne (by omega) hx]; exact h.2⟩
theorem OKm_att {s : Nat → Int} {x y : Int} (h : OKm s) : OKm (msAtt s x y) := by
  have h0 := h.1.2
  unfold msAtt
  exact OKm_ite (fun _ => h) (fun q => OKm_ite (fun _ => h) (fun _ => OKm_up h (by omega) (by omega)))
theorem OKm_pro {s : Nat → Int} {x y : Int} (h : OKm s) : OKm (msPro s x y) := by
  have h0 := h.1.2
  unfold msPro
  exact OKm_ite (fun _ => h) (fun q => OKm_ite (fun _ => h) (fun q2 => OKm_ite (fun _ => h) (fun _ => OKm_mg (OKm_wt h (by omega) (by omega) (by omega) (by omega)))))
theorem OKm_sec {s : Nat → Int} {x y : Int} (h : OKm s) : OKm (msSec s x y) := by
  have h0 := h.1.2
  unfold msSec
  exact OKm_ite (fun _ => h) (fun q => OKm_ite (fun _ => h) (fun q2 => OKm_mg (OKm_up h (by omega) (by omega))))
theorem OKm_lea {s : Nat → Int} {x : Int} (h : OKm s) : OKm (msLea s x) := by
  have h0 := h.1.2
  have b := h.1.1 (20 + x.toNat)
  unfold msLea
  exact OKm_ite (fun _ => h) (fun q => OKm_ite (fun _ => h) (fun q2 => OKm_up h (by omega) (by omega)))
theorem OKm_cmd {s : Nat → Int} {c x y : Int} (h : OKm s) : OKm (mcS s c x y) := by
  unfold mcS
  exact OKm_ite (fun _ => OKm_pro h) (fun _ => OKm_ite (fun _ => OKm_sec h) (fun _ => OKm_ite (fun _ => OKm_lea h) (fun _ => OKm_ite (fun _ => OKm_att h) (fun _ => OKm_att h))))
theorem OKm_d {t s s1 : Nat → Int} {ty at_ c0 v1 q1 v2 q2 : Int} (h : OKm s) (h1 : OKm s1) : OKm (dSt t ty at_ c0 v1 q1 v2 q2 s s1) := by
  unfold dSt
  exact OKm_ite (fun _ => h) (fun _ => OKm_ite (fun _ => h) (fun _ => OKm_ite (fun _ => h) (fun _ => h1)))
theorem rg_mc {s : Nat → Int} {c x y : Int} (h : OKm s) : rg (mcA s c x y) := by
  have h0 := h.1.2
  have hat : ∀ z, bd z → rg (maAtt s x z) := fun z hz => by
    unfold maAtt
    by_cases q1 : ¬ (0 ≤ x ∧ x < s 0) ∨ ¬ (0 ≤ z ∧ z ≤ 1)
    · rw [if_pos q1]
      decide
    · rw [if_neg q1]
      by_cases q2 : s (8 + x.toNat) = z
      · rw [if_pos q2]
        decide
      · rw [if_neg q2]
        have hb := sm_bd (f := fun i => up s (8 + x.toNat) z (8 + i)) (fun k => bd_up h.1.1 hz _) (up s (8 + x.toNat) z 0).toNat
        rw [show up s (8 + x.toNat) z 0 = s 0 from up_ne (by omega)] at hb ⊢
        omega
  have hle : rg (maLea s x) := by
    unfold maLea
    have b := h.1.1 (20 + x.toNat)
    by_cases q1 : ¬ (0 ≤ x ∧ x < s 0)
    · rw [if_pos q1]
      decide
    · rw [if_neg q1]
      by_cases q2 : s (8 + x.toNat) ≠ 1
      · rw [if_pos q2]
        decide
      · rw [if_neg q2]
        omega
  have hpr : bd (maPro s x y) := by
    unfold maPro
    exact bd_ite (fun _ => by omega) (fun q1 => bd_ite (fun _ => by omega) (fun q2 => bd_ite (fun _ => by omega) (fun q3 => bd_ite (fun _ => by omega) (fun _ => by omega))))
  have hse : bd (maSec s x y) := by
    unfold maSec
    refine bd_ite (fun _ => by omega) (fun q1 => bd_ite (fun _ => by omega) (fun q2 => ?_))
    have ho : OKm (up s (20 + x.toNat) (s (20 + x.toNat) + 1)) := OKm_up h (by omega) (by omega)
    have k := mg_rg ho.1 ho.2 (up s (20 + x.toNat) (s (20 + x.toNat) + 1) 3 - up s (20 + x.toNat) (s (20 + x.toNat) + 1) 4).toNat
    omega
  have a1 := hat 1 (by omega)
  have a0 := hat 0 (by omega)
  unfold mcA
  by_cases q1 : c = 112
  · rw [if_pos q1]; omega
  rw [if_neg q1]
  by_cases q2 : c = 115
  · rw [if_pos q2]; omega
  rw [if_neg q2]
  by_cases q3 : c = 108
  · rw [if_pos q3]; omega
  rw [if_neg q3]
  by_cases q4 : c = 98
  · rw [if_pos q4]; exact a1
  rw [if_neg q4]
  exact a0
