/-! reachable, on both sides -/
/-- how far the reference's copy c of the state has gone, with all that may second -/
def RcP (m cR c : Nat → Int) (i : Nat) : Prop := (c 4 = (i : Int) ∧ c 3 = m 3 ∧ c 1 = m 1 ∧ (∀ k, k < 12 → c (20 + k) = cR (20 + k)) ∧ ((c 5 = m 5 ∧ (∀ j, 32 ≤ j ∧ j < 42 → c j = m j) ∧ (m 5 = -9 ∨ (i : Int) ≤ m 5)) ∨ (m 5 ≠ -9 ∧ m 5 < (i : Int) ∧ c 5 = -9 ∧ ∀ k : Nat, (k : Int) < m 1 → c (32 + k) = m (37 + k))))
theorem cR_at {m cR : Nat → Int} (h : Inv m) (e_cR : cR = blk m 20 (fun k => if (seatL (fun i => m (32 + i)) ((k : Int)) (m 1).toNat ≠ -9 ∨ seatL (fun i => m ((if m 5 ≠ -9 then (37 : Int) else 32).toNat + i)) ((k : Int)) (m 1).toNat ≠ -9) ∧ m (8 + k) = 1 then m 3 else m (20 + k)) (m 0).toNat) {v : Int} (hv : 0 ≤ v ∧ v < m 0) (he : seatL (fun i => m (32 + i)) v (m 1).toNat ≠ -9 ∨ seatL (fun i => m ((if m 5 ≠ -9 then (37 : Int) else 32).toNat + i)) v (m 1).toNat ≠ -9) {i : Nat} (hi : (i : Int) < m 3) : (i : Int) < cR (20 + v.toNat) ↔ (((0 ≤ (v) ∧ (v) < m 0) ∧ ((i : Int)) < m (20 + (v).toNat)) ∨ (((1) : Int) ≠ 0 ∧ ((0 ≤ (v) ∧ (v) < m 0) ∧ m (8 + (v).toNat) = 1))) := by
  have q : cR (20 + v.toNat) = if m (8 + v.toNat) = 1 then m 3 else m (20 + v.toNat) := by
    rw [e_cR, blk_in (by omega)]
    show (if _ ∧ m (8 + v.toNat) = 1 then m 3 else m (20 + v.toNat)) = _
    rw [Int.toNat_of_nonneg hv.1]
    by_cases c : m (8 + v.toNat) = 1
    · rw [if_pos ⟨he, c⟩, if_pos c]
    · rw [if_neg (fun r => c r.2), if_neg c]
  rw [q]
  by_cases c : m (8 + v.toNat) = 1
  · rw [if_pos c]
    exact ⟨fun _ => Or.inr ⟨by omega, hv, c⟩, fun _ => hi⟩
  · rw [if_neg c]
    constructor
    · exact fun r => Or.inl ⟨hv, r⟩
    · rintro (r | r)
      · exact r.2
      · exact absurd r.2.2 c
theorem b2i_1 {P : Prop} [Decidable P] (h : b2i P = 1) : P := by
  by_cases p : P
  · exact p
  · rw [b2i_f p] at h
    omega
theorem seatL_self {el : Nat → Int} {k n : Nat} (hk : k < n) : seatL el (el k) n ≠ -9 := fun q => (seatL_none n).mp q k hk rfl
theorem rc_old {m cR : Nat → Int} (h : Inv m) (e_cR : cR = blk m 20 (fun k => if (seatL (fun i => m (32 + i)) ((k : Int)) (m 1).toNat ≠ -9 ∨ seatL (fun i => m ((if m 5 ≠ -9 then (37 : Int) else 32).toNat + i)) ((k : Int)) (m 1).toNat ≠ -9) ∧ m (8 + k) = 1 then m 3 else m (20 + k)) (m 0).toNat) {i : Nat} (hi : (i : Int) < m 3) : sm (fun k => b2i ((i : Int) < cR (20 + (m (32 + k)).toNat))) (m 1).toNat = sm (fun k => b2i ((((0 ≤ (m (32 + k)) ∧ (m (32 + k)) < m 0) ∧ ((i : Int)) < m (20 + (m (32 + k)).toNat)) ∨ (((1) : Int) ≠ 0 ∧ ((0 ≤ (m (32 + k)) ∧ (m (32 + k)) < m 0) ∧ m (8 + (m (32 + k)).toNat) = 1))))) (m 1).toNat := sm_b2i (fun k hk => cR_at h e_cR (h.old (i := k) (by omega)) (Or.inl (seatL_self (el := fun i => m (32 + i)) hk)) hi)
theorem rc_new {m cR : Nat → Int} (h : Inv m) (e_cR : cR = blk m 20 (fun k => if (seatL (fun i => m (32 + i)) ((k : Int)) (m 1).toNat ≠ -9 ∨ seatL (fun i => m ((if m 5 ≠ -9 then (37 : Int) else 32).toNat + i)) ((k : Int)) (m 1).toNat ≠ -9) ∧ m (8 + k) = 1 then m 3 else m (20 + k)) (m 0).toNat) {i : Nat} (hi : (i : Int) < m 3) : sm (fun k => b2i ((i : Int) < cR (20 + (nwO m k).toNat))) (m 1).toNat = sm (fun k => b2i ((((0 ≤ (nwO m k) ∧ (nwO m k) < m 0) ∧ ((i : Int)) < m (20 + (nwO m k).toNat)) ∨ (((1) : Int) ≠ 0 ∧ ((0 ≤ (nwO m k) ∧ (nwO m k) < m 0) ∧ m (8 + (nwO m k).toNat) = 1))))) (m 1).toNat := sm_b2i (fun k hk => by
  have e := nwO_at h.1.2.2.2.2.1 (i := k) (by omega)
  refine cR_at h e_cR (h.newO (i := k) (by omega)) (Or.inr ?_) hi
  rw [e]
  exact seatL_self (el := fun i => m ((if m 5 ≠ -9 then (37 : Int) else 32).toNat + i)) hk)
theorem rc_cond {m cR c : Nat → Int} {i : Nat} (h : Inv m) (e_cR : cR = blk m 20 (fun k => if (seatL (fun i => m (32 + i)) ((k : Int)) (m 1).toNat ≠ -9 ∨ seatL (fun i => m ((if m 5 ≠ -9 then (37 : Int) else 32).toNat + i)) ((k : Int)) (m 1).toNat ≠ -9) ∧ m (8 + k) = 1 then m 3 else m (20 + k)) (m 0).toNat) (hi : (i : Int) < m 3) (r : RcP m cR c i) : cnM c ↔ (m 1 / 2 + 1 ≤ sm (fun k => b2i ((((0 ≤ (nwO m k) ∧ (nwO m k) < m 0) ∧ ((i : Int)) < m (20 + (nwO m k).toNat)) ∨ (((1) : Int) ≠ 0 ∧ ((0 ≤ (nwO m k) ∧ (nwO m k) < m 0) ∧ m (8 + (nwO m k).toNat) = 1))))) (m 1).toNat ∧ (¬ (m 5 ≠ -9 ∧ ((i : Int)) ≤ m 5) ∨ m 1 / 2 + 1 ≤ sm (fun k => b2i ((((0 ≤ (m (32 + k)) ∧ (m (32 + k)) < m 0) ∧ ((i : Int)) < m (20 + (m (32 + k)).toNat)) ∨ (((1) : Int) ≠ 0 ∧ ((0 ≤ (m (32 + k)) ∧ (m (32 + k)) < m 0) ∧ m (8 + (m (32 + k)).toNat) = 1))))) (m 1).toNat)) := by
  obtain ⟨r4, r3, r1, rc, rr⟩ := r
  have h1 := h.1.2.2.2.1
  have h15 := h.1.2.2.2.2.1
  have h12 := h.1.2.2.1
  unfold cnM
  rw [r4, r3, r1, ← rc_old h e_cR hi, ← rc_new h e_cR hi]
  rcases rr with ⟨r5, rm, rb⟩ | ⟨r5, rb, rn, rm⟩
  · have eO : sm (fun k => b2i ((i : Int) < c (20 + (c (32 + k)).toNat))) (m 1).toNat = sm (fun k => b2i ((i : Int) < cR (20 + (m (32 + k)).toNat))) (m 1).toNat := sm_b2i (fun k hk => by
      have o := h.old (i := k) (by omega)
      rw [rm (32 + k) (by omega), rc (m (32 + k)).toNat (by omega)])
    have eN : sm (fun k => b2i ((i : Int) < c (20 + (c ((if c 5 ≠ -9 then (37 : Int) else 32).toNat + k)).toNat))) (m 1).toNat = sm (fun k => b2i ((i : Int) < cR (20 + (nwO m k).toNat))) (m 1).toNat := sm_b2i (fun k hk => by
      have o := h.newO (i := k) (by omega)
      have e := nwO_at h15 (i := k) (by omega)
      have e2 : c ((if c 5 ≠ -9 then (37 : Int) else 32).toNat + k) = nwO m k := by
        rw [e, r5]
        by_cases c5 : m 5 ≠ -9
        · rw [if_pos c5]
          exact rm _ (by omega)
        · rw [if_neg c5]
          exact rm _ (by omega)
      rw [e2, rc (nwO m k).toNat (by omega)])
    rw [eO, eN]
    by_cases c5 : m 5 = -9
    · have e : sm (fun k => b2i ((i : Int) < cR (20 + (nwO m k).toNat))) (m 1).toNat = sm (fun k => b2i ((i : Int) < cR (20 + (m (32 + k)).toNat))) (m 1).toNat := sm_b2i (fun k hk => by
        rw [nwO_at h15 (by omega), if_neg (show ¬ m 5 ≠ -9 by omega)]
        exact Iff.rfl)
      rw [e]
      generalize sm (fun k => b2i ((i : Int) < cR (20 + (m (32 + k)).toNat))) (m 1).toNat = A
      omega
    · generalize sm (fun k => b2i ((i : Int) < cR (20 + (m (32 + k)).toNat))) (m 1).toNat = A
      generalize sm (fun k => b2i ((i : Int) < cR (20 + (nwO m k).toNat))) (m 1).toNat = B
      omega
  · have eO : sm (fun k => b2i ((i : Int) < c (20 + (c (32 + k)).toNat))) (m 1).toNat = sm (fun k => b2i ((i : Int) < cR (20 + (nwO m k).toNat))) (m 1).toNat := sm_b2i (fun k hk => by
      have o := h.newO (i := k) (by omega)
      have e := nwO_at h15 (i := k) (by omega)
      rw [if_pos r5] at e
      have e2 : c (32 + k) = nwO m k := by
        rw [rm k (by omega)]
        exact e.symm
      rw [e2, rc (nwO m k).toNat (by omega)])
    have eN : sm (fun k => b2i ((i : Int) < c (20 + (c ((if c 5 ≠ -9 then (37 : Int) else 32).toNat + k)).toNat))) (m 1).toNat = sm (fun k => b2i ((i : Int) < c (20 + (c (32 + k)).toNat))) (m 1).toNat := sm_b2i (fun k hk => by
      rw [if_neg (show ¬ c 5 ≠ -9 by omega)]
      exact Iff.rfl)
    rw [eN, eO]
    generalize sm (fun k => b2i ((i : Int) < cR (20 + (m (32 + k)).toNat))) (m 1).toNat = A
    generalize sm (fun k => b2i ((i : Int) < cR (20 + (nwO m k).toNat))) (m 1).toNat = B
    omega
theorem rc_step {m cR c : Nat → Int} {i : Nat} (h : Inv m) (hi : (i : Int) < m 3) (r : RcP m cR c i) : RcP m cR (mgStep c) (i + 1) := by
  obtain ⟨r4, r3, r1, rc, rr⟩ := r
  have h1 := h.1.2.2.2.1
  have h15 := h.1.2.2.2.2.1
  have q1 : up c 4 (c 4 + 1) 1 = c 1 := up_ne (by omega)
  by_cases he : c 4 = c 5
  · have es : mgStep c = endM (up c 4 (c 4 + 1)) := if_pos he
    have e : ∀ j, j ≠ 2 → j ≠ 4 → j ≠ 5 → ¬ (32 ≤ j ∧ j < 37) → mgStep c j = c j := fun j a b d f => by
      rw [es, endM_ne (by omega) ⟨a, d, f⟩, up_ne b]
    rcases rr with ⟨r5, rm, rb⟩ | ⟨r5, rb, rn, rm⟩
    · refine ⟨?_, (e 3 (by omega) (by omega) (by omega) (by omega)).trans r3, (e 1 (by omega) (by omega) (by omega) (by omega)).trans r1, fun k hk => (e (20 + k) (by omega) (by omega) (by omega) (by omega)).trans (rc k hk), Or.inr ⟨by omega, by omega, ?_, fun k hk => ?_⟩⟩
      · rw [es, endM_ne (by omega) (by omega), up_at rfl]
        omega
      · rw [es]
        exact endM_5
      · rw [es, endM_el (by omega) (by omega), q1, if_pos (by omega), up_ne (by omega)]
        exact rm (37 + k) (by omega)
    · omega
  · have es : mgStep c = up c 4 (c 4 + 1) := if_neg he
    have e : ∀ j, j ≠ 4 → mgStep c j = c j := fun j a => by
      rw [es, up_ne a]
    refine ⟨?_, (e 3 (by omega)).trans r3, (e 1 (by omega)).trans r1, fun k hk => (e (20 + k) (by omega)).trans (rc k hk), ?_⟩
    · rw [es, up_at rfl]
      omega
    · rcases rr with ⟨r5, rm, rb⟩ | ⟨r5, rb, rn, rm⟩
      · exact Or.inl ⟨(e 5 (by omega)).trans r5, fun j hj => (e j (by omega)).trans (rm j hj), by omega⟩
      · exact Or.inr ⟨r5, by omega, (e 5 (by omega)).trans rn, fun k hk => (e (32 + k) (by omega)).trans (rm k hk)⟩
theorem rc_go {m cR : Nat → Int} (h : Inv m) (e_cR : cR = blk m 20 (fun k => if (seatL (fun i => m (32 + i)) ((k : Int)) (m 1).toNat ≠ -9 ∨ seatL (fun i => m ((if m 5 ≠ -9 then (37 : Int) else 32).toNat + i)) ((k : Int)) (m 1).toNat ≠ -9) ∧ m (8 + k) = 1 then m 3 else m (20 + k)) (m 0).toNat) : ∀ (n : Nat) {c : Nat → Int} {i : Nat}, RcP m cR c i → (i : Int) + n = m 3 → ((runL (fun i => b2i ((m 1) / 2 + 1 ≤ sm (fun k => b2i (((0 ≤ ((nwO m) k) ∧ ((nwO m) k) < m 0) ∧ ((i : Int)) < m (20 + ((nwO m) k).toNat)) ∨ (((1) : Int) ≠ 0 ∧ ((0 ≤ ((nwO m) k) ∧ ((nwO m) k) < m 0) ∧ m (8 + ((nwO m) k).toNat) = 1)))) (m 1).toNat ∧ (¬ (m 5 ≠ -9 ∧ ((i : Int)) ≤ m 5) ∨ m 1 / 2 + 1 ≤ sm (fun k => b2i (((0 ≤ (m (32 + k)) ∧ (m (32 + k)) < m 0) ∧ ((i : Int)) < m (20 + (m (32 + k)).toNat)) ∨ (((1) : Int) ≠ 0 ∧ ((0 ≤ (m (32 + k)) ∧ (m (32 + k)) < m 0) ∧ m (8 + (m (32 + k)).toNat) = 1)))) (m 1).toNat))) i n : Nat) : Int) = mgS n c 4
  | 0, c, i, r, _ => r.1.symm
  | n + 1, c, i, r, hn => by
    have hi : (i : Int) < m 3 := by omega
    have k := rc_cond h e_cR hi r
    by_cases hc : cnM c
    · rw [mgS_pos hc, ← rc_go h e_cR n (rc_step h hi r) (by omega)]
      simp only [runL]
      rw [if_pos (b2i_t (k.mp hc))]
    · rw [mgS_neg hc, r.1]
      simp only [runL]
      rw [if_neg (by rw [b2i_f (fun q => hc (k.mpr q))]; omega)]
theorem reach_eq {m cR : Nat → Int} (h : Inv m) (e_cR : cR = blk m 20 (fun k => if (seatL (fun i => m (32 + i)) ((k : Int)) (m 1).toNat ≠ -9 ∨ seatL (fun i => m ((if m 5 ≠ -9 then (37 : Int) else 32).toNat + i)) ((k : Int)) (m 1).toNat ≠ -9) ∧ m (8 + k) = 1 then m 3 else m (20 + k)) (m 0).toNat) : (runL (fun i => b2i ((m 1) / 2 + 1 ≤ sm (fun k => b2i (((0 ≤ ((nwO m) k) ∧ ((nwO m) k) < m 0) ∧ ((i : Int)) < m (20 + ((nwO m) k).toNat)) ∨ (((1) : Int) ≠ 0 ∧ ((0 ≤ ((nwO m) k) ∧ ((nwO m) k) < m 0) ∧ m (8 + ((nwO m) k).toNat) = 1)))) (m 1).toNat ∧ (¬ (m 5 ≠ -9 ∧ ((i : Int)) ≤ m 5) ∨ m 1 / 2 + 1 ≤ sm (fun k => b2i (((0 ≤ (m (32 + k)) ∧ (m (32 + k)) < m 0) ∧ ((i : Int)) < m (20 + (m (32 + k)).toNat)) ∨ (((1) : Int) ≠ 0 ∧ ((0 ≤ (m (32 + k)) ∧ (m (32 + k)) < m 0) ∧ m (8 + (m (32 + k)).toNat) = 1)))) (m 1).toNat))) (m 4).toNat (m 3 - m 4).toNat : Int) - m 4 = (if m 1 = 0 then (0) else ((mgS ((cR) 3 - (cR) 4).toNat (cR)) 4 - cR 4)) := by
  have h1 := h.1.2.2.2.1
  have h4 := h.1.2.2.2.2.2.2.2.1
  have h43 := h.1.2.2.2.2.2.2.2.2.1
  have h0 := h.1.2.1
  have h12 := h.1.2.2.1
  have e : ∀ j, ¬ (20 ≤ j ∧ j < 32) → cR j = m j := fun j hj => by
    rw [e_cR, blk_out (by omega)]
  by_cases c1 : m 1 = 0
  · rw [if_pos c1]
    have z : ∀ (f : Nat → Int), (∀ i, f i ≠ 1) → ∀ (n i : Nat), runL f i n = i := fun f hf n i => by
      cases n with
      | zero => rfl
      | succ n =>
        simp only [runL]
        rw [if_neg (hf i)]
    have hz : ∀ i : Nat, (fun i => b2i ((m 1) / 2 + 1 ≤ sm (fun k => b2i (((0 ≤ ((nwO m) k) ∧ ((nwO m) k) < m 0) ∧ ((i : Int)) < m (20 + ((nwO m) k).toNat)) ∨ (((1) : Int) ≠ 0 ∧ ((0 ≤ ((nwO m) k) ∧ ((nwO m) k) < m 0) ∧ m (8 + ((nwO m) k).toNat) = 1)))) (m 1).toNat ∧ (¬ (m 5 ≠ -9 ∧ ((i : Int)) ≤ m 5) ∨ m 1 / 2 + 1 ≤ sm (fun k => b2i (((0 ≤ (m (32 + k)) ∧ (m (32 + k)) < m 0) ∧ ((i : Int)) < m (20 + (m (32 + k)).toNat)) ∨ (((1) : Int) ≠ 0 ∧ ((0 ≤ (m (32 + k)) ∧ (m (32 + k)) < m 0) ∧ m (8 + (m (32 + k)).toNat) = 1)))) (m 1).toNat))) i ≠ 1 := fun i r => by
      have q1 := (b2i_1 r).1
      rw [show (m 1).toNat = 0 by omega] at q1
      have q2 : m 1 / 2 + 1 ≤ 0 := q1
      omega
    rw [z _ hz]
    omega
  · rw [if_neg c1, e 3 (by omega), e 4 (by omega)]
    have g := rc_go h e_cR (m 3 - m 4).toNat (c := cR) (i := (m 4).toNat) ⟨by rw [e 4 (by omega)]; omega, e 3 (by omega), e 1 (by omega), fun _ _ => rfl, Or.inl ⟨e 5 (by omega), fun j hj => e j (by omega), by have := h.h45; omega⟩⟩ (by omega)
    rw [g]
